section ZzT
/-- views of the reference: its fields as numbers, its arrays as functions -/
def vpl (c : Zc) (m j : Nat) : Nat := (zgr c m 12 j).getD 0
def vaf (c : Zc) (m j : Nat) : Nat → Int32 := rdf c (vpl c m j)
def vfi (c : Zc) (m j : Nat) : Int := match zgi c m 12 j with
  | some x => x.toInt
  | none => 0
theorem zai_x {c : Zc} {k t : Nat} {i v : Int32} (h : zai c k t i = some v) : ∃ n f, c[k]? = some (.inl (t, n, .inl f)) ∧ 0 ≤ i.toInt ∧ i.toInt < n ∧ v = f i.toInt.toNat := by
  unfold zai at h
  split at h
  · rename_i t' n f e
    by_cases q : t' = t ∧ ¬ (i < 0 ∨ n ≤ i.toNatClampNeg)
    · rw [if_pos q] at h
      obtain ⟨rfl, q2⟩ := q
      have h0 : 0 ≤ i.toInt := by
        rcases Int.lt_or_le i.toInt 0 with z | z
        · exact absurd (Or.inl (Int32.lt_iff_toInt_lt.mpr (by have : (0 : Int32).toInt = 0 := by decide
                                                              omega))) q2
        · exact z
      have h1 : i.toInt < n := by
        rcases Int.lt_or_le i.toInt n with z | z
        · exact z
        · exact absurd (Or.inr (by rw [i_tn]; omega)) q2
      refine ⟨n, f, e, h0, h1, ?_⟩
      cases h; rw [i_tn]
    · rw [if_neg q] at h; cases h
  · cases h
section
variable {G : List Nat} {M : List (Nat × Nat)} {c c' : Zc} {m : Nat}
theorem vfi_e {j : Nat} {x : Int32} (h : zgi c m 12 j = some x) : vfi c m j = x.toInt := by unfold vfi; rw [h]
theorem vfi_fr {j : Nat} (F : Zfr G M c c') (t : G[m]? = some 64) (hm : (64, j) ∉ M) : vfi c' m j = vfi c m j := by unfold vfi; rw [Zfr.gi F t hm]
theorem rdf_rr (c : Zc) (k : Nat) : rdf c k = match zrr c k with
    | some (_, _, .inl f) => f
    | _ => fun _ => 0 := by
  unfold rdf zrr
  cases c[k]? with
  | none => rfl
  | some e =>
    cases e with
    | inl a => obtain ⟨t', n, a⟩ := a; cases a <;> rfl
    | inr a => rfl
theorem vaf_fr {j T : Nat} (F : Zfr G M c c') (t : G[m]? = some 64) (hk : ∃ k, zgr c m 12 j = some k ∧ G[k]? = some T) (h1 : (64, j) ∉ M) (h2 : (T, 0) ∉ M) : vaf c' m j = vaf c m j := by
  obtain ⟨k, e, tk⟩ := hk
  have e' := (Zfr.gr (ci := 12) F t h1).trans e
  unfold vaf vpl
  rw [e, e', rdf_rr, rdf_rr]
  simp only [Option.getD_some]
  rw [(F k T tk).2.1 h2]
theorem vaf_r {j k t : Nat} {i v : Int32} (e : zgr c m 12 j = some k) (r : zai c k t i = some v) : v = vaf c m j i.toInt.toNat ∧ 0 ≤ i.toInt := by
  obtain ⟨n, f, h1, h2, h3, h4⟩ := zai_x r
  refine ⟨?_, h2⟩
  unfold vaf vpl
  rw [e]
  simp only [Option.getD_some]
  rw [rdf_e h1, h4]
theorem vaf_w {j k t : Nat} {i x : Int32} (e : zgr c m 12 j = some k) (w : zsi c k t i x = some c') : vaf c' m j = upd (vaf c m j) i.toInt.toNat x ∧ 0 ≤ i.toInt := by
  obtain ⟨n, f, h1, h2, rfl⟩ := zsi_x w
  have hl : k < c.length := (List.getElem?_eq_some_iff.mp h1).1
  have hmk : m ≠ k := by
    rintro rfl
    unfold zgr zgv at e
    rw [h1] at e
    cases e
  have h0 : 0 ≤ i.toInt := by
    rcases Int.lt_or_le i.toInt 0 with z | z
    · exact absurd (Or.inl (Int32.lt_iff_toInt_lt.mpr (by have : (0 : Int32).toInt = 0 := by decide
                                                          omega))) h2
    · exact z
  refine ⟨?_, h0⟩
  unfold vaf vpl
  rw [rw_gr hmk, e]
  simp only [Option.getD_some]
  rw [rdf_e h1, rdf_e (List.getElem?_set_self hl), i_tn]
end
-- codes that have been written: what they leave on the stack
def Cdp (f g : Nat → Int32) (i0 : Nat) : Nat → Int → Prop
  | 0, d => d = 0
  | n + 1, d => ∃ d' : Int, Cdp f g i0 n d' ∧ ((pushC (f (i0 + n)) (g (i0 + n)) ∧ d = d' + 1) ∨ (oneC (f (i0 + n)) ∧ 1 ≤ d' ∧ d = d') ∨ (twoC (f (i0 + n)) ∧ 2 ≤ d' ∧ d = d' - 1))
theorem Cdp_le {f g : Nat → Int32} {i0 : Nat} : ∀ {n : Nat} {d : Int}, Cdp f g i0 n d → 0 ≤ d ∧ d ≤ n := by
  intro n
  induction n with
  | zero => intro d h; have : d = 0 := h; omega
  | succ n ih =>
    intro d h
    obtain ⟨d', h1, h2⟩ := h
    have := ih h1
    rcases h2 with ⟨_, q⟩ | ⟨_, _, q⟩ | ⟨_, _, q⟩ <;> omega
theorem Cdp_cg {f g f' g' : Nat → Int32} {i0 : Nat} : ∀ {n : Nat} {d : Int}, (∀ i, i < n → f' (i0 + i) = f (i0 + i) ∧ g' (i0 + i) = g (i0 + i)) → Cdp f g i0 n d → Cdp f' g' i0 n d := by
  intro n
  induction n with
  | zero => intro d _ h; exact h
  | succ n ih =>
    intro d hc h
    obtain ⟨d', h1, h2⟩ := h
    refine ⟨d', ih (fun i hi => hc i (by omega)) h1, ?_⟩
    rw [(hc n (by omega)).1, (hc n (by omega)).2]
    exact h2
def CdE (f g : Nat → Int32) (s x e : Nat) : Prop := ∃ (n : Nat) (d : Int), x + n + 1 ≤ e ∧ n ≤ 250 ∧ Cdp f g (512 * s + x) n d ∧ (f (512 * s + x + n)).toInt = 99
theorem CdE_cg {f g f' g' : Nat → Int32} {s x e : Nat} (hc : ∀ i, x ≤ i → i < e → f' (512 * s + i) = f (512 * s + i) ∧ g' (512 * s + i) = g (512 * s + i)) (h : CdE f g s x e) : CdE f' g' s x e := by
  obtain ⟨n, d, h1, h2, h3, h4⟩ := h
  refine ⟨n, d, h1, h2, Cdp_cg (fun i hi => ?_) h3, ?_⟩
  · have := hc (x + i) (by omega) (by omega)
    rw [← Nat.add_assoc] at this
    exact this
  · have := (hc (x + n) (by omega) (by omega)).1
    rw [← Nat.add_assoc] at this
    rw [this]; exact h4
theorem CdE_m {f g : Nat → Int32} {s x e e' : Nat} (h : CdE f g s x e) (he : e ≤ e') : CdE f g s x e' := by
  obtain ⟨n, d, h1, h2⟩ := h
  exact ⟨n, d, by omega, h2⟩
theorem WFr_of {c : Zc} {kc ka : Nat} {f g : Nat → Int32} {i0 : Int32} (h1 : c[kc]? = some (.inl (0, 4608, .inl f))) (h2 : c[ka]? = some (.inl (0, 4608, .inl g))) (hi : 0 ≤ i0.toInt) :
    ∀ {n : Nat} {d : Int} {r : Nat}, i0.toInt + n < 4608 → n ≤ 250 → Cdp f g i0.toInt.toNat n d → (∀ i : Int32, i.toInt = i0.toInt + n → WFr c kc ka r i d) → WFr c kc ka (n + r) i0 0 := by
  intro n
  induction n with
  | zero =>
    intro d r _ _ h hr
    have : d = 0 := h
    subst this
    rw [Nat.zero_add]
    exact hr i0 (by omega)
  | succ n ih =>
    intro d r hn hl h hr
    obtain ⟨d', h3, h4⟩ := h
    have hd := Cdp_le h3
    rw [show n + 1 + r = n + (r + 1) by omega]
    refine ih (by omega) (by omega) h3 (fun i hq => ?_)
    have e1 : i.toInt.toNat = i0.toInt.toNat + n := by omega
    have l1 : (1 : Int32).toInt = 1 := by decide
    have e2 : (i + 1).toInt = i.toInt + 1 := by rw [i_add (by omega) (by omega), l1]
    refine ⟨f i.toInt.toNat, g i.toInt.toNat, rd_ai h1 (by omega) (by omega), rd_ai h2 (by omega) (by omega), ?_⟩
    rw [e1]
    have hw := hr (i + 1) (by omega)
    rcases h4 with ⟨p, q⟩ | ⟨p, q, z⟩ | ⟨p, q, z⟩
    · subst q; exact .inl ⟨p, by omega, hw⟩
    · subst z; exact .inr (.inl ⟨p, q, hw⟩)
    · subst z; exact .inr (.inr ⟨p, q, hw⟩)
def s7 (x : Int32) : Prop := 0 ≤ x.toInt ∧ x.toInt ≤ 7
/-- text s is sound, and lies in its own zone -/
def TzF (A : Nat → Nat → Int32) (s : Nat) : Prop := (∀ w : Nat, w < 11 → (w : Int) < (A 31 s).toInt → s7 (A 33 (11 * s + w)) ∧ s7 (A 34 (11 * s + w))) ∧ ((A 46 s).toInt < 0 ∨ CdE (A 50) (A 51) s (A 46 s).toInt.toNat 512) ∧ ∀ k : Nat, k < 8 → (k : Int) < (A 43 s).toInt → (A 44 (8 * s + k)).toInt = 109 ∨ CdE (A 50) (A 51) s (A 45 (8 * s + k)).toInt.toNat 512
def TzG (A : Nat → Nat → Int32) (s : Nat) : Prop := s7 (A 48 s) ∧ s7 (A 49 s)
def sdj (j : Nat) : Nat := if j = 33 ∨ j = 34 then 11 else if j = 44 ∨ j = 45 then 8 else if j = 50 ∨ j = 51 then 512 else 1
abbrev ZL : List Nat := [31, 33, 34, 43, 44, 45, 46, 48, 49, 50, 51]
/-- text s has stayed as it was -/
def Zq (A A' : Nat → Nat → Int32) (s : Nat) : Prop := ∀ j ∈ ZL, ∀ i, sdj j * s ≤ i → i < sdj j * s + sdj j → A' j i = A j i
theorem Zq_1 {A A' : Nat → Nat → Int32} {s j : Nat} (h : Zq A A' s) (hj : j ∈ ZL) (hs : sdj j = 1) : A' j s = A j s := h j hj s (by rw [hs]; omega) (by rw [hs]; omega)
theorem Zq_n {A A' : Nat → Nat → Int32} {s j n i : Nat} (h : Zq A A' s) (hj : j ∈ ZL) (hs : sdj j = n) (hi : i < n) : A' j (n * s + i) = A j (n * s + i) := h j hj _ (by rw [hs]; omega) (by rw [hs]; omega)
theorem TzF_q {A A' : Nat → Nat → Int32} {s : Nat} (q : Zq A A' s) (h : TzF A s) : TzF A' s := by
  obtain ⟨h1, h2, h3⟩ := h
  have hcd : ∀ x, CdE (A 50) (A 51) s x 512 → CdE (A' 50) (A' 51) s x 512 := fun x => CdE_cg (fun i _ hi => ⟨Zq_n q (by decide) (by decide) hi, Zq_n q (by decide) (by decide) hi⟩)
  refine ⟨fun w hw hl => ?_, ?_, fun k hk hl => ?_⟩
  · rw [Zq_1 q (by decide) (by decide)] at hl
    rw [Zq_n q (by decide) (by decide) hw, Zq_n q (by decide) (by decide) hw]
    exact h1 w hw hl
  · rw [Zq_1 q (by decide) (by decide)]
    exact h2.imp id (hcd _)
  · rw [Zq_1 q (by decide) (by decide)] at hl
    rw [Zq_n q (by decide) (by decide) hk, Zq_n q (by decide) (by decide) hk]
    exact (h3 k hk hl).imp id (hcd _)
theorem TzG_q {A A' : Nat → Nat → Int32} {s : Nat} (q : Zq A A' s) (h : TzG A s) : TzG A' s := by
  unfold TzG at *
  rw [Zq_1 q (by decide) (by decide), Zq_1 q (by decide) (by decide)]
  exact h
def GtF (A : Nat → Nat → Int32) : Prop := ∀ k : Nat, k < 8 → (A 23 k).toInt ≠ 0 → TzF A (A 22 k).toInt.toNat ∧ (4 ≤ k → TzG A (A 22 k).toInt.toNat)
def Dst (A : Nat → Nat → Int32) (d : Nat) : Prop := (∀ k : Nat, k < 8 → (A 22 k).toInt.toNat ≠ d) ∧ ∀ i j : Nat, i < 8 → j < 8 → i ≠ j → (A 22 i).toInt.toNat ≠ (A 22 j).toInt.toNat
/-- every text that is there is sound; no two slots, nor the draft, share a text -/
def GtW (c : Zc) (m : Nat) : Prop := GtF (vaf c m) ∧ Dst (vaf c m) (vfi c m 24).toNat
def GtP (c : Zc) (m : Nat) : Prop := GtW c m ∧ vfi c m 25 = vfi c m 24
theorem GtW_q {c c' : Zc} {m : Nat} (h : GtW c m) (e1 : vaf c' m 22 = vaf c m 22) (e2 : vaf c' m 23 = vaf c m 23) (e3 : vfi c' m 24 = vfi c m 24) (hq : ∀ s, s ≠ (vfi c m 24).toNat → Zq (vaf c m) (vaf c' m) s) : GtW c' m := by
  obtain ⟨h1, h2⟩ := h
  refine ⟨fun k hk ht => ?_, ?_⟩
  · rw [e2] at ht
    rw [e1]
    have q := hq _ (h2.1 k hk)
    have := h1 k hk ht
    exact ⟨TzF_q q this.1, fun h4 => TzG_q q (this.2 h4)⟩
  · unfold Dst
    rw [e1, e3]
    exact h2
abbrev GTV : List (Nat × Nat) := [(64, 22), (64, 23), (64, 31), (64, 33), (64, 34), (64, 43), (64, 44), (64, 45), (64, 46), (64, 48), (64, 49), (64, 50), (64, 51), (64, 24), (77, 0), (78, 0), (84, 0), (86, 0), (87, 0), (96, 0), (97, 0), (98, 0), (99, 0), (101, 0), (102, 0), (103, 0), (104, 0)]
section
variable {G : List Nat} {M : List (Nat × Nat)} {c c' : Zc} {m : Nat}
theorem GtW_fr (h : GtW c m) (F : Zfr G M c c') (t : G[m]? = some 64) (W : Zwt zty G c) (hM : ∀ x ∈ GTV, x ∉ M) : GtW c' m := by
  refine GtW_q h (vaf_fr F t (gf_64_22 W t) (hM _ (by decide)) (hM _ (by decide))) (vaf_fr F t (gf_64_23 W t) (hM _ (by decide)) (hM _ (by decide))) (vfi_fr F t (hM _ (by decide))) (fun s _ j hj i _ _ => ?_)
  have e31 := vaf_fr F t (gf_64_31 W t) (hM _ (by decide)) (hM _ (by decide))
  have e33 := vaf_fr F t (gf_64_33 W t) (hM _ (by decide)) (hM _ (by decide))
  have e34 := vaf_fr F t (gf_64_34 W t) (hM _ (by decide)) (hM _ (by decide))
  have e43 := vaf_fr F t (gf_64_43 W t) (hM _ (by decide)) (hM _ (by decide))
  have e44 := vaf_fr F t (gf_64_44 W t) (hM _ (by decide)) (hM _ (by decide))
  have e45 := vaf_fr F t (gf_64_45 W t) (hM _ (by decide)) (hM _ (by decide))
  have e46 := vaf_fr F t (gf_64_46 W t) (hM _ (by decide)) (hM _ (by decide))
  have e48 := vaf_fr F t (gf_64_48 W t) (hM _ (by decide)) (hM _ (by decide))
  have e49 := vaf_fr F t (gf_64_49 W t) (hM _ (by decide)) (hM _ (by decide))
  have e50 := vaf_fr F t (gf_64_50 W t) (hM _ (by decide)) (hM _ (by decide))
  have e51 := vaf_fr F t (gf_64_51 W t) (hM _ (by decide)) (hM _ (by decide))
  simp only [List.mem_cons, List.not_mem_nil, or_false] at hj
  rcases hj with rfl | rfl | rfl | rfl | rfl | rfl | rfl | rfl | rfl | rfl | rfl
  · rw [e31]
  · rw [e33]
  · rw [e34]
  · rw [e43]
  · rw [e44]
  · rw [e45]
  · rw [e46]
  · rw [e48]
  · rw [e49]
  · rw [e50]
  · rw [e51]
theorem GtP_fr (h : GtP c m) (F : Zfr G M c c') (t : G[m]? = some 64) (W : Zwt zty G c) (hM : (∀ x ∈ GTV, x ∉ M) ∧ (64, 25) ∉ M) : GtP c' m := ⟨GtW_fr h.1 F t W hM.1, by rw [vfi_fr F t hM.2, vfi_fr F t (hM.1 _ (by decide))]; exact h.2⟩
theorem GtP_w {j0 k t : Nat} {i x pv : Int32} (h : GtP c m) (ep : zgi c m 12 25 = some pv) (e : zgr c m 12 j0 = some k) (w : zsi c k t i x = some c') (ho : ∀ j ∈ 22 :: 23 :: ZL, j ≠ j0 → vaf c' m j = vaf c m j) (h22 : j0 ≠ 22) (h23 : j0 ≠ 23) (h24 : vfi c' m 24 = vfi c m 24) (h25 : vfi c' m 25 = vfi c m 25) {S : Nat} (hS : sdj j0 = S) (l : S * pv.toInt ≤ i.toInt) (u : i.toInt < S * pv.toInt + S) (hp : 0 ≤ pv.toInt) : GtP c' m := by
  obtain ⟨hw, hi⟩ := vaf_w e w
  have hp2 : (vfi c m 24).toNat = pv.toInt.toNat := by rw [← h.2, vfi_e ep]
  refine ⟨GtW_q h.1 (ho 22 (by decide) (Ne.symm h22)) (ho 23 (by decide) (Ne.symm h23)) h24 (fun s hs j hj q l2 u2 => ?_), by rw [h24, h25]; exact h.2⟩
  by_cases z : j = j0
  · subst z
    rw [hw, upd_n]
    rw [hS] at l2 u2
    intro hq
    rw [hp2] at hs
    rcases Nat.lt_or_gt_of_ne hs with y | y
    · have := Nat.mul_le_mul_left S y
      have e2 : S * (s + 1) = S * s + S := Nat.mul_succ S s
      have e3 : ((S * pv.toInt.toNat : Nat) : Int) = S * pv.toInt := by rw [Int.natCast_mul, Int.toNat_of_nonneg hp]
      have e4 : S * s.succ = S * s + S := Nat.mul_succ S s
      omega
    · have := Nat.mul_le_mul_left S y
      have e3 : ((S * pv.toInt.toNat : Nat) : Int) = S * pv.toInt := by rw [Int.natCast_mul, Int.toNat_of_nonneg hp]
      have e4 : S * (pv.toInt.toNat).succ = S * pv.toInt.toNat + S := Nat.mul_succ S _
      omega
  · rw [ho j (List.mem_cons_of_mem _ (List.mem_cons_of_mem _ hj)) z]
end
section
variable {G : List Nat} {c c' : Zc} {m k t : Nat} {i x pv : Int32}
theorem GtP_w31 (h : GtP c m) (W : Zwt zty G c) (tm : G[m]? = some 64) (F : Zfr G [(84, 0)] c c') (ep : zgi c m 12 25 = some pv) (e : zgr c m 12 31 = some k) (w : zsi c k t i x = some c') (l : 1 * pv.toInt ≤ i.toInt) (u : i.toInt < 1 * pv.toInt + 1) (hp : 0 ≤ pv.toInt) : GtP c' m := by
  refine GtP_w (S := 1) h ep e w (fun j hj hn => ?_) (by decide) (by decide) (vfi_fr F tm (by decide)) (vfi_fr F tm (by decide)) (by decide) l u hp
  simp only [List.mem_cons, List.not_mem_nil, or_false] at hj
  rcases hj with rfl | rfl | rfl | rfl | rfl | rfl | rfl | rfl | rfl | rfl | rfl | rfl | rfl
  · exact vaf_fr F tm (gf_64_22 W tm) (by decide) (by decide)
  · exact vaf_fr F tm (gf_64_23 W tm) (by decide) (by decide)
  · exact absurd rfl hn
  · exact vaf_fr F tm (gf_64_33 W tm) (by decide) (by decide)
  · exact vaf_fr F tm (gf_64_34 W tm) (by decide) (by decide)
  · exact vaf_fr F tm (gf_64_43 W tm) (by decide) (by decide)
  · exact vaf_fr F tm (gf_64_44 W tm) (by decide) (by decide)
  · exact vaf_fr F tm (gf_64_45 W tm) (by decide) (by decide)
  · exact vaf_fr F tm (gf_64_46 W tm) (by decide) (by decide)
  · exact vaf_fr F tm (gf_64_48 W tm) (by decide) (by decide)
  · exact vaf_fr F tm (gf_64_49 W tm) (by decide) (by decide)
  · exact vaf_fr F tm (gf_64_50 W tm) (by decide) (by decide)
  · exact vaf_fr F tm (gf_64_51 W tm) (by decide) (by decide)
theorem GtP_w33 (h : GtP c m) (W : Zwt zty G c) (tm : G[m]? = some 64) (F : Zfr G [(86, 0)] c c') (ep : zgi c m 12 25 = some pv) (e : zgr c m 12 33 = some k) (w : zsi c k t i x = some c') (l : 11 * pv.toInt ≤ i.toInt) (u : i.toInt < 11 * pv.toInt + 11) (hp : 0 ≤ pv.toInt) : GtP c' m := by
  refine GtP_w (S := 11) h ep e w (fun j hj hn => ?_) (by decide) (by decide) (vfi_fr F tm (by decide)) (vfi_fr F tm (by decide)) (by decide) l u hp
  simp only [List.mem_cons, List.not_mem_nil, or_false] at hj
  rcases hj with rfl | rfl | rfl | rfl | rfl | rfl | rfl | rfl | rfl | rfl | rfl | rfl | rfl
  · exact vaf_fr F tm (gf_64_22 W tm) (by decide) (by decide)
  · exact vaf_fr F tm (gf_64_23 W tm) (by decide) (by decide)
  · exact vaf_fr F tm (gf_64_31 W tm) (by decide) (by decide)
  · exact absurd rfl hn
  · exact vaf_fr F tm (gf_64_34 W tm) (by decide) (by decide)
  · exact vaf_fr F tm (gf_64_43 W tm) (by decide) (by decide)
  · exact vaf_fr F tm (gf_64_44 W tm) (by decide) (by decide)
  · exact vaf_fr F tm (gf_64_45 W tm) (by decide) (by decide)
  · exact vaf_fr F tm (gf_64_46 W tm) (by decide) (by decide)
  · exact vaf_fr F tm (gf_64_48 W tm) (by decide) (by decide)
  · exact vaf_fr F tm (gf_64_49 W tm) (by decide) (by decide)
  · exact vaf_fr F tm (gf_64_50 W tm) (by decide) (by decide)
  · exact vaf_fr F tm (gf_64_51 W tm) (by decide) (by decide)
theorem GtP_w34 (h : GtP c m) (W : Zwt zty G c) (tm : G[m]? = some 64) (F : Zfr G [(87, 0)] c c') (ep : zgi c m 12 25 = some pv) (e : zgr c m 12 34 = some k) (w : zsi c k t i x = some c') (l : 11 * pv.toInt ≤ i.toInt) (u : i.toInt < 11 * pv.toInt + 11) (hp : 0 ≤ pv.toInt) : GtP c' m := by
  refine GtP_w (S := 11) h ep e w (fun j hj hn => ?_) (by decide) (by decide) (vfi_fr F tm (by decide)) (vfi_fr F tm (by decide)) (by decide) l u hp
  simp only [List.mem_cons, List.not_mem_nil, or_false] at hj
  rcases hj with rfl | rfl | rfl | rfl | rfl | rfl | rfl | rfl | rfl | rfl | rfl | rfl | rfl
  · exact vaf_fr F tm (gf_64_22 W tm) (by decide) (by decide)
  · exact vaf_fr F tm (gf_64_23 W tm) (by decide) (by decide)
  · exact vaf_fr F tm (gf_64_31 W tm) (by decide) (by decide)
  · exact vaf_fr F tm (gf_64_33 W tm) (by decide) (by decide)
  · exact absurd rfl hn
  · exact vaf_fr F tm (gf_64_43 W tm) (by decide) (by decide)
  · exact vaf_fr F tm (gf_64_44 W tm) (by decide) (by decide)
  · exact vaf_fr F tm (gf_64_45 W tm) (by decide) (by decide)
  · exact vaf_fr F tm (gf_64_46 W tm) (by decide) (by decide)
  · exact vaf_fr F tm (gf_64_48 W tm) (by decide) (by decide)
  · exact vaf_fr F tm (gf_64_49 W tm) (by decide) (by decide)
  · exact vaf_fr F tm (gf_64_50 W tm) (by decide) (by decide)
  · exact vaf_fr F tm (gf_64_51 W tm) (by decide) (by decide)
theorem GtP_w43 (h : GtP c m) (W : Zwt zty G c) (tm : G[m]? = some 64) (F : Zfr G [(96, 0)] c c') (ep : zgi c m 12 25 = some pv) (e : zgr c m 12 43 = some k) (w : zsi c k t i x = some c') (l : 1 * pv.toInt ≤ i.toInt) (u : i.toInt < 1 * pv.toInt + 1) (hp : 0 ≤ pv.toInt) : GtP c' m := by
  refine GtP_w (S := 1) h ep e w (fun j hj hn => ?_) (by decide) (by decide) (vfi_fr F tm (by decide)) (vfi_fr F tm (by decide)) (by decide) l u hp
  simp only [List.mem_cons, List.not_mem_nil, or_false] at hj
  rcases hj with rfl | rfl | rfl | rfl | rfl | rfl | rfl | rfl | rfl | rfl | rfl | rfl | rfl
  · exact vaf_fr F tm (gf_64_22 W tm) (by decide) (by decide)
  · exact vaf_fr F tm (gf_64_23 W tm) (by decide) (by decide)
  · exact vaf_fr F tm (gf_64_31 W tm) (by decide) (by decide)
  · exact vaf_fr F tm (gf_64_33 W tm) (by decide) (by decide)
  · exact vaf_fr F tm (gf_64_34 W tm) (by decide) (by decide)
  · exact absurd rfl hn
  · exact vaf_fr F tm (gf_64_44 W tm) (by decide) (by decide)
  · exact vaf_fr F tm (gf_64_45 W tm) (by decide) (by decide)
  · exact vaf_fr F tm (gf_64_46 W tm) (by decide) (by decide)
  · exact vaf_fr F tm (gf_64_48 W tm) (by decide) (by decide)
  · exact vaf_fr F tm (gf_64_49 W tm) (by decide) (by decide)
  · exact vaf_fr F tm (gf_64_50 W tm) (by decide) (by decide)
  · exact vaf_fr F tm (gf_64_51 W tm) (by decide) (by decide)
theorem GtP_w44 (h : GtP c m) (W : Zwt zty G c) (tm : G[m]? = some 64) (F : Zfr G [(97, 0)] c c') (ep : zgi c m 12 25 = some pv) (e : zgr c m 12 44 = some k) (w : zsi c k t i x = some c') (l : 8 * pv.toInt ≤ i.toInt) (u : i.toInt < 8 * pv.toInt + 8) (hp : 0 ≤ pv.toInt) : GtP c' m := by
  refine GtP_w (S := 8) h ep e w (fun j hj hn => ?_) (by decide) (by decide) (vfi_fr F tm (by decide)) (vfi_fr F tm (by decide)) (by decide) l u hp
  simp only [List.mem_cons, List.not_mem_nil, or_false] at hj
  rcases hj with rfl | rfl | rfl | rfl | rfl | rfl | rfl | rfl | rfl | rfl | rfl | rfl | rfl
  · exact vaf_fr F tm (gf_64_22 W tm) (by decide) (by decide)
  · exact vaf_fr F tm (gf_64_23 W tm) (by decide) (by decide)
  · exact vaf_fr F tm (gf_64_31 W tm) (by decide) (by decide)
  · exact vaf_fr F tm (gf_64_33 W tm) (by decide) (by decide)
  · exact vaf_fr F tm (gf_64_34 W tm) (by decide) (by decide)
  · exact vaf_fr F tm (gf_64_43 W tm) (by decide) (by decide)
  · exact absurd rfl hn
  · exact vaf_fr F tm (gf_64_45 W tm) (by decide) (by decide)
  · exact vaf_fr F tm (gf_64_46 W tm) (by decide) (by decide)
  · exact vaf_fr F tm (gf_64_48 W tm) (by decide) (by decide)
  · exact vaf_fr F tm (gf_64_49 W tm) (by decide) (by decide)
  · exact vaf_fr F tm (gf_64_50 W tm) (by decide) (by decide)
  · exact vaf_fr F tm (gf_64_51 W tm) (by decide) (by decide)
theorem GtP_w45 (h : GtP c m) (W : Zwt zty G c) (tm : G[m]? = some 64) (F : Zfr G [(98, 0)] c c') (ep : zgi c m 12 25 = some pv) (e : zgr c m 12 45 = some k) (w : zsi c k t i x = some c') (l : 8 * pv.toInt ≤ i.toInt) (u : i.toInt < 8 * pv.toInt + 8) (hp : 0 ≤ pv.toInt) : GtP c' m := by
  refine GtP_w (S := 8) h ep e w (fun j hj hn => ?_) (by decide) (by decide) (vfi_fr F tm (by decide)) (vfi_fr F tm (by decide)) (by decide) l u hp
  simp only [List.mem_cons, List.not_mem_nil, or_false] at hj
  rcases hj with rfl | rfl | rfl | rfl | rfl | rfl | rfl | rfl | rfl | rfl | rfl | rfl | rfl
  · exact vaf_fr F tm (gf_64_22 W tm) (by decide) (by decide)
  · exact vaf_fr F tm (gf_64_23 W tm) (by decide) (by decide)
  · exact vaf_fr F tm (gf_64_31 W tm) (by decide) (by decide)
  · exact vaf_fr F tm (gf_64_33 W tm) (by decide) (by decide)
  · exact vaf_fr F tm (gf_64_34 W tm) (by decide) (by decide)
  · exact vaf_fr F tm (gf_64_43 W tm) (by decide) (by decide)
  · exact vaf_fr F tm (gf_64_44 W tm) (by decide) (by decide)
  · exact absurd rfl hn
  · exact vaf_fr F tm (gf_64_46 W tm) (by decide) (by decide)
  · exact vaf_fr F tm (gf_64_48 W tm) (by decide) (by decide)
  · exact vaf_fr F tm (gf_64_49 W tm) (by decide) (by decide)
  · exact vaf_fr F tm (gf_64_50 W tm) (by decide) (by decide)
  · exact vaf_fr F tm (gf_64_51 W tm) (by decide) (by decide)
theorem GtP_w46 (h : GtP c m) (W : Zwt zty G c) (tm : G[m]? = some 64) (F : Zfr G [(99, 0)] c c') (ep : zgi c m 12 25 = some pv) (e : zgr c m 12 46 = some k) (w : zsi c k t i x = some c') (l : 1 * pv.toInt ≤ i.toInt) (u : i.toInt < 1 * pv.toInt + 1) (hp : 0 ≤ pv.toInt) : GtP c' m := by
  refine GtP_w (S := 1) h ep e w (fun j hj hn => ?_) (by decide) (by decide) (vfi_fr F tm (by decide)) (vfi_fr F tm (by decide)) (by decide) l u hp
  simp only [List.mem_cons, List.not_mem_nil, or_false] at hj
  rcases hj with rfl | rfl | rfl | rfl | rfl | rfl | rfl | rfl | rfl | rfl | rfl | rfl | rfl
  · exact vaf_fr F tm (gf_64_22 W tm) (by decide) (by decide)
  · exact vaf_fr F tm (gf_64_23 W tm) (by decide) (by decide)
  · exact vaf_fr F tm (gf_64_31 W tm) (by decide) (by decide)
  · exact vaf_fr F tm (gf_64_33 W tm) (by decide) (by decide)
  · exact vaf_fr F tm (gf_64_34 W tm) (by decide) (by decide)
  · exact vaf_fr F tm (gf_64_43 W tm) (by decide) (by decide)
  · exact vaf_fr F tm (gf_64_44 W tm) (by decide) (by decide)
  · exact vaf_fr F tm (gf_64_45 W tm) (by decide) (by decide)
  · exact absurd rfl hn
  · exact vaf_fr F tm (gf_64_48 W tm) (by decide) (by decide)
  · exact vaf_fr F tm (gf_64_49 W tm) (by decide) (by decide)
  · exact vaf_fr F tm (gf_64_50 W tm) (by decide) (by decide)
  · exact vaf_fr F tm (gf_64_51 W tm) (by decide) (by decide)
theorem GtP_w48 (h : GtP c m) (W : Zwt zty G c) (tm : G[m]? = some 64) (F : Zfr G [(101, 0)] c c') (ep : zgi c m 12 25 = some pv) (e : zgr c m 12 48 = some k) (w : zsi c k t i x = some c') (l : 1 * pv.toInt ≤ i.toInt) (u : i.toInt < 1 * pv.toInt + 1) (hp : 0 ≤ pv.toInt) : GtP c' m := by
  refine GtP_w (S := 1) h ep e w (fun j hj hn => ?_) (by decide) (by decide) (vfi_fr F tm (by decide)) (vfi_fr F tm (by decide)) (by decide) l u hp
  simp only [List.mem_cons, List.not_mem_nil, or_false] at hj
  rcases hj with rfl | rfl | rfl | rfl | rfl | rfl | rfl | rfl | rfl | rfl | rfl | rfl | rfl
  · exact vaf_fr F tm (gf_64_22 W tm) (by decide) (by decide)
  · exact vaf_fr F tm (gf_64_23 W tm) (by decide) (by decide)
  · exact vaf_fr F tm (gf_64_31 W tm) (by decide) (by decide)
  · exact vaf_fr F tm (gf_64_33 W tm) (by decide) (by decide)
  · exact vaf_fr F tm (gf_64_34 W tm) (by decide) (by decide)
  · exact vaf_fr F tm (gf_64_43 W tm) (by decide) (by decide)
  · exact vaf_fr F tm (gf_64_44 W tm) (by decide) (by decide)
  · exact vaf_fr F tm (gf_64_45 W tm) (by decide) (by decide)
  · exact vaf_fr F tm (gf_64_46 W tm) (by decide) (by decide)
  · exact absurd rfl hn
  · exact vaf_fr F tm (gf_64_49 W tm) (by decide) (by decide)
  · exact vaf_fr F tm (gf_64_50 W tm) (by decide) (by decide)
  · exact vaf_fr F tm (gf_64_51 W tm) (by decide) (by decide)
theorem GtP_w49 (h : GtP c m) (W : Zwt zty G c) (tm : G[m]? = some 64) (F : Zfr G [(102, 0)] c c') (ep : zgi c m 12 25 = some pv) (e : zgr c m 12 49 = some k) (w : zsi c k t i x = some c') (l : 1 * pv.toInt ≤ i.toInt) (u : i.toInt < 1 * pv.toInt + 1) (hp : 0 ≤ pv.toInt) : GtP c' m := by
  refine GtP_w (S := 1) h ep e w (fun j hj hn => ?_) (by decide) (by decide) (vfi_fr F tm (by decide)) (vfi_fr F tm (by decide)) (by decide) l u hp
  simp only [List.mem_cons, List.not_mem_nil, or_false] at hj
  rcases hj with rfl | rfl | rfl | rfl | rfl | rfl | rfl | rfl | rfl | rfl | rfl | rfl | rfl
  · exact vaf_fr F tm (gf_64_22 W tm) (by decide) (by decide)
  · exact vaf_fr F tm (gf_64_23 W tm) (by decide) (by decide)
  · exact vaf_fr F tm (gf_64_31 W tm) (by decide) (by decide)
  · exact vaf_fr F tm (gf_64_33 W tm) (by decide) (by decide)
  · exact vaf_fr F tm (gf_64_34 W tm) (by decide) (by decide)
  · exact vaf_fr F tm (gf_64_43 W tm) (by decide) (by decide)
  · exact vaf_fr F tm (gf_64_44 W tm) (by decide) (by decide)
  · exact vaf_fr F tm (gf_64_45 W tm) (by decide) (by decide)
  · exact vaf_fr F tm (gf_64_46 W tm) (by decide) (by decide)
  · exact vaf_fr F tm (gf_64_48 W tm) (by decide) (by decide)
  · exact absurd rfl hn
  · exact vaf_fr F tm (gf_64_50 W tm) (by decide) (by decide)
  · exact vaf_fr F tm (gf_64_51 W tm) (by decide) (by decide)
theorem GtP_w50 (h : GtP c m) (W : Zwt zty G c) (tm : G[m]? = some 64) (F : Zfr G [(103, 0)] c c') (ep : zgi c m 12 25 = some pv) (e : zgr c m 12 50 = some k) (w : zsi c k t i x = some c') (l : 512 * pv.toInt ≤ i.toInt) (u : i.toInt < 512 * pv.toInt + 512) (hp : 0 ≤ pv.toInt) : GtP c' m := by
  refine GtP_w (S := 512) h ep e w (fun j hj hn => ?_) (by decide) (by decide) (vfi_fr F tm (by decide)) (vfi_fr F tm (by decide)) (by decide) l u hp
  simp only [List.mem_cons, List.not_mem_nil, or_false] at hj
  rcases hj with rfl | rfl | rfl | rfl | rfl | rfl | rfl | rfl | rfl | rfl | rfl | rfl | rfl
  · exact vaf_fr F tm (gf_64_22 W tm) (by decide) (by decide)
  · exact vaf_fr F tm (gf_64_23 W tm) (by decide) (by decide)
  · exact vaf_fr F tm (gf_64_31 W tm) (by decide) (by decide)
  · exact vaf_fr F tm (gf_64_33 W tm) (by decide) (by decide)
  · exact vaf_fr F tm (gf_64_34 W tm) (by decide) (by decide)
  · exact vaf_fr F tm (gf_64_43 W tm) (by decide) (by decide)
  · exact vaf_fr F tm (gf_64_44 W tm) (by decide) (by decide)
  · exact vaf_fr F tm (gf_64_45 W tm) (by decide) (by decide)
  · exact vaf_fr F tm (gf_64_46 W tm) (by decide) (by decide)
  · exact vaf_fr F tm (gf_64_48 W tm) (by decide) (by decide)
  · exact vaf_fr F tm (gf_64_49 W tm) (by decide) (by decide)
  · exact absurd rfl hn
  · exact vaf_fr F tm (gf_64_51 W tm) (by decide) (by decide)
theorem GtP_w51 (h : GtP c m) (W : Zwt zty G c) (tm : G[m]? = some 64) (F : Zfr G [(104, 0)] c c') (ep : zgi c m 12 25 = some pv) (e : zgr c m 12 51 = some k) (w : zsi c k t i x = some c') (l : 512 * pv.toInt ≤ i.toInt) (u : i.toInt < 512 * pv.toInt + 512) (hp : 0 ≤ pv.toInt) : GtP c' m := by
  refine GtP_w (S := 512) h ep e w (fun j hj hn => ?_) (by decide) (by decide) (vfi_fr F tm (by decide)) (vfi_fr F tm (by decide)) (by decide) l u hp
  simp only [List.mem_cons, List.not_mem_nil, or_false] at hj
  rcases hj with rfl | rfl | rfl | rfl | rfl | rfl | rfl | rfl | rfl | rfl | rfl | rfl | rfl
  · exact vaf_fr F tm (gf_64_22 W tm) (by decide) (by decide)
  · exact vaf_fr F tm (gf_64_23 W tm) (by decide) (by decide)
  · exact vaf_fr F tm (gf_64_31 W tm) (by decide) (by decide)
  · exact vaf_fr F tm (gf_64_33 W tm) (by decide) (by decide)
  · exact vaf_fr F tm (gf_64_34 W tm) (by decide) (by decide)
  · exact vaf_fr F tm (gf_64_43 W tm) (by decide) (by decide)
  · exact vaf_fr F tm (gf_64_44 W tm) (by decide) (by decide)
  · exact vaf_fr F tm (gf_64_45 W tm) (by decide) (by decide)
  · exact vaf_fr F tm (gf_64_46 W tm) (by decide) (by decide)
  · exact vaf_fr F tm (gf_64_48 W tm) (by decide) (by decide)
  · exact vaf_fr F tm (gf_64_49 W tm) (by decide) (by decide)
  · exact vaf_fr F tm (gf_64_50 W tm) (by decide) (by decide)
  · exact absurd rfl hn
end
end ZzT
