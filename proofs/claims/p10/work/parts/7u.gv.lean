section ZzT
/-- views of the class's graph -/
def gpl (c : Zc) (m j : Nat) : Nat := (zgr c m 0 j).getD 0
def gaf (c : Zc) (m j : Nat) : Nat → Int32 := rdf c (gpl c m j)
def gfi (c : Zc) (m j : Nat) : Int := match zgi c m 0 j with
  | some x => x.toInt
  | none => 0
section
variable {G : List Nat} {M : List (Nat × Nat)} {c c' : Zc} {m : Nat}
theorem gfi_e {j : Nat} {x : Int32} (h : zgi c m 0 j = some x) : gfi c m j = x.toInt := by unfold gfi; rw [h]
theorem gfi_fr {j : Nat} (F : Zfr G M c c') (t : G[m]? = some 1) (hm : (1, j) ∉ M) : gfi c' m j = gfi c m j := by unfold gfi; rw [Zfr.gi F t hm]
theorem gaf_fr {j T : Nat} (F : Zfr G M c c') (t : G[m]? = some 1) (hk : ∃ k, zgr c m 0 j = some k ∧ G[k]? = some T) (h1 : (1, j) ∉ M) (h2 : (T, 0) ∉ M) : gaf c' m j = gaf c m j := by
  obtain ⟨k, e, tk⟩ := hk
  have e' := (Zfr.gr (ci := 0) F t h1).trans e
  unfold gaf gpl
  rw [e, e', rdf_rr, rdf_rr]
  simp only [Option.getD_some]
  rw [(F k T tk).2.1 h2]
theorem gaf_r {j k t : Nat} {i v : Int32} (e : zgr c m 0 j = some k) (r : zai c k t i = some v) : v = gaf c m j i.toInt.toNat ∧ 0 ≤ i.toInt := by
  obtain ⟨n, f, h1, h2, h3, h4⟩ := zai_x r
  refine ⟨?_, h2⟩
  unfold gaf gpl
  rw [e]
  simp only [Option.getD_some]
  rw [rdf_e h1, h4]
theorem gaf_w {j k t : Nat} {i x : Int32} (e : zgr c m 0 j = some k) (w : zsi c k t i x = some c') : gaf c' m j = upd (gaf c m j) i.toInt.toNat x ∧ 0 ≤ i.toInt := by
  obtain ⟨n, f, h1, h2, rfl⟩ := zsi_x w
  have hl : k < c.length := (List.getElem?_eq_some_iff.mp h1).1
  have hmk : m ≠ k := by
    rintro rfl
    unfold zgr zgv at e
    rw [h1] at e
    cases e
  have h0 : 0 ≤ i.toInt := by
    rcases Int.lt_or_le i.toInt 0 with z | z
    · exact absurd (Or.inl (Int32.lt_iff_toInt_lt.mpr (by have : (0 : Int32).toInt = 0 := by decide
                                                          omega))) h2
    · exact z
  refine ⟨?_, h0⟩
  unfold gaf gpl
  rw [rw_gr hmk, e]
  simp only [Option.getD_some]
  rw [rdf_e h1, rdf_e (List.getElem?_set_self hl), i_tn]
end
/-- columns of which k from lo on have become 0 -/
def CzF (A F : Nat → Int32) (lo : Int) (k : Int32) : Prop := ∀ i : Nat, i < 64 → A i = if lo ≤ (i : Int) ∧ (i : Int) < lo + k.toInt then 0 else F i
theorem CzF_0 {A F : Nat → Int32} {lo : Int} {k : Int32} (h : A = F) (hk : k.toInt = 0) : CzF A F lo k := fun i _ => by rw [h, if_neg (by omega)]
theorem CzF_w {A F : Nat → Int32} {lo : Int} {k k' : Int32} {j : Nat} (h : CzF A F lo k) (hj : (j : Int) = lo + k.toInt) (hk : k'.toInt = k.toInt + 1) (h0 : 0 ≤ k.toInt) : CzF (upd A j 0) F lo k' := by
  intro i hi
  by_cases z : i = j
  · subst z
    rw [upd_s, if_pos (by omega)]
  · rw [upd_n z, h i hi]
    by_cases y : lo ≤ (i : Int) ∧ (i : Int) < lo + k.toInt
    · rw [if_pos y, if_pos (by omega)]
    · rw [if_neg y, if_neg (by omega)]
def CZm (c : Zc) (m : Nat) (F : Nat → Int32) (lo : Int) (k : Int32) : Prop := CzF (vaf c m 2) F lo k
def CZg (c : Zc) (m : Nat) (F : Nat → Int32) (lo : Int) (k : Int32) : Prop := CzF (gaf c m 1) F lo k
section
variable {G : List Nat} {M : List (Nat × Nat)} {c c' : Zc} {m p t : Nat} {F : Nat → Int32} {lo : Int} {k k' i x : Int32}
theorem CZm_fr (h : CZm c m F lo k) (Fr : Zfr G M c c') (tm : G[m]? = some 64) (W : Zwt zty G c) (hM : (64, 2) ∉ M ∧ (66, 0) ∉ M) : CZm c' m F lo k := by
  unfold CZm
  rw [vaf_fr Fr tm (gf_64_2 W tm) hM.1 hM.2]
  exact h
theorem CZg_fr (h : CZg c m F lo k) (Fr : Zfr G M c c') (tm : G[m]? = some 1) (W : Zwt zty G c) (hM : (1, 1) ∉ M ∧ (16, 0) ∉ M) : CZg c' m F lo k := by
  unfold CZg
  rw [gaf_fr Fr tm (gf_1_1 W tm) hM.1 hM.2]
  exact h
theorem CZm_w (h : CZm c m F lo k) (e : zgr c m 12 2 = some p) (w : zsi c p t i 0 = some c') (hi : i.toInt = lo + k.toInt) (hk : k'.toInt = k.toInt + 1) (h0 : 0 ≤ k.toInt) (h1 : 0 ≤ i.toInt) : CZm c' m F lo k' := by
  unfold CZm
  rw [(vaf_w e w).1]
  exact CzF_w h (by omega) hk h0
theorem CZg_w (h : CZg c m F lo k) (e : zgr c m 0 1 = some p) (w : zsi c p t i 0 = some c') (hi : i.toInt = lo + k.toInt) (hk : k'.toInt = k.toInt + 1) (h0 : 0 ≤ k.toInt) (h1 : 0 ≤ i.toInt) : CZg c' m F lo k' := by
  unfold CZg
  rw [(gaf_w e w).1]
  exact CzF_w h (by omega) hk h0
theorem CZ_m {k'' : Int32} (h : CZm c m F lo k) (e : k''.toInt = k.toInt) : CZm c m F lo k'' := fun i hi => by rw [h i hi, e]
theorem CZ_g {k'' : Int32} (h : CZg c m F lo k) (e : k''.toInt = k.toInt) : CZg c m F lo k'' := fun i hi => by rw [h i hi, e]
end
/-- the two graphs agree on nodes, marks and columns -/
def GCo (c : Zc) (g m : Nat) : Prop := gfi c g 7 = vfi c m 0 ∧ (∀ i : Nat, i < 16 → gaf c g 0 i = vaf c m 1 i) ∧ (∀ i : Nat, i < 64 → gaf c g 1 i = vaf c m 2 i) ∧ ∀ i : Nat, i < 64 → 4 * gfi c g 7 ≤ i → gaf c g 1 i = 0
/-- what a step leaves of the two graphs -/
def GSg (c q : Zc) (g : Nat) : Prop := gfi q g 7 = gfi c g 7 ∧ gaf q g 0 = gaf c g 0 ∧ gaf q g 1 = gaf c g 1
def GSm (c q : Zc) (m : Nat) : Prop := vfi q m 0 = vfi c m 0 ∧ vaf q m 1 = vaf c m 1 ∧ vaf q m 2 = vaf c m 2
section
variable {G : List Nat} {M : List (Nat × Nat)} {c q q' : Zc} {g m : Nat} {nd a a1 a2 a3 r r' : Int32}
theorem GSg_fr (F : Zfr G M c q) (t : G[g]? = some 1) (W : Zwt zty G c) (hM : ∀ x ∈ ([(1, 7), (1, 0), (1, 1), (15, 0), (16, 0)] : List (Nat × Nat)), x ∉ M) : GSg c q g := ⟨gfi_fr F t (hM _ (by decide)), gaf_fr F t (gf_1_0 W t) (hM _ (by decide)) (hM _ (by decide)), gaf_fr F t (gf_1_1 W t) (hM _ (by decide)) (hM _ (by decide))⟩
theorem GSm_fr (F : Zfr G M c q) (t : G[m]? = some 64) (W : Zwt zty G c) (hM : ∀ x ∈ ([(64, 0), (64, 1), (64, 2), (65, 0), (66, 0)] : List (Nat × Nat)), x ∉ M) : GSm c q m := ⟨vfi_fr F t (hM _ (by decide)), vaf_fr F t (gf_64_1 W t) (hM _ (by decide)) (hM _ (by decide)), vaf_fr F t (gf_64_2 W t) (hM _ (by decide)) (hM _ (by decide))⟩
theorem GCo_s (h : GCo c g m) (s : GSg c q g) (t : GSm c q m) : GCo q g m := by
  unfold GCo
  rw [s.1, s.2.1, s.2.2, t.1, t.2.1, t.2.2]
  exact h
theorem GCo_node (h : GCo c g m) (hnd : gfi c g 7 = nd.toInt) (h0 : 0 ≤ nd.toInt) (s1 : (gfi q g 7 = nd.toInt ∧ gaf q g 0 = gaf c g 0) ∨ (gfi q g 7 = nd.toInt + 1 ∧ gaf q g 0 = upd (gaf c g 0) nd.toInt.toNat a)) (k1 : gaf q g 1 = gaf c g 1) (t : GSm c q m) (s2 : (vfi q' m 0 = nd.toInt ∧ vaf q' m 1 = vaf q m 1) ∨ (vfi q' m 0 = nd.toInt + 1 ∧ vaf q' m 1 = upd (vaf q m 1) nd.toInt.toNat a)) (s3 : (vfi q' m 0 = nd.toInt ∧ vaf q' m 2 = vaf q m 2) ∨ (vfi q' m 0 = nd.toInt + 1 ∧ CZm q' m (vaf q m 2) (4 * nd.toInt) 4)) (s : GSg q q' g) (he : gfi q g 7 = vfi q' m 0) : GCo q' g m := by
  obtain ⟨a0, a1, a2, a3⟩ := h
  obtain ⟨t0, t1, t2⟩ := t
  have l4 : (4 : Int32).toInt = 4 := by decide
  unfold GCo
  rw [s.1, s.2.1, s.2.2, k1]
  rw [hnd] at a3
  refine ⟨he, fun i hi => ?_, fun i hi => ?_, fun i hi hl => a3 i hi (by omega)⟩
  · rcases s1 with ⟨y1, y2⟩ | ⟨y1, y2⟩ <;> rcases s2 with ⟨z1, z2⟩ | ⟨z1, z2⟩
    · rw [y2, z2, t1]; exact a1 i hi
    · omega
    · omega
    · rw [y2, z2, t1]
      by_cases e : i = nd.toInt.toNat
      · subst e; rw [upd_s, upd_s]
      · rw [upd_n e, upd_n e]; exact a1 i hi
  · rcases s3 with ⟨z1, z2⟩ | ⟨z1, z2⟩
    · rw [z2, t2]; exact a2 i hi
    · rw [z2 i hi]
      by_cases e : 4 * nd.toInt ≤ (i : Int) ∧ (i : Int) < 4 * nd.toInt + (4 : Int32).toInt
      · rw [if_pos e]; exact a3 i hi e.1
      · rw [if_neg e, t2]; exact a2 i hi
theorem GCo_mark (h : GCo c g m) (hnd : gfi c g 7 = nd.toInt) (hn16 : nd.toInt ≤ 16) (s1 : (¬ (0 ≤ a1.toInt ∧ a1.toInt < nd.toInt ∧ 0 ≤ a2.toInt ∧ a2.toInt < 256) ∧ r.toInt = -1 ∧ gaf q g 0 = gaf c g 0) ∨ ((0 ≤ a1.toInt ∧ a1.toInt < nd.toInt ∧ 0 ≤ a2.toInt ∧ a2.toInt < 256) ∧ r = gaf c g 0 a1.toInt.toNat ∧ gaf q g 0 = upd (gaf c g 0) a1.toInt.toNat a2)) (f1 : gfi q g 7 = gfi c g 7) (k1 : gaf q g 1 = gaf c g 1) (t : GSm c q m) (s2 : (¬ (0 ≤ a1.toInt ∧ a1.toInt < nd.toInt ∧ 0 ≤ a2.toInt ∧ a2.toInt < 256) ∧ r'.toInt = -1 ∧ vaf q' m 1 = vaf q m 1) ∨ ((0 ≤ a1.toInt ∧ a1.toInt < nd.toInt ∧ 0 ≤ a2.toInt ∧ a2.toInt < 256) ∧ r' = vaf q m 1 a1.toInt.toNat ∧ vaf q' m 1 = upd (vaf q m 1) a1.toInt.toNat a2)) (f2 : vfi q' m 0 = vfi q m 0) (k2 : vaf q' m 2 = vaf q m 2) (s : GSg q q' g) : GCo q' g m ∧ r.toInt = r'.toInt := by
  obtain ⟨a0, b1, b2, b3⟩ := h
  obtain ⟨t0, t1, t2⟩ := t
  unfold GCo
  rw [s.1, s.2.1, s.2.2, k1, f1, f2, t0, k2, t2]
  rcases s1 with ⟨y1, y2, y3⟩ | ⟨y1, y2, y3⟩ <;> rcases s2 with ⟨z1, z2, z3⟩ | ⟨z1, z2, z3⟩
  · rw [y3, z3, t1]; exact ⟨⟨a0, b1, b2, b3⟩, by omega⟩
  · exact absurd z1 y1
  · exact absurd y1 z1
  · rw [y3, z3, t1]
    refine ⟨⟨a0, fun i hi => ?_, b2, b3⟩, ?_⟩
    · by_cases e : i = a1.toInt.toNat
      · subst e; rw [upd_s, upd_s]
      · rw [upd_n e, upd_n e]; exact b1 i hi
    · rw [y2, z2, t1, b1 _ (by omega)]
theorem GCo_put (h : GCo c g m) (hnd : gfi c g 7 = nd.toInt) (hn16 : nd.toInt ≤ 16) (s1 : (¬ (0 ≤ a1.toInt ∧ a1.toInt < nd.toInt ∧ 0 ≤ a2.toInt ∧ a2.toInt < 4 ∧ -9999 ≤ a3.toInt ∧ a3.toInt ≤ 9999) ∧ r.toInt = 10000 ∧ gaf q g 1 = gaf c g 1) ∨ ((0 ≤ a1.toInt ∧ a1.toInt < nd.toInt ∧ 0 ≤ a2.toInt ∧ a2.toInt < 4 ∧ -9999 ≤ a3.toInt ∧ a3.toInt ≤ 9999) ∧ r = gaf c g 1 (4 * a1.toInt + a2.toInt).toNat ∧ gaf q g 1 = upd (gaf c g 1) (4 * a1.toInt + a2.toInt).toNat a3)) (f1 : gfi q g 7 = gfi c g 7) (k1 : gaf q g 0 = gaf c g 0) (t : GSm c q m) (s2 : (¬ (0 ≤ a1.toInt ∧ a1.toInt < nd.toInt ∧ 0 ≤ a2.toInt ∧ a2.toInt < 4 ∧ -9999 ≤ a3.toInt ∧ a3.toInt ≤ 9999) ∧ r'.toInt = 10000 ∧ vaf q' m 2 = vaf q m 2) ∨ ((0 ≤ a1.toInt ∧ a1.toInt < nd.toInt ∧ 0 ≤ a2.toInt ∧ a2.toInt < 4 ∧ -9999 ≤ a3.toInt ∧ a3.toInt ≤ 9999) ∧ r' = vaf q m 2 (4 * a1.toInt + a2.toInt).toNat ∧ vaf q' m 2 = upd (vaf q m 2) (4 * a1.toInt + a2.toInt).toNat a3)) (f2 : vfi q' m 0 = vfi q m 0) (k2 : vaf q' m 1 = vaf q m 1) (s : GSg q q' g) : GCo q' g m ∧ r.toInt = r'.toInt := by
  obtain ⟨a0, b1, b2, b3⟩ := h
  obtain ⟨t0, t1, t2⟩ := t
  unfold GCo
  rw [s.1, s.2.1, s.2.2, k1, f1, f2, t0, k2, t1]
  rcases s1 with ⟨y1, y2, y3⟩ | ⟨y1, y2, y3⟩ <;> rcases s2 with ⟨z1, z2, z3⟩ | ⟨z1, z2, z3⟩
  · rw [y3, z3, t2]; exact ⟨⟨a0, b1, b2, b3⟩, by omega⟩
  · exact absurd z1 y1
  · exact absurd y1 z1
  · rw [y3, z3, t2]
    refine ⟨⟨a0, b1, fun i hi => ?_, fun i hi hl => ?_⟩, ?_⟩
    · by_cases e : i = (4 * a1.toInt + a2.toInt).toNat
      · subst e; rw [upd_s, upd_s]
      · rw [upd_n e, upd_n e]; exact b2 i hi
    · rw [upd_n (by omega)]; exact b3 i hi hl
    · rw [y2, z2, t2, b2 _ (by omega)]
theorem GCo_bare (h : GCo c g m) (hnd : gfi c g 7 = nd.toInt) (hn16 : nd.toInt ≤ 16) (s1 : (¬ (0 ≤ a1.toInt ∧ a1.toInt < nd.toInt) ∧ r.toInt = -1 ∧ gaf q g 0 = gaf c g 0 ∧ gaf q g 1 = gaf c g 1) ∨ ((0 ≤ a1.toInt ∧ a1.toInt < nd.toInt) ∧ gaf q g 0 = upd (gaf c g 0) a1.toInt.toNat 0 ∧ CZg q g (gaf c g 1) (4 * a1.toInt) 4)) (f1 : gfi q g 7 = gfi c g 7) (t : GSm c q m) (s2 : (¬ (0 ≤ a1.toInt ∧ a1.toInt < nd.toInt) ∧ r'.toInt = -1 ∧ vaf q' m 1 = vaf q m 1 ∧ vaf q' m 2 = vaf q m 2) ∨ ((0 ≤ a1.toInt ∧ a1.toInt < nd.toInt) ∧ vaf q' m 1 = upd (vaf q m 1) a1.toInt.toNat 0 ∧ CZm q' m (vaf q m 2) (4 * a1.toInt) 4)) (f2 : vfi q' m 0 = vfi q m 0) (s : GSg q q' g) : GCo q' g m := by
  obtain ⟨a0, b1, b2, b3⟩ := h
  obtain ⟨t0, t1, t2⟩ := t
  unfold GCo
  rw [s.1, s.2.1, s.2.2, f1, f2, t0]
  rcases s1 with ⟨y1, y2, y3, y4⟩ | ⟨y1, y2, y3⟩ <;> rcases s2 with ⟨z1, z2, z3, z4⟩ | ⟨z1, z2, z3⟩
  · rw [y3, y4, z3, z4, t1, t2]; exact ⟨a0, b1, b2, b3⟩
  · exact absurd z1 y1
  · exact absurd y1 z1
  · rw [y2, z2, t1]
    refine ⟨a0, fun i hi => ?_, fun i hi => ?_, fun i hi hl => ?_⟩
    · by_cases e : i = a1.toInt.toNat
      · subst e; rw [upd_s, upd_s]
      · rw [upd_n e, upd_n e]; exact b1 i hi
    · rw [z3 i hi, y3 i hi, t2]
      split
      · rfl
      · exact b2 i hi
    · rw [y3 i hi]
      split
      · rfl
      · exact b3 i hi hl
end

def Zn1 (G : List Nat) (c : Zc) (g : Nat) (nd : Int32) (a : Int32) (r : Int32) : Prop := ∃ n2 : Int32, zgi c g 0 7 = some n2 ∧ ((0 ≤ a.toInt ∧ a.toInt < 256 ∧ nd.toInt < 16 ∧ r.toInt = nd.toInt ∧ n2.toInt = nd.toInt + 1) ∨ (0 ≤ a.toInt ∧ a.toInt < 256 ∧ nd.toInt = 16 ∧ r.toInt = -3 ∧ n2.toInt = nd.toInt) ∨ (¬ (0 ≤ a.toInt ∧ a.toInt < 256) ∧ r.toInt = -1 ∧ n2.toInt = nd.toInt)) ∧ 0 ≤ n2.toInt ∧ n2.toInt ≤ 16
def Zn2 (G : List Nat) (c : Zc) (g : Nat) (nd : Int32) (a : Int32) (r : Int32) : Prop := ∃ n2 : Int32, zgi c g 12 0 = some n2 ∧ ((0 ≤ a.toInt ∧ a.toInt < 256 ∧ nd.toInt < 16 ∧ r.toInt = nd.toInt ∧ n2.toInt = nd.toInt + 1) ∨ (0 ≤ a.toInt ∧ a.toInt < 256 ∧ nd.toInt = 16 ∧ r.toInt = -3 ∧ n2.toInt = nd.toInt) ∨ (¬ (0 ≤ a.toInt ∧ a.toInt < 256) ∧ r.toInt = -1 ∧ n2.toInt = nd.toInt)) ∧ 0 ≤ n2.toInt ∧ n2.toInt ≤ 16
def Zcm (G : List Nat) (c : Zc) (m : Nat) (F : Nat → Int32) (lo : Int) (k : Int32) : Prop := CZm c m F lo k
def Zcg (G : List Nat) (c : Zc) (m : Nat) (F : Nat → Int32) (lo : Int) (k : Int32) : Prop := CZg c m F lo k
end ZzT
