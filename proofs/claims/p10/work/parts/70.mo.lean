section ZzT
-- booleans in arrays
theorem nb_e (x : Int32) : vp_nar .boolean x = x &&& 1 := rfl
theorem nb_0 : (vp_nar .boolean 0).toInt = 0 := by decide
theorem nb_1 : (vp_nar .boolean 1).toInt = 1 := by decide
theorem nb_rg {x : Int32} : 0 ≤ (vp_nar .boolean x).toInt ∧ (vp_nar .boolean x).toInt ≤ 1 := by
  rw [nb_e]
  have := i_andr (a := x) (b := 1) (by decide)
  have e : (1 : Int32).toInt = 1 := by decide
  omega
theorem nb_id {x : Int32} (h0 : 0 ≤ x.toInt) (h1 : x.toInt ≤ 1) : (vp_nar .boolean x).toInt = x.toInt := by
  rcases i_01 ⟨h0, h1⟩ with rfl | rfl <;> decide
-- cells
theorem zrr_c {c : Zc} {k : Nat} {e : ClassId × vp_A} : zrr c k = some e ↔ c[k]? = some (.inl e) := by
  unfold zrr
  constructor
  · intro h
    split at h
    · rename_i a he; cases h; exact he
    · cases h
  · intro h; rw [h]
theorem fr_cell {G : List Nat} {M : List (Nat × Nat)} {c c' : Zc} {k T : Nat} {e : ClassId × vp_A} (h : Zfr G M c c') (hk : G[k]? = some T) (hm : (T, 0) ∉ M) (he : c[k]? = some (.inl e)) : c'[k]? = some (.inl e) :=
  zrr_c.mp (((h k T hk).2.1 hm).trans (zrr_c.mpr he))
theorem wt_cell {zy : Nat → Zt} {G : List Nat} {c : Zc} {k T t n : Nat} {P : Int32 → Prop} (W : Zwt zy G c) (hk : G[k]? = some T) (ht : zy T = kAi t n P) : ∃ f, c[k]? = some (.inl (t, n, .inl f)) ∧ ∀ i, i < n → P (f i) := by
  obtain ⟨e, he, hc⟩ := W.2 k T hk
  rw [ht] at hc
  obtain ⟨f, rfl, hf⟩ := hc
  exact ⟨f, he, hf⟩
theorem rd_ai {c : Zc} {k t n : Nat} {f : Nat → Int32} {i : Int32} (h : c[k]? = some (.inl (t, n, .inl f))) (h0 : 0 ≤ i.toInt) (h1 : i.toInt < n) : zai c k t i = some (f i.toInt.toNat) := by
  unfold zai; rw [h]; exact if_pos ⟨rfl, i_ix h0 h1⟩
theorem rd_x {c : Zc} {k t n : Nat} {f : Nat → Int32} {i v : Int32} (h : c[k]? = some (.inl (t, n, .inl f))) (e : zai c k t i = some v) : 0 ≤ i.toInt ∧ i.toInt < n ∧ v = f i.toInt.toNat := by
  unfold zai at e
  rw [h] at e
  simp only at e
  split at e
  · rename_i q
    cases e
    have q2 := q.2
    refine ⟨?_, ?_, rfl⟩
    · rcases Int.lt_or_le i.toInt 0 with z | z
      · exact absurd (Or.inl (Int32.lt_iff_toInt_lt.mpr (by have : (0 : Int32).toInt = 0 := by decide
                                                            omega))) q2
      · exact z
    · rcases Int.lt_or_le i.toInt n with z | z
      · exact z
      · exact absurd (Or.inr (by rw [i_tn]; omega)) q2
  · cases e
theorem wr_si {c : Zc} {k t n : Nat} {f : Nat → Int32} {i x : Int32} (h : c[k]? = some (.inl (t, n, .inl f))) (h0 : 0 ≤ i.toInt) (h1 : i.toInt < n) : zsi c k t i x = some (c.set k (.inl (t, n, .inl (upd f i.toInt.toNat x)))) := by
  unfold zsi; rw [h]; exact if_pos ⟨rfl, i_ix h0 h1⟩
theorem wr_x {c c' : Zc} {k t n : Nat} {f : Nat → Int32} {i x : Int32} (h : c[k]? = some (.inl (t, n, .inl f))) (e : zsi c k t i x = some c') : c'[k]? = some (.inl (t, n, .inl (upd f i.toInt.toNat x))) ∧ 0 ≤ i.toInt ∧ i.toInt < n := by
  obtain ⟨m, g, h1, h2, rfl⟩ := zsi_x e
  rw [h] at h1
  cases h1
  refine ⟨List.getElem?_set_self (List.getElem?_eq_some_iff.mp h).1, ?_, ?_⟩
  · rcases Int.lt_or_le i.toInt 0 with z | z
    · exact absurd (Or.inl (Int32.lt_iff_toInt_lt.mpr (by have : (0 : Int32).toInt = 0 := by decide
                                                          omega))) h2
    · exact z
  · rcases Int.lt_or_le i.toInt n with z | z
    · exact z
    · exact absurd (Or.inr (by rw [i_tn]; omega)) h2
theorem wr_o {c c' : Zc} {k k' t : Nat} {e : va_E} {i x : Int32} (h : c[k']? = some e) (w : zsi c k t i x = some c') (hk : k' ≠ k) : c'[k']? = some e := by
  obtain ⟨m, g, h1, h2, rfl⟩ := zsi_x w
  rw [List.getElem?_set_ne (Ne.symm hk)]; exact h
theorem upd_s {f : Nat → Int32} {i : Nat} {x : Int32} : upd f i x i = x := by simp [upd]
theorem upd_n {f : Nat → Int32} {i j : Nat} {x : Int32} (h : j ≠ i) : upd f i x j = f j := by simp [upd, h]
theorem upd_u {f : Nat → Int32} {i : Nat} {x y : Int32} : upd (upd f i x) i y = upd f i y := by
  funext j; simp only [upd]; split <;> rfl
theorem rw_gr {c : Zc} {k q : Nat} {e : va_E} {ci j : Nat} (h : q ≠ k) : zgr (c.set k e) q ci j = zgr c q ci j := by
  unfold zgr zgv; rw [List.getElem?_set_ne (Ne.symm h)]
theorem rw_gi {c : Zc} {k q : Nat} {e : va_E} {ci j : Nat} (h : q ≠ k) : zgi (c.set k e) q ci j = zgi c q ci j := by
  unfold zgi zgv; rw [List.getElem?_set_ne (Ne.symm h)]
-- how many entries are not z
def cn (z : Int32) (f : Nat → Int32) : Nat → Nat
  | 0 => 0
  | n + 1 => cn z f n + (if f n = z then 0 else 1)
theorem cn_le {z : Int32} {f : Nat → Int32} {n : Nat} : cn z f n ≤ n := by
  induction n with
  | zero => exact Nat.le_refl _
  | succ n ih => unfold cn; split <;> omega
theorem cn_cg {z : Int32} {f g : Nat → Int32} {n : Nat} (h : ∀ i, i < n → f i = g i) : cn z f n = cn z g n := by
  induction n with
  | zero => rfl
  | succ n ih => unfold cn; rw [ih (fun i hi => h i (by omega)), h n (by omega)]
theorem cn_up {z : Int32} {f : Nat → Int32} {n i : Nat} {x : Int32} (hi : i < n) : cn z (upd f i x) n + (if f i = z then 0 else 1) = cn z f n + (if x = z then 0 else 1) := by
  induction n with
  | zero => omega
  | succ n ih =>
    unfold cn
    by_cases h : i = n
    · subst h
      rw [upd_s, cn_cg (g := f) (fun j hj => upd_n (by omega))]
      omega
    · have := ih (by omega)
      rw [upd_n (j := n) (by omega)]
      omega
theorem cn_all {z : Int32} {f : Nat → Int32} {n : Nat} (h : ∀ i, i < n → f i = z) : cn z f n = 0 := by
  induction n with
  | zero => rfl
  | succ n ih => unfold cn; rw [ih (fun i hi => h i (by omega)), if_pos (h n (by omega))]
theorem cn_ex {z : Int32} {f : Nat → Int32} {n : Nat} (h : cn z f n < n) : ∃ i, i < n ∧ f i = z := by
  induction n with
  | zero => omega
  | succ n ih =>
    unfold cn at h
    by_cases q : f n = z
    · exact ⟨n, by omega, q⟩
    · rw [if_neg q] at h
      obtain ⟨i, h1, h2⟩ := ih (by omega)
      exact ⟨i, by omega, h2⟩
theorem cn_has {z : Int32} {f : Nat → Int32} {n i : Nat} (hi : i < n) (h : f i = z) : cn z f n < n := by
  induction n with
  | zero => omega
  | succ n ih =>
    unfold cn
    by_cases q : i = n
    · subst q
      have := cn_le (z := z) (f := f) (n := i)
      rw [if_pos h]; omega
    · have := ih (by omega)
      split <;> omega
-- the row of nodes as a number
def od (b : Nat) (d : Nat → Nat) (s : Nat → Bool) : Nat → Nat
  | 0 => 0
  | k + 1 => if s k = true then od b d s k * b + d k else od b d s k
theorem od_cg {b : Nat} {d h : Nat → Nat} {s : Nat → Bool} {k : Nat} (e : ∀ i, i < k → s i = true → h i = d i) : od b h s k = od b d s k := by
  induction k with
  | zero => rfl
  | succ k ih =>
    unfold od
    rw [ih (fun i hi => e i (by omega))]
    split
    · rename_i q; rw [e k (by omega) q]
    · rfl
theorem od_lt {b : Nat} {d : Nat → Nat} {s : Nat → Bool} {k : Nat} (hb : 1 ≤ b) (h : ∀ i, i < k → d i < b) : od b d s k + 1 ≤ b ^ k := by
  induction k with
  | zero => exact Nat.le_refl _
  | succ k ih =>
    have i1 := ih (fun i hi => h i (by omega))
    have i2 := h k (by omega)
    have i3 : (od b d s k + 1) * b ≤ b ^ k * b := Nat.mul_le_mul_right b i1
    rw [Nat.add_mul] at i3
    unfold od
    rw [Nat.pow_succ]
    split
    · omega
    · have : b ^ k * 1 ≤ b ^ k * b := Nat.mul_le_mul_left _ hb
      omega
def Ow (b : Nat) (d : Nat → Nat) (s : Nat → Bool) (N k w : Nat) : Prop := (od b d s k + 1) * w = od b d s N + 1 ∧ ∀ h : Nat → Nat, (∀ i, k ≤ i → i < N → s i = true → h i = 0) → od b h s N = od b h s k * w
theorem Ow_0 {b : Nat} {d : Nat → Nat} {s : Nat → Bool} {N : Nat} : Ow b d s N N 1 := ⟨Nat.mul_one _, fun _ _ => (Nat.mul_one _).symm⟩
theorem Ow_skip {b : Nat} {d : Nat → Nat} {s : Nat → Bool} {N k w : Nat} (hs : s k = false) (h : Ow b d s N (k + 1) w) : Ow b d s N k w := by
  obtain ⟨h1, h2⟩ := h
  have e : ∀ d : Nat → Nat, od b d s (k + 1) = od b d s k := fun d => by
    show (if s k = true then _ else _) = _
    rw [hs]; rfl
  rw [e] at h1
  exact ⟨h1, fun g hg => by rw [← e]; exact h2 g (fun i hi => hg i (by omega))⟩
theorem od_s {b : Nat} {d : Nat → Nat} {s : Nat → Bool} {k : Nat} (hs : s k = true) : od b d s (k + 1) = od b d s k * b + d k := by
  show (if s k = true then _ else _) = _
  rw [if_pos hs]
theorem Ow_car {b : Nat} {d : Nat → Nat} {s : Nat → Bool} {N k w : Nat} (hs : s k = true) (hd : d k + 1 = b) (hN : k < N) (h : Ow b d s N (k + 1) w) : Ow b d s N k (b * w) := by
  obtain ⟨h1, h2⟩ := h
  rw [od_s hs] at h1
  refine ⟨?_, fun g hg => ?_⟩
  · rw [← h1, ← Nat.mul_assoc, Nat.add_mul]
    congr 1
    omega
  · rw [h2 g (fun i hi => hg i (by omega)), od_s hs, hg k (Nat.le_refl _) hN hs, Nat.add_zero, Nat.mul_assoc]
theorem Ow_inc {b : Nat} {d : Nat → Nat} {s : Nat → Bool} {N k w : Nat} (hs : s k = true) (h : Ow b d s N (k + 1) w) {g : Nat → Nat} (g1 : ∀ i, i < k → g i = d i) (g2 : g k = d k + 1) (g3 : ∀ i, k + 1 ≤ i → i < N → s i = true → g i = 0) : od b g s N = od b d s N + 1 := by
  obtain ⟨h1, h2⟩ := h
  rw [h2 g g3, od_s hs, ← h1, od_s hs, od_cg (fun i hi _ => g1 i hi), g2]
  rfl
def dg (f : Nat → Int32) (i : Nat) : Nat := (f i).toInt.toNat
/-- the slots of text p that belong to group a -/
def sl (g : Nat → Int32) (p : Nat) (a : Int32) (i : Nat) : Bool := decide (g (8 * p + i) = a)
/-- the row of nodes: its cell, every number below b -/
def Dg (c : Zc) (k : Nat) (b : Int) (f : Nat → Int32) : Prop := c[k]? = some (.inl (0, 8, .inl f)) ∧ ∀ i, i < 8 → 0 ≤ (f i).toInt ∧ (f i).toInt < b
def Gr (c : Zc) (k : Nat) (g : Nat → Int32) : Prop := c[k]? = some (.inl (0, 72, .inl g))
theorem rd_same {c : Zc} {k t : Nat} {a b w x y : Int32} (e1 : zai c k t ((8 * a) + w) = some x) (e2 : zai c k t ((8 * b) + w) = some y) : ¬ a.toInt = b.toInt ∨ x.toInt = y.toInt := by
  by_cases h : a.toInt = b.toInt
  · right
    have := Int32.toInt_inj.mp h
    subst this
    rw [e1] at e2; cases e2; rfl
  · exact .inl h
theorem rd_sam0 {c : Zc} {k t : Nat} {a b x y : Int32} (e1 : zai c k t a = some x) (e2 : zai c k t b = some y) : ¬ a.toInt = b.toInt ∨ x.toInt = y.toInt := by
  by_cases h : a.toInt = b.toInt
  · right
    have := Int32.toInt_inj.mp h
    subst this
    rw [e1] at e2; cases e2; rfl
  · exact .inl h
-- codes that can be worked out
def pushC (v a : Int32) : Prop := v.toInt = 0 ∨ (v.toInt = 1 ∧ 0 ≤ a.toInt ∧ a.toInt ≤ 7) ∨ (v.toInt = 2 ∧ 0 ≤ a.toInt ∧ a.toInt ≤ 7) ∨ (v.toInt = 3 ∧ 0 ≤ a.toInt ∧ a.toInt ≤ 31) ∨ (v.toInt = 19 ∧ 1 ≤ a.toInt ∧ a.toInt ≤ 79)
def oneC (v : Int32) : Prop := v.toInt = 7 ∨ v.toInt = 18
def twoC (v : Int32) : Prop := (4 ≤ v.toInt ∧ v.toInt ≤ 6) ∨ (10 ≤ v.toInt ∧ v.toInt ≤ 17)
def WFr (c : Zc) (kc ka : Nat) : Nat → Int32 → Int → Prop
  | 0, i, _ => ∃ v, zai c kc 0 i = some v ∧ v.toInt = 99
  | n + 1, i, d => ∃ v a, zai c kc 0 i = some v ∧ zai c ka 0 i = some a ∧ ((pushC v a ∧ d ≤ 255 ∧ WFr c kc ka n (i + 1) (d + 1)) ∨ (oneC v ∧ 1 ≤ d ∧ WFr c kc ka n (i + 1) d) ∨ (twoC v ∧ 2 ≤ d ∧ WFr c kc ka n (i + 1) (d - 1)))
theorem WFr_fr {c c' : Zc} {kc ka : Nat} (h1 : ∀ i, zai c' kc 0 i = zai c kc 0 i) (h2 : ∀ i, zai c' ka 0 i = zai c ka 0 i) : ∀ {n : Nat} {i : Int32} {d : Int}, WFr c kc ka n i d → WFr c' kc ka n i d := by
  intro n
  induction n with
  | zero => intro i d h; obtain ⟨v, e, hv⟩ := h; exact ⟨v, (h1 i).trans e, hv⟩
  | succ n ih =>
    intro i d h
    obtain ⟨v, a, e1, e2, h⟩ := h
    refine ⟨v, a, (h1 i).trans e1, (h2 i).trans e2, ?_⟩
    rcases h with ⟨p, q, h⟩ | ⟨p, q, h⟩ | ⟨p, q, h⟩
    · exact .inl ⟨p, q, ih h⟩
    · exact .inr (.inl ⟨p, q, ih h⟩)
    · exact .inr (.inr ⟨p, q, ih h⟩)
def WfA (c : Zc) (m : Nat) (i : Int32) : Prop := ∃ n, n ≤ 512 ∧ ∀ kc ka, zgr c m 12 50 = some kc → zgr c m 12 51 = some ka → WFr c kc ka n i 0
/-- text s: its ways' ends are slots, its codes can be worked out -/
def TxW (c : Zc) (m : Nat) (s : Int32) : Prop := ∀ kw nw kf kt w a b, zgr c m 12 31 = some kw → zai c kw 0 s = some nw → zgr c m 12 33 = some kf → zgr c m 12 34 = some kt → 11 * s.toInt ≤ w.toInt → w.toInt < 11 * s.toInt + nw.toInt → zai c kf 0 w = some a → zai c kt 0 w = some b → (0 ≤ a.toInt ∧ a.toInt ≤ 7) ∧ 0 ≤ b.toInt ∧ b.toInt ≤ 7
def TxC (c : Zc) (m : Nat) (s : Int32) : Prop := ∀ kc x, zgr c m 12 46 = some kc → zai c kc 0 s = some x → x.toInt < 0 ∨ WfA c m ((512 * s) + x)
def TxI (c : Zc) (m : Nat) (s : Int32) : Prop := ∀ ki ni ks kd k v x, zgr c m 12 43 = some ki → zai c ki 0 s = some ni → zgr c m 12 44 = some ks → zgr c m 12 45 = some kd → 0 ≤ k.toInt → k.toInt < ni.toInt → zai c ks 0 ((8 * s) + k) = some v → zai c kd 0 ((8 * s) + k) = some x → v.toInt = 109 ∨ WfA c m ((512 * s) + x)
def TxG (c : Zc) (m : Nat) (s : Int32) : Prop := ∀ k1 k2 a b, zgr c m 12 48 = some k1 → zgr c m 12 49 = some k2 → zai c k1 0 s = some a → zai c k2 0 s = some b → (0 ≤ a.toInt ∧ a.toInt ≤ 7) ∧ 0 ≤ b.toInt ∧ b.toInt ≤ 7
def TxS (c : Zc) (m : Nat) (s : Int32) : Prop := TxW c m s ∧ TxC c m s ∧ TxI c m s
def TxM (c : Zc) (m : Nat) : Prop := ∃ s, zgi c m 12 25 = some s ∧ TxS c m s
abbrev TXF : List (Nat × Nat) := [(84, 0), (86, 0), (87, 0), (96, 0), (97, 0), (98, 0), (99, 0), (101, 0), (102, 0), (103, 0), (104, 0), (64, 31), (64, 33), (64, 34), (64, 43), (64, 44), (64, 45), (64, 46), (64, 48), (64, 49), (64, 50), (64, 51)]
section
variable {G : List Nat} {M : List (Nat × Nat)} {c c' : Zc} {m : Nat} {s i : Int32}
theorem WfA_fr (h : WfA c m i) (F : Zfr G M c c') (t : G[m]? = some 64) (W : Zwt zty G c) (hM : ∀ x ∈ TXF, x ∉ M) : WfA c' m i := by
  obtain ⟨n, hn, h⟩ := h
  refine ⟨n, hn, fun kc ka e1 e2 => ?_⟩
  rw [Zfr.gr F t (hM _ (by decide))] at e1 e2
  obtain ⟨k, e, tc⟩ := gf_64_50 W t
  rw [e1] at e; cases e
  obtain ⟨k, e, ta⟩ := gf_64_51 W t
  rw [e2] at e; cases e
  exact WFr_fr (fun i => Zfr.ai F tc (hM _ (by decide))) (fun i => Zfr.ai F ta (hM _ (by decide))) (h kc ka e1 e2)
theorem TxS_fr (h : TxS c m s) (F : Zfr G M c c') (t : G[m]? = some 64) (W : Zwt zty G c) (hM : ∀ x ∈ TXF, x ∉ M) : TxS c' m s := by
  obtain ⟨h1, h2, h3⟩ := h
  refine ⟨?_, ?_, ?_⟩
  · intro kw nw kf kt w a b e1 e2 e3 e4 l1 l2 e5 e6
    rw [Zfr.gr F t (hM _ (by decide))] at e1 e3 e4
    obtain ⟨k, e, tc⟩ := gf_64_31 W t
    rw [e1] at e; cases e
    rw [Zfr.ai F tc (hM _ (by decide))] at e2
    obtain ⟨k, e, tc⟩ := gf_64_33 W t
    rw [e3] at e; cases e
    rw [Zfr.ai F tc (hM _ (by decide))] at e5
    obtain ⟨k, e, tc⟩ := gf_64_34 W t
    rw [e4] at e; cases e
    rw [Zfr.ai F tc (hM _ (by decide))] at e6
    exact h1 kw nw kf kt w a b e1 e2 e3 e4 l1 l2 e5 e6
  · intro kc x e1 e2
    rw [Zfr.gr F t (hM _ (by decide))] at e1
    obtain ⟨k, e, tc⟩ := gf_64_46 W t
    rw [e1] at e; cases e
    rw [Zfr.ai F tc (hM _ (by decide))] at e2
    exact (h2 kc x e1 e2).imp id (fun q => WfA_fr q F t W hM)
  · intro ki ni ks kd k v x e1 e2 e3 e4 l1 l2 e5 e6
    rw [Zfr.gr F t (hM _ (by decide))] at e1 e3 e4
    obtain ⟨k', e, tc⟩ := gf_64_43 W t
    rw [e1] at e; cases e
    rw [Zfr.ai F tc (hM _ (by decide))] at e2
    obtain ⟨k', e, tc⟩ := gf_64_44 W t
    rw [e3] at e; cases e
    rw [Zfr.ai F tc (hM _ (by decide))] at e5
    obtain ⟨k', e, tc⟩ := gf_64_45 W t
    rw [e4] at e; cases e
    rw [Zfr.ai F tc (hM _ (by decide))] at e6
    exact (h3 ki ni ks kd k v x e1 e2 e3 e4 l1 l2 e5 e6).imp id (fun q => WfA_fr q F t W hM)
theorem TxG_fr (h : TxG c m s) (F : Zfr G M c c') (t : G[m]? = some 64) (W : Zwt zty G c) (hM : ∀ x ∈ TXF, x ∉ M) : TxG c' m s := by
  intro k1 k2 a b e1 e2 e3 e4
  rw [Zfr.gr F t (hM _ (by decide))] at e1 e2
  obtain ⟨k, e, tc⟩ := gf_64_48 W t
  rw [e1] at e; cases e
  rw [Zfr.ai F tc (hM _ (by decide))] at e3
  obtain ⟨k, e, tc⟩ := gf_64_49 W t
  rw [e2] at e; cases e
  rw [Zfr.ai F tc (hM _ (by decide))] at e4
  exact h k1 k2 a b e1 e2 e3 e4
theorem TxM_fr (h : TxM c m) (F : Zfr G M c c') (t : G[m]? = some 64) (W : Zwt zty G c) (hM : (∀ x ∈ TXF, x ∉ M) ∧ (64, 25) ∉ M) : TxM c' m := by
  obtain ⟨s, e, h⟩ := h
  exact ⟨s, (Zfr.gi F t hM.2).trans e, TxS_fr h F t W hM.1⟩
end
theorem TxM_way {c : Zc} {m : Nat} {s nw w a b : Int32} {kw kf kt : Nat} (h : TxM c m) (e0 : zgi c m 12 25 = some s) (e1 : zgr c m 12 31 = some kw) (e2 : zai c kw 0 s = some nw) (e3 : zgr c m 12 33 = some kf) (e4 : zgr c m 12 34 = some kt) (l1 : 11 * s.toInt ≤ w.toInt) (l2 : w.toInt < 11 * s.toInt + nw.toInt) (e5 : zai c kf 0 w = some a) (e6 : zai c kt 0 w = some b) : (0 ≤ a.toInt ∧ a.toInt ≤ 7) ∧ 0 ≤ b.toInt ∧ b.toInt ≤ 7 := by
  obtain ⟨s', e, h⟩ := h
  rw [e0] at e; cases e
  exact h.1 kw nw kf kt w a b e1 e2 e3 e4 l1 l2 e5 e6
-- entries that have been reached
def FlN (c : Zc) (k : Nat) (n : Int32) : Prop := ∃ f, c[k]? = some (.inl (0, 272, .inl f)) ∧ ∀ i : Nat, i < 272 → (i : Int) < n.toInt → f i = -1
def RcM (c : Zc) (k : Nat) (n : Int32) : Prop := ∃ f, c[k]? = some (.inl (0, 272, .inl f)) ∧ (cn (-1) f 272 : Int) = n.toInt ∧ ∀ i : Nat, i < 272 → -1 ≤ (f i).toInt ∧ (f i).toInt < n.toInt
section
variable {G : List Nat} {M : List (Nat × Nat)} {c c' : Zc} {k : Nat} {n i x v : Int32}
theorem FlN_0 (W : Zwt zty G c) (t : G[k]? = some 120) : FlN c k 0 := by
  obtain ⟨f, h, _⟩ := wt_cell W t rfl
  refine ⟨f, h, fun i _ hi => ?_⟩
  have : (0 : Int32).toInt = 0 := by decide
  omega
theorem FlN_w (h : FlN c k n) (e : zsi c k 0 n (-1) = some c') (hs : (n + 1).toInt = n.toInt + 1) : FlN c' k (n + 1) := by
  obtain ⟨f, h1, h2⟩ := h
  obtain ⟨q1, q2, q3⟩ := wr_x h1 e
  refine ⟨_, q1, fun i h3 h4 => ?_⟩
  by_cases q : i = n.toInt.toNat
  · subst q; exact upd_s
  · rw [upd_n q]; exact h2 i h3 (by omega)
theorem FlN_fr (h : FlN c k n) (F : Zfr G M c c') (t : G[k]? = some 120) (hM : (120, 0) ∉ M) : FlN c' k n := by
  obtain ⟨f, h1, h2⟩ := h
  exact ⟨f, fr_cell F t hM h1, h2⟩
theorem FlN_m {n' : Int32} (h : FlN c k n) (hn : n'.toInt ≤ n.toInt) : FlN c k n' := by
  obtain ⟨f, h1, h2⟩ := h
  exact ⟨f, h1, fun i h3 h4 => h2 i h3 (by omega)⟩
theorem RcM_1 (h : FlN c k 272) (e : zsi c k 0 i 0 = some c') : RcM c' k 1 := by
  obtain ⟨f, h1, h2⟩ := h
  obtain ⟨q1, q2, q3⟩ := wr_x h1 e
  have l272 : (272 : Int32).toInt = 272 := by decide
  have l1 : (1 : Int32).toInt = 1 := by decide
  have a : ∀ j, j < 272 → f j = -1 := fun j hj => h2 j hj (by omega)
  have u := cn_up (z := -1) (f := f) (x := 0) (i := i.toInt.toNat) (n := 272) (by omega)
  rw [cn_all a, a _ (by omega), if_pos rfl, if_neg (by decide)] at u
  refine ⟨_, q1, by omega, fun j hj => ?_⟩
  by_cases q : j = i.toInt.toNat
  · subst q; rw [upd_s]; decide
  · rw [upd_n q, a j hj]; decide
theorem RcM_fr (h : RcM c k n) (F : Zfr G M c c') (t : G[k]? = some 120) (hM : (120, 0) ∉ M) : RcM c' k n := by
  obtain ⟨f, h1, h2⟩ := h
  exact ⟨f, fr_cell F t hM h1, h2⟩
theorem RcM_r (h : RcM c k n) (e : zai c k 0 i = some v) : -1 ≤ v.toInt ∧ v.toInt < n.toInt := by
  obtain ⟨f, h1, _, h3⟩ := h
  obtain ⟨q1, q2, rfl⟩ := rd_x h1 e
  exact h3 _ (by omega)
theorem RcM_b (h : RcM c k n) (e : zai c k 0 i = some v) (hv : v.toInt = -1) : n.toInt ≤ 271 := by
  obtain ⟨f, h1, h2, h3⟩ := h
  obtain ⟨q1, q2, rfl⟩ := rd_x h1 e
  have l : (-1 : Int32).toInt = -1 := by decide
  have := cn_has (z := -1) (f := f) (n := 272) (i := i.toInt.toNat) (by omega) (Int32.toInt_inj.mp (hv.trans l.symm))
  omega
theorem RcM_w (h : RcM c k n) (e : zai c k 0 i = some v) (hv : v.toInt = -1) (w : zsi c k 0 i x = some c') (x0 : 0 ≤ x.toInt) (x1 : x.toInt ≤ n.toInt) (hs : (n + 1).toInt = n.toInt + 1) : RcM c' k (n + 1) := by
  obtain ⟨f, h1, h2, h3⟩ := h
  obtain ⟨q1, q2, rfl⟩ := rd_x h1 e
  obtain ⟨r1, r2, r3⟩ := wr_x h1 w
  have l : (-1 : Int32).toInt = -1 := by decide
  have hz := Int32.toInt_inj.mp (hv.trans l.symm)
  have u := cn_up (z := -1) (f := f) (x := x) (i := i.toInt.toNat) (n := 272) (by omega)
  rw [if_pos hz, if_neg (fun q => by rw [q, l] at x0; omega)] at u
  refine ⟨_, r1, by omega, fun j hj => ?_⟩
  by_cases q : j = i.toInt.toNat
  · subst q; rw [upd_s]; omega
  · rw [upd_n q]; have := h3 j hj; omega
end
end ZzT
