section ZzT
-- booleans in arrays
theorem nb_e (x : Int32) : vp_nar .boolean x = x &&& 1 := rfl
theorem nb_0 : (vp_nar .boolean 0).toInt = 0 := by decide
theorem nb_1 : (vp_nar .boolean 1).toInt = 1 := by decide
theorem nb_rg {x : Int32} : 0 ≤ (vp_nar .boolean x).toInt ∧ (vp_nar .boolean x).toInt ≤ 1 := by
  rw [nb_e]
  have := i_andr (a := x) (b := 1) (by decide)
  have e : (1 : Int32).toInt = 1 := by decide
  omega
theorem nb_id {x : Int32} (h0 : 0 ≤ x.toInt) (h1 : x.toInt ≤ 1) : (vp_nar .boolean x).toInt = x.toInt := by
  rcases i_01 ⟨h0, h1⟩ with rfl | rfl <;> decide
-- cells
theorem zrr_c {c : Zc} {k : Nat} {e : ClassId × vp_A} : zrr c k = some e ↔ c[k]? = some (.inl e) := by
  unfold zrr
  constructor
  · intro h
    split at h
    · rename_i a he; cases h; exact he
    · cases h
  · intro h; rw [h]
theorem fr_cell {G : List Nat} {M : List (Nat × Nat)} {c c' : Zc} {k T : Nat} {e : ClassId × vp_A} (h : Zfr G M c c') (hk : G[k]? = some T) (hm : (T, 0) ∉ M) (he : c[k]? = some (.inl e)) : c'[k]? = some (.inl e) :=
  zrr_c.mp (((h k T hk).2.1 hm).trans (zrr_c.mpr he))
theorem wt_cell {zy : Nat → Zt} {G : List Nat} {c : Zc} {k T t n : Nat} {P : Int32 → Prop} (W : Zwt zy G c) (hk : G[k]? = some T) (ht : zy T = kAi t n P) : ∃ f, c[k]? = some (.inl (t, n, .inl f)) ∧ ∀ i, i < n → P (f i) := by
  obtain ⟨e, he, hc⟩ := W.2 k T hk
  rw [ht] at hc
  obtain ⟨f, rfl, hf⟩ := hc
  exact ⟨f, he, hf⟩
theorem rd_ai {c : Zc} {k t n : Nat} {f : Nat → Int32} {i : Int32} (h : c[k]? = some (.inl (t, n, .inl f))) (h0 : 0 ≤ i.toInt) (h1 : i.toInt < n) : zai c k t i = some (f i.toInt.toNat) := by
  unfold zai; rw [h]; exact if_pos ⟨rfl, i_ix h0 h1⟩
theorem rd_x {c : Zc} {k t n : Nat} {f : Nat → Int32} {i v : Int32} (h : c[k]? = some (.inl (t, n, .inl f))) (e : zai c k t i = some v) : 0 ≤ i.toInt ∧ i.toInt < n ∧ v = f i.toInt.toNat := by
  unfold zai at e
  rw [h] at e
  simp only at e
  split at e
  · rename_i q
    cases e
    have q2 := q.2
    refine ⟨?_, ?_, rfl⟩
    · rcases Int.lt_or_le i.toInt 0 with z | z
      · exact absurd (Or.inl (Int32.lt_iff_toInt_lt.mpr (by have : (0 : Int32).toInt = 0 := by decide
                                                            omega))) q2
      · exact z
    · rcases Int.lt_or_le i.toInt n with z | z
      · exact z
      · exact absurd (Or.inr (by rw [i_tn]; omega)) q2
  · cases e
theorem wr_si {c : Zc} {k t n : Nat} {f : Nat → Int32} {i x : Int32} (h : c[k]? = some (.inl (t, n, .inl f))) (h0 : 0 ≤ i.toInt) (h1 : i.toInt < n) : zsi c k t i x = some (c.set k (.inl (t, n, .inl (upd f i.toInt.toNat x)))) := by
  unfold zsi; rw [h]; exact if_pos ⟨rfl, i_ix h0 h1⟩
theorem wr_x {c c' : Zc} {k t n : Nat} {f : Nat → Int32} {i x : Int32} (h : c[k]? = some (.inl (t, n, .inl f))) (e : zsi c k t i x = some c') : c'[k]? = some (.inl (t, n, .inl (upd f i.toInt.toNat x))) ∧ 0 ≤ i.toInt ∧ i.toInt < n := by
  obtain ⟨m, g, h1, h2, rfl⟩ := zsi_x e
  rw [h] at h1
  cases h1
  refine ⟨List.getElem?_set_self (List.getElem?_eq_some_iff.mp h).1, ?_, ?_⟩
  · rcases Int.lt_or_le i.toInt 0 with z | z
    · exact absurd (Or.inl (Int32.lt_iff_toInt_lt.mpr (by have : (0 : Int32).toInt = 0 := by decide
                                                          omega))) h2
    · exact z
  · rcases Int.lt_or_le i.toInt n with z | z
    · exact z
    · exact absurd (Or.inr (by rw [i_tn]; omega)) h2
theorem wr_o {c c' : Zc} {k k' t : Nat} {e : va_E} {i x : Int32} (h : c[k']? = some e) (w : zsi c k t i x = some c') (hk : k' ≠ k) : c'[k']? = some e := by
  obtain ⟨m, g, h1, h2, rfl⟩ := zsi_x w
  rw [List.getElem?_set_ne (Ne.symm hk)]; exact h
theorem upd_s {f : Nat → Int32} {i : Nat} {x : Int32} : upd f i x i = x := by simp [upd]
theorem upd_n {f : Nat → Int32} {i j : Nat} {x : Int32} (h : j ≠ i) : upd f i x j = f j := by simp [upd, h]
theorem upd_u {f : Nat → Int32} {i : Nat} {x y : Int32} : upd (upd f i x) i y = upd f i y := by
  funext j; simp only [upd]; split <;> rfl
theorem rw_gr {c : Zc} {k q : Nat} {e : va_E} {ci j : Nat} (h : q ≠ k) : zgr (c.set k e) q ci j = zgr c q ci j := by
  unfold zgr zgv; rw [List.getElem?_set_ne (Ne.symm h)]
theorem rw_gi {c : Zc} {k q : Nat} {e : va_E} {ci j : Nat} (h : q ≠ k) : zgi (c.set k e) q ci j = zgi c q ci j := by
  unfold zgi zgv; rw [List.getElem?_set_ne (Ne.symm h)]
-- how many entries are not z
def cn (z : Int32) (f : Nat → Int32) : Nat → Nat
  | 0 => 0
  | n + 1 => cn z f n + (if f n = z then 0 else 1)
theorem cn_le {z : Int32} {f : Nat → Int32} {n : Nat} : cn z f n ≤ n := by
  induction n with
  | zero => exact Nat.le_refl _
  | succ n ih => unfold cn; split <;> omega
theorem cn_cg {z : Int32} {f g : Nat → Int32} {n : Nat} (h : ∀ i, i < n → f i = g i) : cn z f n = cn z g n := by
  induction n with
  | zero => rfl
  | succ n ih => unfold cn; rw [ih (fun i hi => h i (by omega)), h n (by omega)]
theorem cn_up {z : Int32} {f : Nat → Int32} {n i : Nat} {x : Int32} (hi : i < n) : cn z (upd f i x) n + (if f i = z then 0 else 1) = cn z f n + (if x = z then 0 else 1) := by
  induction n with
  | zero => omega
  | succ n ih =>
    unfold cn
    by_cases h : i = n
    · subst h
      rw [upd_s, cn_cg (g := f) (fun j hj => upd_n (by omega))]
      omega
    · have := ih (by omega)
      rw [upd_n (j := n) (by omega)]
      omega
theorem cn_all {z : Int32} {f : Nat → Int32} {n : Nat} (h : ∀ i, i < n → f i = z) : cn z f n = 0 := by
  induction n with
  | zero => rfl
  | succ n ih => unfold cn; rw [ih (fun i hi => h i (by omega)), if_pos (h n (by omega))]
theorem cn_ex {z : Int32} {f : Nat → Int32} {n : Nat} (h : cn z f n < n) : ∃ i, i < n ∧ f i = z := by
  induction n with
  | zero => omega
  | succ n ih =>
    unfold cn at h
    by_cases q : f n = z
    · exact ⟨n, by omega, q⟩
    · rw [if_neg q] at h
      obtain ⟨i, h1, h2⟩ := ih (by omega)
      exact ⟨i, by omega, h2⟩
theorem cn_has {z : Int32} {f : Nat → Int32} {n i : Nat} (hi : i < n) (h : f i = z) : cn z f n < n := by
  induction n with
  | zero => omega
  | succ n ih =>
    unfold cn
    by_cases q : i = n
    · subst q
      have := cn_le (z := z) (f := f) (n := i)
      rw [if_pos h]; omega
    · have := ih (by omega)
      split <;> omega
-- the row of nodes as a number
def od (b : Nat) (d : Nat → Nat) (s : Nat → Bool) : Nat → Nat
  | 0 => 0
  | k + 1 => if s k = true then od b d s k * b + d k else od b d s k
theorem od_cg {b : Nat} {d h : Nat → Nat} {s : Nat → Bool} {k : Nat} (e : ∀ i, i < k → s i = true → h i = d i) : od b h s k = od b d s k := by
  induction k with
  | zero => rfl
  | succ k ih =>
    unfold od
    rw [ih (fun i hi => e i (by omega))]
    split
    · rename_i q; rw [e k (by omega) q]
    · rfl
theorem od_lt {b : Nat} {d : Nat → Nat} {s : Nat → Bool} {k : Nat} (hb : 1 ≤ b) (h : ∀ i, i < k → d i < b) : od b d s k + 1 ≤ b ^ k := by
  induction k with
  | zero => exact Nat.le_refl _
  | succ k ih =>
    have i1 := ih (fun i hi => h i (by omega))
    have i2 := h k (by omega)
    have i3 : (od b d s k + 1) * b ≤ b ^ k * b := Nat.mul_le_mul_right b i1
    rw [Nat.add_mul] at i3
    unfold od
    rw [Nat.pow_succ]
    split
    · omega
    · have : b ^ k * 1 ≤ b ^ k * b := Nat.mul_le_mul_left _ hb
      omega
def Ow (b : Nat) (d : Nat → Nat) (s : Nat → Bool) (N k w : Nat) : Prop := (od b d s k + 1) * w = od b d s N + 1 ∧ ∀ h : Nat → Nat, (∀ i, k ≤ i → i < N → s i = true → h i = 0) → od b h s N = od b h s k * w
theorem Ow_0 {b : Nat} {d : Nat → Nat} {s : Nat → Bool} {N : Nat} : Ow b d s N N 1 := ⟨Nat.mul_one _, fun _ _ => (Nat.mul_one _).symm⟩
theorem Ow_skip {b : Nat} {d : Nat → Nat} {s : Nat → Bool} {N k w : Nat} (hs : s k = false) (h : Ow b d s N (k + 1) w) : Ow b d s N k w := by
  obtain ⟨h1, h2⟩ := h
  have e : ∀ d : Nat → Nat, od b d s (k + 1) = od b d s k := fun d => by
    show (if s k = true then _ else _) = _
    rw [hs]; rfl
  rw [e] at h1
  exact ⟨h1, fun g hg => by rw [← e]; exact h2 g (fun i hi => hg i (by omega))⟩
theorem od_s {b : Nat} {d : Nat → Nat} {s : Nat → Bool} {k : Nat} (hs : s k = true) : od b d s (k + 1) = od b d s k * b + d k := by
  show (if s k = true then _ else _) = _
  rw [if_pos hs]
theorem Ow_car {b : Nat} {d : Nat → Nat} {s : Nat → Bool} {N k w : Nat} (hs : s k = true) (hd : d k + 1 = b) (hN : k < N) (h : Ow b d s N (k + 1) w) : Ow b d s N k (b * w) := by
  obtain ⟨h1, h2⟩ := h
  rw [od_s hs] at h1
  refine ⟨?_, fun g hg => ?_⟩
  · rw [← h1, ← Nat.mul_assoc, Nat.add_mul]
    congr 1
    omega
  · rw [h2 g (fun i hi => hg i (by omega)), od_s hs, hg k (Nat.le_refl _) hN hs, Nat.add_zero, Nat.mul_assoc]
theorem Ow_inc {b : Nat} {d : Nat → Nat} {s : Nat → Bool} {N k w : Nat} (hs : s k = true) (h : Ow b d s N (k + 1) w) {g : Nat → Nat} (g1 : ∀ i, i < k → g i = d i) (g2 : g k = d k + 1) (g3 : ∀ i, k + 1 ≤ i → i < N → s i = true → g i = 0) : od b g s N = od b d s N + 1 := by
  obtain ⟨h1, h2⟩ := h
  rw [h2 g g3, od_s hs, ← h1, od_s hs, od_cg (fun i hi _ => g1 i hi), g2]
  rfl
def dg (f : Nat → Int32) (i : Nat) : Nat := (f i).toInt.toNat
/-- the slots of text p that belong to group a -/
def sl (g : Nat → Int32) (p : Nat) (a : Int32) (i : Nat) : Bool := decide (g (8 * p + i) = a)
/-- the row of nodes: its cell, every number below b -/
def Dg (c : Zc) (k : Nat) (b : Int) (f : Nat → Int32) : Prop := c[k]? = some (.inl (0, 8, .inl f)) ∧ ∀ i, i < 8 → 0 ≤ (f i).toInt ∧ (f i).toInt < b
def Gr (c : Zc) (k : Nat) (g : Nat → Int32) : Prop := c[k]? = some (.inl (0, 72, .inl g))
end ZzT
