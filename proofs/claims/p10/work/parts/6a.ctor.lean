section ZzT
/-- what is made stays as it is: all types but that of the place a, all cells but a -/
def Zx (G G' : List Nat) (a : Nat) : Prop := ∀ k T : Nat, G[k]? = some T → k ≠ a → G'[k]? = some T
def Zsm (c c' : Zc) (a : Nat) : Prop := c.length ≤ c'.length ∧ ∀ k, k < c.length → k ≠ a → c'[k]? = c[k]?
theorem Zx.rf {G : List Nat} {a : Nat} : Zx G G a := fun _ _ h _ => h
theorem Zsm.rf {c : Zc} {a : Nat} : Zsm c c a := ⟨Nat.le_refl _, fun _ _ _ => rfl⟩
theorem Zx.tr {G G1 G2 : List Nat} {a : Nat} (h1 : Zx G G1 a) (h2 : Zx G1 G2 a) : Zx G G2 a := fun k T h hk => h2 k T (h1 k T h hk) hk
theorem Zsm.tr {c c1 c2 : Zc} {a : Nat} (h1 : Zsm c c1 a) (h2 : Zsm c1 c2 a) : Zsm c c2 a := ⟨Nat.le_trans h1.1 h2.1, fun k hk ha => (h2.2 k (Nat.lt_of_lt_of_le hk h1.1) ha).trans (h1.2 k hk ha)⟩
def Zvs (G : List Nat) : List Zf → List Value → Prop
  | [], [] => True
  | f :: fs, v :: vs => Zcv G f v ∧ Zvs G fs vs
  | _, _ => False
theorem Zvs.len {G : List Nat} : ∀ {fs : List Zf} {vs : List Value}, Zvs G fs vs → vs.length = fs.length
  | [], [], _ => rfl
  | _ :: fs, _ :: vs, h => by rw [List.length_cons, List.length_cons, Zvs.len h.2]
theorem Zvs.get {G : List Nat} : ∀ {fs : List Zf} {vs : List Value}, Zvs G fs vs → ∀ (j : Nat) (f : Zf), fs[j]? = some f → ∃ v, vs[j]? = some v ∧ Zcv G f v
  | [], [], _, j, f, h => by simp at h
  | f0 :: fs, v0 :: vs, h, 0, f, hj => by
    simp at hj
    subst hj
    exact ⟨v0, rfl, h.1⟩
  | f0 :: fs, v0 :: vs, h, j + 1, f, hj => Zvs.get h.2 j f (by simpa using hj)
section
variable {G : List Nat} {c : Zc} {a0 ci T : Nat} {vs : List Value} {fs : List Zf}
/-- a field of an object that is being made -/
theorem raw_p (W : Zwt zty G c) (h0 : G[a0]? = some 0) (hc : c[a0]? = some (.inr (ci, vs))) {j : Nat} {v : Value} (hj : j < vs.length) : ∃ c', zpv c a0 ci j v = some c' ∧ Zwt zty G c' ∧ c'[a0]? = some (.inr (ci, vs.set j v)) ∧ Zsm c c' a0 ∧ c'.length = c.length := by
  have hl : a0 < c.length := (List.getElem?_eq_some_iff.mp hc).1
  refine ⟨c.set a0 (.inr (ci, vs.set j v)), by unfold zpv; rw [hc]; exact if_pos ⟨rfl, hj⟩, wt_set W h0 (True.intro : True), List.getElem?_set_self hl, ⟨by rw [List.length_set]; exact Nat.le_refl _, fun k _ hk => List.getElem?_set_ne (Ne.symm hk)⟩, List.length_set⟩
/-- a new cell -/
theorem raw_n {e : va_E} (W : Zwt zty G c) (hc : c[a0]? = some (.inr (ci, vs))) (h0 : G[a0]? = some 0) (he : Zco (G ++ [T]) (zty T) e) : Zwt zty (G ++ [T]) (c ++ [e]) ∧ (c ++ [e])[a0]? = some (.inr (ci, vs)) ∧ (G ++ [T])[a0]? = some 0 ∧ (G ++ [T])[c.length]? = some T ∧ (c ++ [e])[c.length]? = some e ∧ Zx G (G ++ [T]) a0 ∧ Zsm c (c ++ [e]) a0 ∧ (c ++ [e]).length = c.length + 1 := by
  have hl : a0 < c.length := (List.getElem?_eq_some_iff.mp hc).1
  have ex : Zex G (G ++ [T]) := ⟨[T], rfl⟩
  refine ⟨wt_new W he, by rw [List.getElem?_append_left hl]; exact hc, ex.get h0, ?_, ?_, fun k U hk _ => ex.get hk, ⟨by simp, fun k hk _ => List.getElem?_append_left hk⟩, by simp⟩
  · rw [← W.1, List.getElem?_append_right (Nat.le_refl _), Nat.sub_self]; rfl
  · rw [List.getElem?_append_right (Nat.le_refl _), Nat.sub_self]; rfl
theorem zc0 (U T' : Nat) : zclb 0 T' (zty U) = true := by
  unfold zty
  split <;> rfl
/-- an object is made: its place gets its type -/
theorem wt_seal (W : Zwt zty G c) (h0 : G[a0]? = some 0) (hc : c[a0]? = some (.inr (ci, vs))) (ht : zty T = kOb ci fs) (hv : Zvs (G.set a0 T) fs vs) : Zwt zty (G.set a0 T) c ∧ (G.set a0 T)[a0]? = some T ∧ Zx G (G.set a0 T) a0 := by
  have hlt := (List.getElem?_eq_some_iff.mp h0).1
  have hx : Zx G (G.set a0 T) a0 := fun k U hk hne => by rw [List.getElem?_set_ne (Ne.symm hne)]; exact hk
  refine ⟨⟨by rw [List.length_set]; exact W.1, fun q U hq => ?_⟩, List.getElem?_set_self hlt, hx⟩
  by_cases h : a0 = q
  · subst h
    rw [List.getElem?_set_self hlt] at hq
    cases hq
    refine ⟨_, hc, ?_⟩
    rw [ht]
    exact ⟨vs, rfl, hv.len, hv.get⟩
  · rw [List.getElem?_set_ne h] at hq
    obtain ⟨e, h1, h2⟩ := W.2 q U hq
    exact ⟨e, h1, zco_re h0 (fun U => zc0 U T) U e h2⟩
end
theorem Zx.get {G G' : List Nat} {a k T : Nat} (x : Zx G G' a) (h0 : G[a]? = some 0) (h : G[k]? = some T) (hT : T ≠ 0) : G'[k]? = some T := x k T h (pl_ne h h0 hT)
theorem set_get {G : List Nat} {a k T U : Nat} (h0 : G[a]? = some 0) (h : G[k]? = some U) (hU : U ≠ 0) : (G.set a T)[k]? = some U := by
  rw [List.getElem?_set_ne (Ne.symm (pl_ne h h0 hU))]; exact h
theorem Zvs.cons {G : List Nat} {f : Zf} {fs : List Zf} {v : Value} {vs : List Value} (h1 : Zcv G f v) (h2 : Zvs G fs vs) : Zvs G (f :: fs) (v :: vs) := ⟨h1, h2⟩
theorem Zvs.nil {G : List Nat} : Zvs G [] [] := True.intro
theorem Zcv.mi {G : List Nat} {P : Int32 → Prop} {x : Int32} (h : P x) : Zcv G (tI P) (.int x) := ⟨x, rfl, h⟩
theorem Zcv.ml {G : List Nat} {x : Int64} : Zcv G tL (.long x) := ⟨x, rfl⟩
theorem Zcv.mr {G : List Nat} {k T : Nat} {S : List Nat} (h : G[k]? = some T) (hS : T ∈ S) : Zcv G (tR S) (.ref k) := ⟨k, T, rfl, h, hS⟩
/-- something inside is made: what was there before stays -/
theorem Zx.inn {G G1 G2 : List Nat} {a p : Nat} (h1 : Zx G G1 a) (h2 : Zx G1 G2 p) (hp : G.length ≤ p) : Zx G G2 a := fun k T h hk => h2 k T (h1 k T h hk) (by have := (List.getElem?_eq_some_iff.mp h).1; omega)
theorem Zsm.inn {c c1 c2 : Zc} {a p : Nat} (h1 : Zsm c c1 a) (h2 : Zsm c1 c2 p) (hp : c.length ≤ p) : Zsm c c2 a := ⟨Nat.le_trans h1.1 h2.1, fun k hk ha => (h2.2 k (Nat.lt_of_lt_of_le hk h1.1) (by omega)).trans (h1.2 k hk ha)⟩
theorem raw_g {c : Zc} {a0 ci j k : Nat} {vs : List Value} (hc : c[a0]? = some (.inr (ci, vs))) (hj : vs[j]? = some (.ref k)) : zgr c a0 ci j = some k := by
  unfold zgr zgv; rw [hc]; simp [hj]
theorem raw_i {c : Zc} {a0 ci j : Nat} {x : Int32} {vs : List Value} (hc : c[a0]? = some (.inr (ci, vs))) (hj : vs[j]? = some (.int x)) : zgi c a0 ci j = some x := by
  unfold zgi zgv; rw [hc]; simp [hj]
theorem raw_l {c : Zc} {k n : Nat} {t : ClassId} {a : (Nat → Int32) ⊕ (Nat → Int64) ⊕ (Nat → UInt32) ⊕ (Nat → UInt64) ⊕ (Nat → Option Nat)} (hc : c[k]? = some (.inl (t, n, a))) : zln c k = n := by
  unfold zln zrr; rw [hc]
/-- an array is filled: only its cell changes -/
theorem k_fill {nf : Nat} (hn : 8589934592 ≤ nf) {G : List Nat} {c : Zc} {k T n : Nat} {P : Int32 → Prop} (W : Zwt zty G c) (h : G[k]? = some T) (ht : zty T = kAi 0 n P) (h2 : n ≤ 100000) {v : Int32} (hv : P v) : ∃ q, f_Arrays_fill nf k v c = some q ∧ Zwt zty G q ∧ Zsm c q k ∧ q.length = c.length ∧ ∀ i : Int32, 0 ≤ i.toInt → i.toInt < n → zai q k 0 i = some v := by
  have l0 : (0 : Int32).toInt = 0 := by decide
  have l1 : (1 : Int32).toInt = 1 := by decide
  have hN := i_ofn (n := n) (by omega)
  have L : ∃ b, zlp (fun a : Nat × Int32 × Int32 × Int32 × Zc => g_Arrays_fill_5 nf a.1 a.2.1 a.2.2.1 a.2.2.2.1 a.2.2.2.2) nf (k, v, 0, Int32.ofNat n, c) = some b ∧ (fun q : Zc => Zwt zty G q ∧ Zsm c q k ∧ q.length = c.length ∧ ∀ i : Int32, 0 ≤ i.toInt → i.toInt < n → zai q k 0 i = some v) b := by
    refine wlp (fun a : Nat × Int32 × Int32 × Int32 × Zc => (k, v, Int32.ofNat n) = (a.1, a.2.1, a.2.2.2.1) ∧ (0 ≤ a.2.2.1.toInt ∧ a.2.2.1.toInt ≤ n) ∧ Zwt zty G a.2.2.2.2 ∧ Zsm c a.2.2.2.2 k ∧ a.2.2.2.2.length = c.length ∧ ∀ i : Int32, 0 ≤ i.toInt → i.toInt < a.2.2.1.toInt → zai a.2.2.2.2 k 0 i = some v) (fun a => (n - a.2.2.1.toInt).toNat) _ ?_ ?_ ?_
    · rintro ⟨y0, y1, x2, y3, c9⟩ hI
      dsimp only at hI ⊢
      obtain ⟨hq, ⟨j1, j2⟩, W9, S9, l9, C9⟩ := hI
      cases hq
      unfold g_Arrays_fill_5
      refine wi (fun q => ?_) (fun q => ?_)
      · have q := i_le q
        exact lInr ⟨W9, S9, l9, fun i i0 i1 => C9 i i0 (by omega)⟩
      · have q := i_nle q
        have hs := i_add (a := x2) (b := 1) (by omega) (by omega)
        obtain ⟨z, ez, Wz, fz, gz⟩ := wt_si W9 h ht (i := x2) (by omega) (by omega) hv
        obtain ⟨m, f, e1, e2, e3⟩ := zsi_x ez
        refine wb ez ?_
        refine lInl ⟨rfl, ⟨by dsimp only; omega, by dsimp only; omega⟩, Wz, Zsm.tr S9 ⟨by rw [e3, List.length_set]; exact Nat.le_refl _, fun k2 _ hk2 => by rw [e3, List.getElem?_set_ne (Ne.symm hk2)]⟩, by dsimp only; rw [e3, List.length_set]; exact l9, fun i i0 i1 => ?_⟩ (by dsimp only; omega)
        dsimp only at i1
        by_cases q2 : i.toInt < x2.toInt
        · exact (zai_wn ez i0 q2).trans (C9 i i0 q2)
        · have : i = x2 := Int32.toInt_inj.mp (by omega)
          subst this
          exact gz
    · exact ⟨rfl, ⟨by dsimp only; omega, by dsimp only; omega⟩, W, Zsm.rf, rfl, fun i i0 i1 => by dsimp only at i1; omega⟩
    · dsimp only; omega
  obtain ⟨b, eb, hb⟩ := L
  unfold f_Arrays_fill f_Arrays_fill_5
  exact wb (wt_len W h (.inl ⟨_, ht⟩)) (wb eb ⟨_, rfl, hb⟩)
theorem Zro.sm {G G' : List Nat} {c c' : Zc} {k a T : Nat} {r w : Int32} {cl od ot : Nat} (R : Zro G c k r w cl od ot) (W : Zwt zty G c) (hk : G[k]? = some T) (hT : T ≠ 0) (s : Zsm c c' a) (x : Zx G G' a) (h0 : G[a]? = some 0) : Zro G' c' k r w cl od ot := by
  obtain ⟨⟨e0, e1, e2, e3, e4⟩, ⟨t1, t2, t3⟩, b, b5, b6, b7⟩ := R
  have g : ∀ {j U : Nat}, G[j]? = some U → U ≠ 0 → c'[j]? = c[j]? := fun h hU => s.2 _ (wt_lt W h) (pl_ne h h0 hU)
  have gk := g hk hT
  have g1 := g t1 (by decide)
  have g2 := g t2 (by decide)
  have g3 := g t3 (by decide)
  refine ⟨⟨?_, ?_, ?_, ?_, ?_⟩, ⟨x.get h0 t1 (by decide), x.get h0 t2 (by decide), x.get h0 t3 (by decide)⟩, b, ?_, ?_, b7⟩
  · rw [← e0]; unfold zgi zgv; rw [gk]
  · rw [← e1]; unfold zgi zgv; rw [gk]
  · rw [← e2]; unfold zgr zgv; rw [gk]
  · rw [← e3]; unfold zgr zgv; rw [gk]
  · rw [← e4]; unfold zgr zgv; rw [gk]
  · unfold zln zrr at b5 ⊢; rw [g1]; exact b5
  · unfold zln zrr at b6 ⊢; rw [g2, g3]; exact b6
end ZzT
