section ZzT
theorem zx_ok {L : Nat} {xs : Nat → Int32} {i : Int32} (h0 : 0 ≤ i.toInt) (h1 : i.toInt < L) : zxs L xs i = some (xs i.toNatClampNeg) := if_pos (i_ix h0 h1)
theorem PQk_an {G : List Nat} {c : Zc} {a0 kk nn : Nat} (h : PQk G c a0 kk nn) : ∀ ar k, zgr c a0 11 8 = some ar → ∀ i : Int32, 0 ≤ i.toInt → i.toInt < 4 → zar c ar 5 i = some k → ∃ r w cl od ot, Zro G c k r w cl od ot := by
  obtain ⟨co, rp, fp, ar, pp, r, w, cl, od, ot, rf, wf, clf, odf, otf, ra, wa, ca, oa, ta, ⟨e1, t1, e2, t2, e3, t3, e4, t4⟩, R, S, h1, h2, h3, h4, h5⟩ := h
  intro ar' k e i i0 i4 ek
  rw [e4] at e; cases e
  rw [h1 i i0 i4] at ek; cases ek
  exact ⟨_, _, _, _, _, (h2 i.toInt.toNat (by omega)).2⟩
/-- the world between two calls -/
def LWd (G : List Nat) (c : Zc) (x1 x2 kk nn : Nat) : Prop := Zwt zty G c ∧ G[x1]? = some 14 ∧ G[x2]? = some 64 ∧ PQk G c x1 kk nn ∧ GtW c x2 ∧ TkN c x2 ∧ (∃ na, zgi c x2 12 8 = some na ∧ AcN c x2 na) ∧ ∃ ta tb, zgi c x1 11 10 = some ta ∧ zgi c x2 12 13 = some tb ∧ ta.toInt = tb.toInt ∧ ∃ gp, zgr c x1 11 1 = some gp ∧ G[gp]? = some 1 ∧ GCo c gp x2 ∧ GAr c gp x2
def LInv (x1 x2 : Nat) (a : Nat × Nat × Int32 × Nat × Nat × Zc) : Prop := a.1 = x1 ∧ a.2.1 = x2 ∧ (0 ≤ a.2.2.1.toInt ∧ a.2.2.1.toInt ≤ 3072) ∧ ∃ G, LWd G a.2.2.2.2.2 x1 x2 a.2.2.2.1 a.2.2.2.2.1
def LEx (b : (Nat × Nat × Zc) ⊕ (Nat × Nat × Zc)) : Prop := ∃ kk nn c, b = .inr (kk, nn, c) ∧ kk ≤ 600000 ∧ nn ≤ 7302249
def LMe (L : Nat) (a : Nat × Nat × Int32 × Nat × Nat × Zc) : Nat := ((L : Int) + 6 - a.2.2.1.toInt).toNat
def LPo (L x1 x2 : Nat) (x3 : Int32) (r : (Nat × Nat × Int32 × Nat × Nat × Zc) ⊕ (Nat × Nat × Zc) ⊕ (Nat × Nat × Zc)) : Prop := (∀ y, r = .inl y → LInv x1 x2 y ∧ LMe L y < ((L : Int) + 6 - x3.toInt).toNat) ∧ (∀ b, r = .inr b → LEx b)
theorem lp_in {G : List Nat} {L x1 x2 kk nn : Nat} {x3 : Int32} {c : Zc} (h : LWd G c x1 x2 kk nn) (hL : L ≤ 3072) (h0 : 0 ≤ x3.toInt) (h6 : x3.toInt + 6 ≤ L) : ∃ r, (some (.inl (x1, x2, x3 + 6, kk, nn, c)) : Option ((Nat × Nat × Int32 × Nat × Nat × Zc) ⊕ (Nat × Nat × Zc) ⊕ (Nat × Nat × Zc))) = some r ∧ LPo L x1 x2 x3 r := by
  have l6 : (6 : Int32).toInt = 6 := by decide
  have := i_add (a := x3) (b := 6) (by omega) (by omega)
  refine ⟨_, rfl, (fun y hy => ?_), (fun b hb => by cases hb)⟩
  cases hy
  exact ⟨⟨rfl, rfl, ⟨by dsimp only; omega, by dsimp only; omega⟩, G, h⟩, by unfold LMe; dsimp only; omega⟩

end ZzT
