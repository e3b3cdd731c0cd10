section ZzT
set_option maxRecDepth 100000 in
set_option maxHeartbeats 8000000 in
theorem p_law_lp {nf : Nat} (hn : 8589934592 ≤ nf) {L : Nat} {xs : Nat → Int32} (hL : L ≤ 3072) {x1 x2 : Nat} {a : Nat × Nat × Int32 × Nat × Nat × Zc} (h : LInv x1 x2 a) (h3 : a.2.2.1.toInt = 0) : ∃ b, zlp (fun a : Nat × Nat × Int32 × Nat × Nat × Zc => g_Law_law_18 nf L xs a.1 a.2.1 a.2.2.1 a.2.2.2.1 a.2.2.2.2.1 a.2.2.2.2.2) nf a = some b ∧ LEx b := by
  have l0 : (0 : Int32).toInt = 0 := by decide
  have l6 : (6 : Int32).toInt = 6 := by decide
  have hN := i_ofn (n := L) (by omega)
  have hN6 := i_sub (a := Int32.ofNat L) (b := 6) (by omega) (by omega)
  refine wlp (LInv x1 x2) (LMe L) LEx ?_ h (by unfold LMe; omega)
  · rintro ⟨y1, y2, x3, kk, nn, c⟩ hI
    obtain ⟨hy1, hy2, ⟨j1, j2⟩, G9, h9⟩ := hI
    dsimp only at hy1 hy2 j1 j2 h9 ⊢
    subst hy1 hy2
    show ∃ r, g_Law_law_18 nf L xs y1 y2 x3 kk nn c = some r ∧ LPo L y1 y2 x3 r
    unfold g_Law_law_18
    refine wi (fun hq => ?_) (fun hq => ?_)
    · have hb := PQk_bd h9.2.2.2.1 h9.1
      exact ⟨_, rfl, (fun y hy => by cases hy), (fun b hb2 => by cases hb2; exact ⟨kk, nn, c, rfl, hb.1, hb.2⟩)⟩
    · have hq := i_nlt hq
      obtain ⟨v6, e6⟩ : ∃ v, zxs L xs x3 = some v := ⟨_, zx_ok (by omega) (by omega)⟩
      refine wb e6 ?_
      refine wi (fun _ => lc_0 hn hL h9 j1 (by omega)) (fun _ => ?_)
      refine wi (fun _ => lc_1 hn hL h9 j1 (by omega)) (fun _ => ?_)
      refine wi (fun _ => lc_2 hn hL h9 j1 (by omega)) (fun _ => ?_)
      refine wi (fun _ => lc_3 hn hL h9 j1 (by omega)) (fun _ => ?_)
      refine wi (fun _ => lc_4 hn hL h9 j1 (by omega)) (fun _ => ?_)
      refine wi (fun _ => lc_5 hn hL h9 j1 (by omega)) (fun _ => ?_)
      refine wi (fun _ => lc_6 hn hL h9 j1 (by omega)) (fun _ => ?_)
      refine wi (fun _ => lc_7 hn hL h9 j1 (by omega)) (fun _ => ?_)
      refine wi (fun _ => lc_8 hn hL h9 j1 (by omega)) (fun _ => ?_)
      refine wi (fun _ => lc_9 hn hL h9 j1 (by omega)) (fun _ => ?_)
      refine wi (fun _ => lc_10 hn hL h9 j1 (by omega)) (fun _ => ?_)
      refine wi (fun _ => lc_11 hn hL h9 j1 (by omega)) (fun _ => ?_)
      refine wi (fun _ => lc_12 hn hL h9 j1 (by omega)) (fun _ => ?_)
      refine wi (fun _ => lc_13 hn hL h9 j1 (by omega)) (fun _ => ?_)
      refine wi (fun _ => lc_14 hn hL h9 j1 (by omega)) (fun _ => ?_)
      refine wi (fun _ => lc_15 hn hL h9 j1 (by omega)) (fun _ => ?_)
      refine wi (fun _ => lc_16 hn hL h9 j1 (by omega)) (fun _ => ?_)
      refine wi (fun _ => lc_17 hn hL h9 j1 (by omega)) (fun _ => ?_)
      unfold f_Law_law_684
      exact lp_in h9 hL j1 (by omega)
theorem pure_ok : ∀ (L : Nat) (xs : Nat → Int32), L ≤ 3072 → ∃ (nf : Nat) (res : Nat × Nat × Zc), f_Law_law nf L xs [] = some res ∧ (res.1 ≤ 600000 ∧ res.2.1 ≤ 7302249) := by
  intro L xs hL
  refine ⟨8589934592, ?_⟩
  have hn : 8589934592 ≤ 8589934592 := Nat.le_refl _
  generalize hnf : 8589934592 = nf at hn ⊢
  have hn : 8589934592 ≤ nf := by omega
  unfold f_Law_law
  refine wb (v := [(.inr (11, [.null, .null, .null, .null, .null, .null, .null, .null, .null, .null, .int 0]) : va_E)]) rfl ?_
  unfold f_Law_law_3
  have W0 : Zwt zty [0] [(.inr (11, [.null, .null, .null, .null, .null, .null, .null, .null, .null, .null, .int 0]) : va_E)] := ⟨rfl, fun k T hk => by
    cases k with
    | zero => cases hk; exact ⟨_, rfl, (True.intro : True)⟩
    | succ k => simp at hk⟩
  obtain ⟨q2, eq2, G2, W2, X2, t2, S2, l2, w2, z2⟩ := k_PQ_init hn W0 (a0 := 0) rfl rfl
  refine wb eq2 ?_
  unfold f_Law_law_7
  refine wb (v := q2 ++ [(.inr (12, [.int 0, .null, .null, .null, .null, .null, .null, .null, .int 0, .null, .int 0, .int 0, .null, .int 0, .null, .null, .null, .int 0, .int 0, .int 0, .int 0, .int 0, .null, .null, .int 0, .int 0, .null, .null, .null, .null, .null, .null, .null, .null, .null, .null, .null, .null, .null, .null, .null, .null, .null, .null, .null, .null, .null, .null, .null, .null, .null, .null, .int 0, .int 0, .null, .null, .int 0, .int 0, .null, .null, .null, .null, .null, .null, .null, .int 0, .null, .null, .null, .int 0, .null, .null, .null, .null, .null, .null, .null, .null, .null, .null, .null, .int 0, .null, .null, .null, .null, .null, .int 0, .null, .null]) : va_E)]) rfl ?_
  unfold f_Law_law_11
  have W3 : Zwt zty (G2 ++ [0]) (q2 ++ [(.inr (12, [.int 0, .null, .null, .null, .null, .null, .null, .null, .int 0, .null, .int 0, .int 0, .null, .int 0, .null, .null, .null, .int 0, .int 0, .int 0, .int 0, .int 0, .null, .null, .int 0, .int 0, .null, .null, .null, .null, .null, .null, .null, .null, .null, .null, .null, .null, .null, .null, .null, .null, .null, .null, .null, .null, .null, .null, .null, .null, .null, .null, .int 0, .int 0, .null, .null, .int 0, .int 0, .null, .null, .null, .null, .null, .null, .null, .int 0, .null, .null, .null, .int 0, .null, .null, .null, .null, .null, .null, .null, .null, .null, .null, .null, .int 0, .null, .null, .null, .null, .null, .int 0, .null, .null]) : va_E)]) := wt_new W2 (True.intro : True)
  have t3 : (G2 ++ [0])[q2.length]? = some 0 := by rw [← W2.1, List.getElem?_append_right (Nat.le_refl _), Nat.sub_self]; rfl
  have c3 : (q2 ++ [(.inr (12, [.int 0, .null, .null, .null, .null, .null, .null, .null, .int 0, .null, .int 0, .int 0, .null, .int 0, .null, .null, .null, .int 0, .int 0, .int 0, .int 0, .int 0, .null, .null, .int 0, .int 0, .null, .null, .null, .null, .null, .null, .null, .null, .null, .null, .null, .null, .null, .null, .null, .null, .null, .null, .null, .null, .null, .null, .null, .null, .null, .null, .int 0, .int 0, .null, .null, .int 0, .int 0, .null, .null, .null, .null, .null, .null, .null, .int 0, .null, .null, .null, .int 0, .null, .null, .null, .null, .null, .null, .null, .null, .null, .null, .null, .int 0, .null, .null, .null, .null, .null, .int 0, .null, .null]) : va_E)])[q2.length]? = some (.inr (12, [.int 0, .null, .null, .null, .null, .null, .null, .null, .int 0, .null, .int 0, .int 0, .null, .int 0, .null, .null, .null, .int 0, .int 0, .int 0, .int 0, .int 0, .null, .null, .int 0, .int 0, .null, .null, .null, .null, .null, .null, .null, .null, .null, .null, .null, .null, .null, .null, .null, .null, .null, .null, .null, .null, .null, .null, .null, .null, .null, .null, .int 0, .int 0, .null, .null, .int 0, .int 0, .null, .null, .null, .null, .null, .null, .null, .int 0, .null, .null, .null, .int 0, .null, .null, .null, .null, .null, .null, .null, .null, .null, .null, .null, .int 0, .null, .null, .null, .null, .null, .int 0, .null, .null])) := by rw [List.getElem?_append_right (Nat.le_refl _), Nat.sub_self]; rfl
  have g3 : ∀ j U : Nat, G2[j]? = some U → U ≠ 0 → (q2 ++ [(.inr (12, [.int 0, .null, .null, .null, .null, .null, .null, .null, .int 0, .null, .int 0, .int 0, .null, .int 0, .null, .null, .null, .int 0, .int 0, .int 0, .int 0, .int 0, .null, .null, .int 0, .int 0, .null, .null, .null, .null, .null, .null, .null, .null, .null, .null, .null, .null, .null, .null, .null, .null, .null, .null, .null, .null, .null, .null, .null, .null, .null, .null, .int 0, .int 0, .null, .null, .int 0, .int 0, .null, .null, .null, .null, .null, .null, .null, .int 0, .null, .null, .null, .int 0, .null, .null, .null, .null, .null, .null, .null, .null, .null, .null, .null, .int 0, .null, .null, .null, .null, .null, .int 0, .null, .null]) : va_E)])[j]? = q2[j]? := fun j U h _ => List.getElem?_append_left (wt_lt W2 h)
  have x3 : ∀ j U : Nat, G2[j]? = some U → U ≠ 0 → (G2 ++ [0])[j]? = some U := fun j U h _ => Zex.get ⟨[0], rfl⟩ h
  have w3 := PQw_mv w2 t2 g3 x3
  have z3 : zgi (q2 ++ [(.inr (12, [.int 0, .null, .null, .null, .null, .null, .null, .null, .int 0, .null, .int 0, .int 0, .null, .int 0, .null, .null, .null, .int 0, .int 0, .int 0, .int 0, .int 0, .null, .null, .int 0, .int 0, .null, .null, .null, .null, .null, .null, .null, .null, .null, .null, .null, .null, .null, .null, .null, .null, .null, .null, .null, .null, .null, .null, .null, .null, .null, .null, .int 0, .int 0, .null, .null, .int 0, .int 0, .null, .null, .null, .null, .null, .null, .null, .int 0, .null, .null, .null, .int 0, .null, .null, .null, .null, .null, .null, .null, .null, .null, .null, .null, .int 0, .null, .null, .null, .null, .null, .int 0, .null, .null]) : va_E)]) 0 11 10 = some 0 := by rw [← z2]; unfold zgi zgv; rw [g3 0 14 t2 (by decide)]
  have t3' := x3 _ _ t2 (by decide)
  generalize q2 ++ [(.inr (12, [.int 0, .null, .null, .null, .null, .null, .null, .null, .int 0, .null, .int 0, .int 0, .null, .int 0, .null, .null, .null, .int 0, .int 0, .int 0, .int 0, .int 0, .null, .null, .int 0, .int 0, .null, .null, .null, .null, .null, .null, .null, .null, .null, .null, .null, .null, .null, .null, .null, .null, .null, .null, .null, .null, .null, .null, .null, .null, .null, .null, .int 0, .int 0, .null, .null, .int 0, .int 0, .null, .null, .null, .null, .null, .null, .null, .int 0, .null, .null, .null, .int 0, .null, .null, .null, .null, .null, .null, .null, .null, .null, .null, .null, .int 0, .null, .null, .null, .null, .null, .int 0, .null, .null]) : va_E)] = d3 at W3 c3 g3 w3 z3 ⊢
  generalize G2 ++ [0] = G3 at W3 t3 x3 w3 t3'
  obtain ⟨q4, eq4, G4, W4, X4, t4, S4, l4, gw, tk, ac, e8, e13⟩ := k_Mo_init hn W3 t3 c3
  refine wb eq4 ?_
  unfold f_Law_law_15 f_Law_law_18
  have x4 : ∀ j U : Nat, G3[j]? = some U → U ≠ 0 → G4[j]? = some U := fun j U h hU => X4 j U h (pl_ne h t3 hU)
  have g4 : ∀ j U : Nat, G3[j]? = some U → U ≠ 0 → q4[j]? = d3[j]? := fun j U h hU => S4.2 j (wt_lt W3 h) (pl_ne h t3 hU)
  have w4 := PQw_mv w3 t3' g4 x4
  have z4 : zgi q4 0 11 10 = some 0 := by rw [← z3]; unfold zgi zgv; rw [g4 0 14 t3' (by decide)]
  obtain ⟨b, eb, hb⟩ := p_law_lp hn hL (xs := xs) (x1 := 0) (x2 := q2.length) (a := (0, q2.length, 0, 948, 1081343, q4)) ⟨rfl, rfl, ⟨by decide, by decide⟩, G4, W4, x4 _ _ t3' (by decide), t4, PQk_of w4, gw, tk, ⟨0, e8, ac⟩, 0, 0, z4, e13, rfl⟩ (by decide)
  refine wb eb ?_
  obtain ⟨kk, nn, c, rfl, h1, h2⟩ := hb
  exact ⟨_, rfl, h1, h2⟩

end ZzT
