section ZzT
set_option maxRecDepth 100000 in
set_option maxHeartbeats 8000000 in
theorem p_law_lp {nf : Nat} (hn : 8589934592 ≤ nf) {L : Nat} {xs : Nat → Int32} (hL : L ≤ 3072) {x1 x2 : Nat} {a : Nat × Nat × Int32 × Nat × Nat × Zc} (h : LInv x1 x2 a) (h3 : a.2.2.1.toInt = 0) : ∃ b, zlp (fun a : Nat × Nat × Int32 × Nat × Nat × Zc => g_Law_law_18 nf L xs a.1 a.2.1 a.2.2.1 a.2.2.2.1 a.2.2.2.2.1 a.2.2.2.2.2) nf a = some b ∧ LEx b := by
  have l0 : (0 : Int32).toInt = 0 := by decide
  have l6 : (6 : Int32).toInt = 6 := by decide
  have hN := i_ofn (n := L) (by omega)
  have hN6 := i_sub (a := Int32.ofNat L) (b := 6) (by omega) (by omega)
  refine wlp (LInv x1 x2) (LMe L) LEx ?_ h (by unfold LMe; omega)
  · rintro ⟨y1, y2, x3, kk, nn, c⟩ hI
    obtain ⟨hy1, hy2, ⟨j1, j2⟩, G9, h9⟩ := hI
    dsimp only at hy1 hy2 j1 j2 h9 ⊢
    subst hy1 hy2
    show ∃ r, g_Law_law_18 nf L xs y1 y2 x3 kk nn c = some r ∧ LPo L y1 y2 x3 r
    unfold g_Law_law_18
    refine wi (fun hq => ?_) (fun hq => ?_)
    · have hb := PQk_bd h9.2.2.2.1 h9.1
      exact ⟨_, rfl, (fun y hy => by cases hy), (fun b hb2 => by cases hb2; exact ⟨kk, nn, c, rfl, hb.1, hb.2⟩)⟩
    · have hq := i_nlt hq
      obtain ⟨v6, e6⟩ : ∃ v, zxs L xs x3 = some v := ⟨_, zx_ok (by omega) (by omega)⟩
      refine wb e6 ?_
      refine wi (fun _ => lc_0 hn hL h9 j1 (by omega)) (fun _ => ?_)
      refine wi (fun _ => lc_1 hn hL h9 j1 (by omega)) (fun _ => ?_)
      refine wi (fun _ => lc_2 hn hL h9 j1 (by omega)) (fun _ => ?_)
      refine wi (fun _ => lc_3 hn hL h9 j1 (by omega)) (fun _ => ?_)
      refine wi (fun _ => lc_4 hn hL h9 j1 (by omega)) (fun _ => ?_)
      refine wi (fun _ => lc_5 hn hL h9 j1 (by omega)) (fun _ => ?_)
      refine wi (fun _ => lc_6 hn hL h9 j1 (by omega)) (fun _ => ?_)
      refine wi (fun _ => lc_7 hn hL h9 j1 (by omega)) (fun _ => ?_)
      refine wi (fun _ => lc_8 hn hL h9 j1 (by omega)) (fun _ => ?_)
      refine wi (fun _ => lc_9 hn hL h9 j1 (by omega)) (fun _ => ?_)
      refine wi (fun _ => lc_10 hn hL h9 j1 (by omega)) (fun _ => ?_)
      refine wi (fun _ => lc_11 hn hL h9 j1 (by omega)) (fun _ => ?_)
      refine wi (fun _ => lc_12 hn hL h9 j1 (by omega)) (fun _ => ?_)
      refine wi (fun _ => lc_13 hn hL h9 j1 (by omega)) (fun _ => ?_)
      refine wi (fun _ => lc_14 hn hL h9 j1 (by omega)) (fun _ => ?_)
      refine wi (fun _ => lc_15 hn hL h9 j1 (by omega)) (fun _ => ?_)
      refine wi (fun _ => lc_16 hn hL h9 j1 (by omega)) (fun _ => ?_)
      refine wi (fun _ => lc_17 hn hL h9 j1 (by omega)) (fun _ => ?_)
      unfold f_Law_law_684
      exact lp_in h9 hL j1 (by omega)

end ZzT
