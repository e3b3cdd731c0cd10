section ZzT
abbrev M_Mo_measure : List (Nat × Nat) := [(117, 0), (118, 0), (119, 0), (120, 0)]
set_option maxRecDepth 100000 in
set_option maxHeartbeats 400000 in
theorem p_Mo_measure {nf : Nat} (hn : 8589934592 ≤ nf) {G : List Nat} {c : Zc} (W : Zwt zty G c) {a0 : Nat} {a1 : Int32} {a2 : Int32}  (t_a0 : G[a0]? = some 64) (pl_a1 : 0 ≤ a1.toInt) (pu_a1 : a1.toInt ≤ 98) (pl_a2 : 0 ≤ a2.toInt) (pu_a2 : a2.toInt ≤ 15) (pp_1 : a1.toInt % 11 ≤ 9) : ∃ q, f_Mo_measure nf a0 a1 a2 c = some q ∧ Zwt zty G q ∧ Zfr G M_Mo_measure c q := by
  have F0 : Zfr G M_Mo_measure c c := Zfr.rf
  unfold f_Mo_measure
  have hg1 := i_rem (a := a1) (b := 11) (n := 11) li_11 (by decide) (by omega)
  generalize a1 - a1 / 11 * 11 = y2 at hg1 ⊢
  unfold f_Mo_measure_17
  have := li_256
  have := i_mull (a := 256) (b := y2) (n := 256) li_256 (by omega) (by omega)
  have := li_16
  have := i_mull (a := 16) (b := a2) (n := 16) li_16 (by omega) (by omega)
  have := i_add (a := (256 * y2)) (b := (16 * a2)) (by omega) (by omega)
  have := li_0
  have L3 : ∃ b, zlp (fun a : Nat × Int32 × Int32 × Int32 × Int32 × Zc => g_Mo_measure_17 nf a.1 a.2.1 a.2.2.1 a.2.2.2.1 a.2.2.2.2.1 a.2.2.2.2.2) nf (a0, a1, a2, ((256 * y2) + (16 * a2)), 0, c) = some b ∧ (fun b : (Nat × Int32 × Int32 × Int32 × Zc) => a0 = b.1 ∧ a1 = b.2.1 ∧ a2 = b.2.2.1 ∧ ((256 * y2) + (16 * a2)) = b.2.2.2.1 ∧ Zwt zty G b.2.2.2.2 ∧ Zfr G ([(117, 0)] : List (Nat × Nat)) c b.2.2.2.2) b := by
    refine wlp (fun a : Nat × Int32 × Int32 × Int32 × Int32 × Zc => a0 = a.1 ∧ a1 = a.2.1 ∧ a2 = a.2.2.1 ∧ ((256 * y2) + (16 * a2)) = a.2.2.2.1 ∧ Zwt zty G a.2.2.2.2.2 ∧ Zfr G ([(117, 0)] : List (Nat × Nat)) c a.2.2.2.2.2 ∧ 0 ≤ a.2.2.2.2.1.toInt ∧ a.2.2.2.2.1.toInt ≤ 16) (fun a => (16 - a.2.2.2.2.1.toInt).toNat) (fun b : (Nat × Int32 × Int32 × Int32 × Zc) => a0 = b.1 ∧ a1 = b.2.1 ∧ a2 = b.2.2.1 ∧ ((256 * y2) + (16 * a2)) = b.2.2.2.1 ∧ Zwt zty G b.2.2.2.2 ∧ Zfr G ([(117, 0)] : List (Nat × Nat)) c b.2.2.2.2) ?_ ?_ ?_
    · rintro ⟨x0_4, x1_4, x2_4, x3_4, x4_4, c_4⟩ hI
      try dsimp only at hI ⊢
      obtain ⟨rfl, rfl, rfl, rfl, WLc_4, FLc_4, j5, j6⟩ := hI
      unfold g_Mo_measure_17
      refine wi (fun hq7 => ?_) (fun hq7 => ?_)
      · have hq7 := i_le hq7
        exact lInr ⟨rfl, rfl, rfl, rfl, WLc_4, FLc_4⟩
      · have hq7 := i_nle hq7
        obtain ⟨v3, ev3, tv3⟩ := gf_64_70 WLc_4 t_a0
        refine wb ev3 ?_
        have := i_add (a := ((256 * y2) + (16 * a2))) (b := x4_4) (by omega) (by omega)
        obtain ⟨c4, ec4, Wc4, fc4, gc4⟩ := pa_117 WLc_4 tv3 (i := (((256 * y2) + (16 * a2)) + x4_4)) (by omega) (by omega) (x := (-1)) (trivial)
        refine wb ec4 ?_
        have F8 := Zfr.tr FLc_4 fc4 (by decide)
        have := li_1
        have := i_add (a := x4_4) (b := 1) (by omega) (by omega)
        exact lInl ⟨rfl, rfl, rfl, rfl, Wc4, F8, by (try dsimp only); omega, by (try dsimp only); omega⟩ (by (try dsimp only); omega)
    · exact ⟨rfl, rfl, rfl, rfl, W, Zfr.rf, by (try dsimp only); omega, by (try dsimp only); omega⟩
    · (try dsimp only); omega
  obtain ⟨b, eb, hb⟩ := L3
  refine wb eb ?_
  clear eb
  obtain ⟨z0_9, z1_9, z2_9, z3_9, c_9⟩ := b
  try dsimp only at hb ⊢
  obtain ⟨rfl, rfl, rfl, rfl, WXc_9, FXc_9⟩ := hb
  have F10 := Zfr.tr F0 FXc_9 (by decide)
  unfold f_Mo_measure_43
  obtain ⟨w_11, ew_11, tw_11⟩ := gf_64_73 WXc_9 t_a0
  have k12 := FlN_0 WXc_9 tw_11
  have L13 : ∃ b, zlp (fun a : Nat × Int32 × Int32 × Int32 × Int32 × Zc => g_Mo_measure_43 nf a.1 a.2.1 a.2.2.1 a.2.2.2.1 a.2.2.2.2.1 a.2.2.2.2.2) nf (a0, a1, a2, ((256 * y2) + (16 * a2)), 0, c_9) = some b ∧ (fun b : (Nat × Int32 × Int32 × Int32 × Zc) => a0 = b.1 ∧ a1 = b.2.1 ∧ a2 = b.2.2.1 ∧ ((256 * y2) + (16 * a2)) = b.2.2.2.1 ∧ Zwt zty G b.2.2.2.2 ∧ Zfr G ([(120, 0)] : List (Nat × Nat)) c_9 b.2.2.2.2 ∧ Zfl G b.2.2.2.2 a0 272) b := by
    refine wlp (fun a : Nat × Int32 × Int32 × Int32 × Int32 × Zc => a0 = a.1 ∧ a1 = a.2.1 ∧ a2 = a.2.2.1 ∧ ((256 * y2) + (16 * a2)) = a.2.2.2.1 ∧ Zwt zty G a.2.2.2.2.2 ∧ Zfr G ([(120, 0)] : List (Nat × Nat)) c_9 a.2.2.2.2.2 ∧ 0 ≤ a.2.2.2.2.1.toInt ∧ a.2.2.2.2.1.toInt ≤ 272 ∧ Zfl G a.2.2.2.2.2 a0 a.2.2.2.2.1) (fun a => (272 - a.2.2.2.2.1.toInt).toNat) (fun b : (Nat × Int32 × Int32 × Int32 × Zc) => a0 = b.1 ∧ a1 = b.2.1 ∧ a2 = b.2.2.1 ∧ ((256 * y2) + (16 * a2)) = b.2.2.2.1 ∧ Zwt zty G b.2.2.2.2 ∧ Zfr G ([(120, 0)] : List (Nat × Nat)) c_9 b.2.2.2.2 ∧ Zfl G b.2.2.2.2 a0 272) ?_ ?_ ?_
    · rintro ⟨x0_14, x1_14, x2_14, x3_14, x4_14, c_14⟩ hI
      try dsimp only at hI ⊢
      obtain ⟨rfl, rfl, rfl, rfl, WLc_14, FLc_14, j15, j16, hBZfl_14⟩ := hI
      have e17 := (Zfr.gr FLc_14 t_a0 (by decide)).trans ew_11
      obtain ⟨bkk_14, h0Zfl_14, tkk_14, k0Zfl_14⟩ := hBZfl_14
      unfold g_Mo_measure_43
      refine wi (fun hq18 => ?_) (fun hq18 => ?_)
      · have := li_272
        have hq18 := i_le hq18
        have k19 := FlN_m (n' := 272) k0Zfl_14 (by have := li_272; omega)
        exact lInr ⟨rfl, rfl, rfl, rfl, WLc_14, FLc_14, ⟨bkk_14, h0Zfl_14, tkk_14, k19⟩⟩
      · have := li_272
        have hq18 := i_nle hq18
        refine wb h0Zfl_14 ?_
        obtain ⟨c7, ec7, Wc7, fc7, gc7⟩ := pa_120 WLc_14 tkk_14 (i := x4_14) (by omega) (by omega) (x := (-1)) (trivial)
        refine wb ec7 ?_
        have e21 := (Zfr.gr fc7 t_a0 (by decide)).trans h0Zfl_14
        have := li_1
        have := i_add (a := x4_14) (b := 1) (by omega) (by omega)
        have k22 := FlN_w k0Zfl_14 ec7 (by omega)
        have F23 := Zfr.tr FLc_14 fc7 (by decide)
        exact lInl ⟨rfl, rfl, rfl, rfl, Wc7, F23, by (try dsimp only); omega, by (try dsimp only); omega, ⟨bkk_14, e21, tkk_14, k22⟩⟩ (by (try dsimp only); omega)
    · exact ⟨rfl, rfl, rfl, rfl, WXc_9, Zfr.rf, by (try dsimp only); omega, by (try dsimp only); omega, ⟨w_11, ew_11, tw_11, k12⟩⟩
    · (try dsimp only); omega
  obtain ⟨b, eb, hb⟩ := L13
  refine wb eb ?_
  clear eb
  obtain ⟨z0_26, z1_26, z2_26, z3_26, c_26⟩ := b
  try dsimp only at hb ⊢
  obtain ⟨rfl, rfl, rfl, rfl, WXc_26, FXc_26, hXZflc_26⟩ := hb
  have e27 := (Zfr.gr FXc_26 t_a0 (by decide)).trans ew_11
  have F28 := Zfr.tr F10 FXc_26 (by decide)
  have := li_272
  obtain ⟨bkkxc_26, h0Zflxc_26, tkkxc_26, k0Zflxc_26⟩ := hXZflc_26
  obtain ⟨v8, ev8, tv8⟩ := gf_64_36 WXc_26 t_a0
  refine wb ev8 ?_
  obtain ⟨v9, ev9, lv9, uv9⟩ := ga_89 WXc_26 tv8 (i := a1) (by omega) (by omega)
  refine wb ev9 ?_
  refine wi (fun hq29 => ?_) (fun hq29 => ?_)
  · have hq29 := i_eq hq29
    unfold f_Mo_measure_83
    obtain ⟨v11, ev11, tv11⟩ := gf_64_71 WXc_26 t_a0
    refine wb ev11 ?_
    obtain ⟨c12, ec12, Wc12, fc12, gc12⟩ := pa_118 WXc_26 tv11 (i := 0) (by omega) (by omega) (x := a2) (rgi (by omega) (by omega))
    refine wb ec12 ?_
    have e30 := (Zfr.gr fc12 t_a0 (by decide)).trans h0Zflxc_26
    have e31 := (Zfr.ai fc12 tv8 (by decide)).trans ev9
    have e32 := (Zfr.gr fc12 t_a0 (by decide)).trans ev11
    have k33 := FlN_fr k0Zflxc_26 fc12 tkkxc_26 (by decide)
    have F34 := Zfr.tr F28 fc12 (by decide)
    obtain ⟨v13, ev13, tv13⟩ := gf_64_72 Wc12 t_a0
    refine wb ev13 ?_
    obtain ⟨c14, ec14, Wc14, fc14, gc14⟩ := pa_119 Wc12 tv13 (i := 0) (by omega) (by omega) (x := 16) (rgi (by omega) (by omega))
    refine wb ec14 ?_
    have e35 := (Zfr.gr fc14 t_a0 (by decide)).trans e30
    have e36 := (Zfr.ai fc14 tv8 (by decide)).trans e31
    have e37 := (Zfr.gr fc14 t_a0 (by decide)).trans e32
    have e38 := (Zfr.ai fc14 tv11 (by decide)).trans gc12
    have e39 := (Zfr.gr fc14 t_a0 (by decide)).trans ev13
    have k40 := FlN_fr k33 fc14 tkkxc_26 (by decide)
    have F41 := Zfr.tr F34 fc14 (by decide)
    refine wb e35 ?_
    have := i_add (a := 256) (b := a2) (by omega) (by omega)
    obtain ⟨c16, ec16, Wc16, fc16, gc16⟩ := pa_120 Wc14 tkkxc_26 (i := (256 + a2)) (by omega) (by omega) (x := 0) (trivial)
    refine wb ec16 ?_
    have e42 := (Zfr.gr fc16 t_a0 (by decide)).trans e35
    have e43 := (Zfr.ai fc16 tv8 (by decide)).trans e36
    have e44 := (Zfr.gr fc16 t_a0 (by decide)).trans e37
    have e45 := (Zfr.ai fc16 tv11 (by decide)).trans e38
    have e46 := (Zfr.gr fc16 t_a0 (by decide)).trans e39
    have e47 := (Zfr.ai fc16 tv13 (by decide)).trans gc14
    have k48 := RcM_1 k40 ec16
    have F49 := Zfr.tr F41 fc16 (by decide)
    unfold f_Mo_measure_115
    have := li_1
    have L50 : ∃ b, zlp (fun a : Nat × Int32 × Int32 × Int32 × Int32 × Zc => g_Mo_measure_115 nf a.1 a.2.1 a.2.2.1 a.2.2.2.1 a.2.2.2.2.1 a.2.2.2.2.2) nf (a0, a1, ((256 * y2) + (16 * a2)), 0, 1, c16) = some b ∧ (fun b : (Zc) => Zwt zty G b ∧ Zfr G ([(117, 0), (118, 0), (119, 0), (120, 0)] : List (Nat × Nat)) c16 b) b := by
      refine wlp (fun a : Nat × Int32 × Int32 × Int32 × Int32 × Zc => a0 = a.1 ∧ a1 = a.2.1 ∧ ((256 * y2) + (16 * a2)) = a.2.2.1 ∧ Zwt zty G a.2.2.2.2.2 ∧ Zfr G ([(117, 0), (118, 0), (119, 0), (120, 0)] : List (Nat × Nat)) c16 a.2.2.2.2.2 ∧ 0 ≤ a.2.2.2.1.toInt ∧ a.2.2.2.1.toInt ≤ 272 ∧ 1 ≤ a.2.2.2.2.1.toInt ∧ a.2.2.2.2.1.toInt ≤ 272 ∧ Zrc G a.2.2.2.2.2 a0 a.2.2.2.2.1) (fun a => (272 - a.2.2.2.1.toInt).toNat) (fun b : (Zc) => Zwt zty G b ∧ Zfr G ([(117, 0), (118, 0), (119, 0), (120, 0)] : List (Nat × Nat)) c16 b) ?_ ?_ ?_
      · rintro ⟨x0_51, x1_51, x3_51, x4_51, x5_51, c_51⟩ hI
        try dsimp only at hI ⊢
        obtain ⟨rfl, rfl, rfl, WLc_51, FLc_51, j52, j53, j54, j55, hBZrc_51⟩ := hI
        have e56 := (Zfr.gr FLc_51 t_a0 (by decide)).trans e42
        have e57 := (Zfr.ai FLc_51 tv8 (by decide)).trans e43
        have e58 := (Zfr.gr FLc_51 t_a0 (by decide)).trans e44
        have e59 := (Zfr.gr FLc_51 t_a0 (by decide)).trans e46
        obtain ⟨bkk_51, h0Zrc_51, tkk_51, r0Zrc_51, r1Zrc_51, k0Zrc_51⟩ := hBZrc_51
        unfold g_Mo_measure_115
        refine wi (fun hq60 => ?_) (fun hq60 => ?_)
        · have hq60 := i_le hq60
          exact lInr ⟨WLc_51, FLc_51⟩
        · have hq60 := i_nle hq60
          refine wb e58 ?_
          obtain ⟨v19, ev19, lv19, uv19⟩ := ga_118 WLc_51 tv11 (i := x4_51) (by omega) (by omega)
          refine wb ev19 ?_
          refine wb e59 ?_
          obtain ⟨v21, ev21, lv21, uv21⟩ := ga_119 WLc_51 tv13 (i := x4_51) (by omega) (by omega)
          refine wb ev21 ?_
          refine wb h0Zrc_51 ?_
          have := i_mull (a := 16) (b := v21) (n := 16) li_16 (by omega) (by omega)
          have := i_add (a := (16 * v21)) (b := v19) (by omega) (by omega)
          obtain ⟨v23, ev23, _⟩ := ga_120 WLc_51 tkk_51 (i := ((16 * v21) + v19)) (by omega) (by omega)
          refine wb ev23 ?_
          have := RcM_r k0Zrc_51 ev23
          refine wi (fun hq61 => ?_) (fun hq61 => ?_)
          · have hq61 := i_eq hq61
            obtain ⟨v53, ev53, tv53⟩ := gf_64_37 WLc_51 t_a0
            refine wb ev53 ?_
            obtain ⟨v54, ev54, _⟩ := ga_90 WLc_51 tv53 (i := a1) (by omega) (by omega)
            refine wb ev54 ?_
            unfold f_Mo_measure_186
            unfold f_Mo_measure_191
            have := i_add (a := x4_51) (b := 1) (by omega) (by omega)
            have L62 : ∃ b, zlp (fun a : Nat × Int32 × Int32 × Int32 × Int32 × Int32 × Int32 × Int32 × Int32 × Zc => g_Mo_measure_191 nf a.1 a.2.1 a.2.2.1 a.2.2.2.1 a.2.2.2.2.1 a.2.2.2.2.2.1 a.2.2.2.2.2.2.1 a.2.2.2.2.2.2.2.1 a.2.2.2.2.2.2.2.2.1 a.2.2.2.2.2.2.2.2.2) nf (a0, a1, ((256 * y2) + (16 * a2)), (x4_51 + 1), x5_51, v19, v23, v54, 0, c_51) = some b ∧ (fun b : (Nat × Int32 × Int32 × Int32 × Int32 × Zc) => a0 = b.1 ∧ a1 = b.2.1 ∧ ((256 * y2) + (16 * a2)) = b.2.2.1 ∧ (x4_51 + 1) = b.2.2.2.1 ∧ Zwt zty G b.2.2.2.2.2 ∧ Zfr G ([(117, 0), (118, 0), (119, 0), (120, 0)] : List (Nat × Nat)) c_51 b.2.2.2.2.2 ∧ 1 ≤ b.2.2.2.2.1.toInt ∧ b.2.2.2.2.1.toInt ≤ 272 ∧ Zrc G b.2.2.2.2.2 a0 b.2.2.2.2.1) b := by
              refine wlp (fun a : Nat × Int32 × Int32 × Int32 × Int32 × Int32 × Int32 × Int32 × Int32 × Zc => a0 = a.1 ∧ a1 = a.2.1 ∧ ((256 * y2) + (16 * a2)) = a.2.2.1 ∧ (x4_51 + 1) = a.2.2.2.1 ∧ v19 = a.2.2.2.2.2.1 ∧ v23 = a.2.2.2.2.2.2.1 ∧ v54 = a.2.2.2.2.2.2.2.1 ∧ Zwt zty G a.2.2.2.2.2.2.2.2.2 ∧ Zfr G ([(117, 0), (118, 0), (119, 0), (120, 0)] : List (Nat × Nat)) c_51 a.2.2.2.2.2.2.2.2.2 ∧ 1 ≤ a.2.2.2.2.1.toInt ∧ a.2.2.2.2.1.toInt ≤ 272 ∧ 0 ≤ a.2.2.2.2.2.2.2.2.1.toInt ∧ a.2.2.2.2.2.2.2.2.1.toInt ≤ 16 ∧ v23.toInt < a.2.2.2.2.1.toInt ∧ Zrc G a.2.2.2.2.2.2.2.2.2 a0 a.2.2.2.2.1) (fun a => (16 - a.2.2.2.2.2.2.2.2.1.toInt).toNat) (fun b : (Nat × Int32 × Int32 × Int32 × Int32 × Zc) => a0 = b.1 ∧ a1 = b.2.1 ∧ ((256 * y2) + (16 * a2)) = b.2.2.1 ∧ (x4_51 + 1) = b.2.2.2.1 ∧ Zwt zty G b.2.2.2.2.2 ∧ Zfr G ([(117, 0), (118, 0), (119, 0), (120, 0)] : List (Nat × Nat)) c_51 b.2.2.2.2.2 ∧ 1 ≤ b.2.2.2.2.1.toInt ∧ b.2.2.2.2.1.toInt ≤ 272 ∧ Zrc G b.2.2.2.2.2 a0 b.2.2.2.2.1) ?_ ?_ ?_
              · rintro ⟨x0_63, x1_63, x3_63, x4_63, x5_63, x6_63, x8_63, x9_63, x10_63, c_63⟩ hI
                try dsimp only at hI ⊢
                obtain ⟨rfl, rfl, rfl, rfl, rfl, rfl, rfl, WLc_63, FLc_63, j64, j65, j66, j67, j68, hBZrc_63⟩ := hI
                have e69 := (Zfr.gr FLc_63 t_a0 (by decide)).trans h0Zrc_51
                have e70 := (Zfr.ai FLc_63 tv8 (by decide)).trans e57
                have e71 := (Zfr.gr FLc_63 t_a0 (by decide)).trans e58
                have e72 := (Zfr.gr FLc_63 t_a0 (by decide)).trans e59
                have e73 := (Zfr.ai FLc_63 tv53 (by decide)).trans ev54
                obtain ⟨bkk_63, h0Zrc_63, tkk_63, r0Zrc_63, r1Zrc_63, k0Zrc_63⟩ := hBZrc_63
                unfold g_Mo_measure_191
                obtain ⟨v27, ev27, tv27⟩ := gf_64_39 WLc_63 t_a0
                refine wb ev27 ?_
                obtain ⟨v28, ev28, lv28, uv28⟩ := ga_92 WLc_63 tv27 (i := a1) (by omega) (by omega)
                refine wb ev28 ?_
                refine wi (fun hq74 => ?_) (fun hq74 => ?_)
                · have hq74 := i_le hq74
                  exact lInr ⟨rfl, rfl, rfl, rfl, WLc_63, FLc_63, by (try dsimp only); omega, by (try dsimp only); omega, ⟨bkk_63, h0Zrc_63, tkk_63, by (try dsimp only); omega, by (try dsimp only); omega, k0Zrc_63⟩⟩
                · have hq74 := i_nle hq74
                  unfold f_Mo_measure_205
                  have L76 : ∃ b, zlp (fun a : Nat × Int32 × Int32 × Int32 × Int32 × Int32 × Int32 × Int32 × Int32 × Int32 × Zc => g_Mo_measure_205 nf a.1 a.2.1 a.2.2.1 a.2.2.2.1 a.2.2.2.2.1 a.2.2.2.2.2.1 a.2.2.2.2.2.2.1 a.2.2.2.2.2.2.2.1 a.2.2.2.2.2.2.2.2.1 a.2.2.2.2.2.2.2.2.2.1 a.2.2.2.2.2.2.2.2.2.2) nf (a0, a1, ((256 * y2) + (16 * a2)), (x4_51 + 1), x5_63, v19, v23, v54, x10_63, 0, c_63) = some b ∧ (fun b : (Nat × Int32 × Int32 × Int32 × Int32 × Int32 × Int32 × Int32 × Int32 × Zc) => a0 = b.1 ∧ a1 = b.2.1 ∧ ((256 * y2) + (16 * a2)) = b.2.2.1 ∧ (x4_51 + 1) = b.2.2.2.1 ∧ v19 = b.2.2.2.2.2.1 ∧ v23 = b.2.2.2.2.2.2.1 ∧ v54 = b.2.2.2.2.2.2.2.1 ∧ x10_63 = b.2.2.2.2.2.2.2.2.1 ∧ Zwt zty G b.2.2.2.2.2.2.2.2.2 ∧ Zfr G ([(117, 0), (118, 0), (119, 0), (120, 0)] : List (Nat × Nat)) c_63 b.2.2.2.2.2.2.2.2.2 ∧ 1 ≤ b.2.2.2.2.1.toInt ∧ b.2.2.2.2.1.toInt ≤ 272 ∧ v23.toInt < b.2.2.2.2.1.toInt ∧ Zrc G b.2.2.2.2.2.2.2.2.2 a0 b.2.2.2.2.1) b := by
                    refine wlp (fun a : Nat × Int32 × Int32 × Int32 × Int32 × Int32 × Int32 × Int32 × Int32 × Int32 × Zc => a0 = a.1 ∧ a1 = a.2.1 ∧ ((256 * y2) + (16 * a2)) = a.2.2.1 ∧ (x4_51 + 1) = a.2.2.2.1 ∧ v19 = a.2.2.2.2.2.1 ∧ v23 = a.2.2.2.2.2.2.1 ∧ v54 = a.2.2.2.2.2.2.2.1 ∧ x10_63 = a.2.2.2.2.2.2.2.2.1 ∧ Zwt zty G a.2.2.2.2.2.2.2.2.2.2 ∧ Zfr G ([(117, 0), (118, 0), (119, 0), (120, 0)] : List (Nat × Nat)) c_63 a.2.2.2.2.2.2.2.2.2.2 ∧ 1 ≤ a.2.2.2.2.1.toInt ∧ a.2.2.2.2.1.toInt ≤ 272 ∧ 0 ≤ a.2.2.2.2.2.2.2.2.2.1.toInt ∧ a.2.2.2.2.2.2.2.2.2.1.toInt ≤ 16 ∧ v23.toInt < a.2.2.2.2.1.toInt ∧ Zrc G a.2.2.2.2.2.2.2.2.2.2 a0 a.2.2.2.2.1) (fun a => (16 - a.2.2.2.2.2.2.2.2.2.1.toInt).toNat) (fun b : (Nat × Int32 × Int32 × Int32 × Int32 × Int32 × Int32 × Int32 × Int32 × Zc) => a0 = b.1 ∧ a1 = b.2.1 ∧ ((256 * y2) + (16 * a2)) = b.2.2.1 ∧ (x4_51 + 1) = b.2.2.2.1 ∧ v19 = b.2.2.2.2.2.1 ∧ v23 = b.2.2.2.2.2.2.1 ∧ v54 = b.2.2.2.2.2.2.2.1 ∧ x10_63 = b.2.2.2.2.2.2.2.2.1 ∧ Zwt zty G b.2.2.2.2.2.2.2.2.2 ∧ Zfr G ([(117, 0), (118, 0), (119, 0), (120, 0)] : List (Nat × Nat)) c_63 b.2.2.2.2.2.2.2.2.2 ∧ 1 ≤ b.2.2.2.2.1.toInt ∧ b.2.2.2.2.1.toInt ≤ 272 ∧ v23.toInt < b.2.2.2.2.1.toInt ∧ Zrc G b.2.2.2.2.2.2.2.2.2 a0 b.2.2.2.2.1) ?_ ?_ ?_
                    · rintro ⟨x0_77, x1_77, x3_77, x4_77, x5_77, x6_77, x8_77, x9_77, x10_77, x11_77, c_77⟩ hI
                      try dsimp only at hI ⊢
                      obtain ⟨rfl, rfl, rfl, rfl, rfl, rfl, rfl, rfl, WLc_77, FLc_77, j78, j79, j80, j81, j82, hBZrc_77⟩ := hI
                      have e83 := (Zfr.gr FLc_77 t_a0 (by decide)).trans h0Zrc_63
                      have e84 := (Zfr.ai FLc_77 tv8 (by decide)).trans e70
                      have e85 := (Zfr.gr FLc_77 t_a0 (by decide)).trans e71
                      have e86 := (Zfr.gr FLc_77 t_a0 (by decide)).trans e72
                      have e87 := (Zfr.ai FLc_77 tv53 (by decide)).trans e73
                      have e88 := (Zfr.ai FLc_77 tv27 (by decide)).trans ev28
                      obtain ⟨bkk_77, h0Zrc_77, tkk_77, r0Zrc_77, r1Zrc_77, k0Zrc_77⟩ := hBZrc_77
                      unfold g_Mo_measure_205
                      obtain ⟨v30, ev30, lv30, uv30⟩ := gf_64_0 WLc_77 t_a0
                      refine wb ev30 ?_
                      refine wi (fun hq89 => ?_) (fun hq89 => ?_)
                      · have hq89 := i_le hq89
                        exact lInr ⟨rfl, rfl, rfl, rfl, rfl, rfl, rfl, rfl, WLc_77, FLc_77, by (try dsimp only); omega, by (try dsimp only); omega, by (try dsimp only); omega, ⟨bkk_77, h0Zrc_77, tkk_77, by (try dsimp only); omega, by (try dsimp only); omega, k0Zrc_77⟩⟩
                      · have hq89 := i_nle hq89
                        refine wi (fun hq91 => ?_) (fun hq91 => ?_)
                        · have := i_andr (a := (v54 >>> (x10_63 &&& 31))) (b := 1) (by omega)
                          have hq91 := i_eq hq91
                          refine wb h0Zrc_77 ?_
                          have := i_mull (a := 16) (b := x10_63) (n := 16) li_16 (by omega) (by omega)
                          have := i_add (a := (16 * x10_63)) (b := x11_77) (by omega) (by omega)
                          obtain ⟨v34, ev34, _⟩ := ga_120 WLc_77 tkk_77 (i := ((16 * x10_63) + x11_77)) (by omega) (by omega)
                          refine wb ev34 ?_
                          refine wi (fun hq92 => ?_) (fun hq92 => ?_)
                          · have := li_m1
                            have := i_ge v34
                            have := i_up v34
                            have hq92 := i_eq hq92
                            obtain ⟨w37, ew37⟩ := go_64 WLc_77 t_a0
                            refine wb ew37 ?_
                            have := i_mull (a := 16) (b := a1) (n := 16) li_16 (by omega) (by omega)
                            have := i_add (a := (16 * a1)) (b := x10_63) (by omega) (by omega)
                            obtain ⟨q36, eq36, Wq36, fq36, pl0q36, pu0q36⟩ := p_Mo_leadsBy hn WLc_77 (a1 := ((16 * a1) + x10_63)) (a2 := v19) (a3 := x11_77) t_a0 (by omega) (by omega) (by omega) (by omega) (by omega) (by omega)
                            refine wb eq36 ?_
                            have e93 := (Zfr.gr fq36 t_a0 (by decide)).trans h0Zrc_77
                            have e94 := (Zfr.ai fq36 tv8 (by decide)).trans e84
                            have e95 := (Zfr.gr fq36 t_a0 (by decide)).trans e85
                            have e96 := (Zfr.gr fq36 t_a0 (by decide)).trans e86
                            have e97 := (Zfr.ai fq36 tv53 (by decide)).trans e87
                            have e98 := (Zfr.ai fq36 tv27 (by decide)).trans e88
                            have e99 := (Zfr.ai fq36 tkk_77 (by decide)).trans ev34
                            have k100 := RcM_fr k0Zrc_77 fq36 tkk_77 (by decide)
                            have F101 := Zfr.tr FLc_77 fq36 (by decide)
                            refine wi (fun hq102 => ?_) (fun hq102 => ?_)
                            · have hq102 := i_eq hq102
                              unfold f_Mo_measure_339
                              have := i_add (a := x11_77) (b := 1) (by omega) (by omega)
                              exact lInl ⟨rfl, rfl, rfl, rfl, rfl, rfl, rfl, rfl, Wq36, F101, by (try dsimp only); omega, by (try dsimp only); omega, by (try dsimp only); omega, by (try dsimp only); omega, by (try dsimp only); omega, ⟨bkk_77, e93, tkk_77, by (try dsimp only); omega, by (try dsimp only); omega, k100⟩⟩ (by (try dsimp only); omega)
                            · have hq102 := i_ne hq102
                              refine wb e93 ?_
                              obtain ⟨c40, ec40, Wc40, fc40, gc40⟩ := pa_120 Wq36 tkk_77 (i := ((16 * x10_63) + x11_77)) (by omega) (by omega) (x := (v23 + 1)) (trivial)
                              refine wb ec40 ?_
                              have e104 := (Zfr.gr fc40 t_a0 (by decide)).trans e93
                              have e105 := (Zfr.ai fc40 tv8 (by decide)).trans e94
                              have e106 := (Zfr.gr fc40 t_a0 (by decide)).trans e95
                              have e107 := (Zfr.gr fc40 t_a0 (by decide)).trans e96
                              have e108 := (Zfr.ai fc40 tv53 (by decide)).trans e97
                              have e109 := (Zfr.ai fc40 tv27 (by decide)).trans e98
                              have := RcM_b k100 e99 (by omega)
                              have := i_add (a := x5_77) (b := 1) (by omega) (by omega)
                              have := i_add (a := v23) (b := 1) (by omega) (by omega)
                              have k110 := RcM_w k100 e99 (by omega) ec40 (by omega) (by omega) (by omega)
                              have F111 := Zfr.tr F101 fc40 (by decide)
                              refine wb e106 ?_
                              obtain ⟨c42, ec42, Wc42, fc42, gc42⟩ := pa_118 Wc40 tv11 (i := x5_77) (by omega) (by omega) (x := x11_77) (rgi (by omega) (by omega))
                              refine wb ec42 ?_
                              have e112 := (Zfr.gr fc42 t_a0 (by decide)).trans e104
                              have e113 := (Zfr.ai fc42 tv8 (by decide)).trans e105
                              have e114 := (Zfr.gr fc42 t_a0 (by decide)).trans e107
                              have e115 := (Zfr.ai fc42 tv53 (by decide)).trans e108
                              have e116 := (Zfr.ai fc42 tv27 (by decide)).trans e109
                              have e117 := (Zfr.ai fc42 tkk_77 (by decide)).trans gc40
                              have k118 := RcM_fr k110 fc42 tkk_77 (by decide)
                              have F119 := Zfr.tr F111 fc42 (by decide)
                              refine wb e114 ?_
                              obtain ⟨c44, ec44, Wc44, fc44, gc44⟩ := pa_119 Wc42 tv13 (i := x5_77) (by omega) (by omega) (x := x10_63) (rgi (by omega) (by omega))
                              refine wb ec44 ?_
                              have e120 := (Zfr.gr fc44 t_a0 (by decide)).trans e112
                              have e121 := (Zfr.ai fc44 tv8 (by decide)).trans e113
                              have e122 := (Zfr.ai fc44 tv53 (by decide)).trans e115
                              have e123 := (Zfr.ai fc44 tv27 (by decide)).trans e116
                              have e124 := (Zfr.ai fc44 tkk_77 (by decide)).trans e117
                              have e125 := (Zfr.ai fc44 tv11 (by decide)).trans gc42
                              have k126 := RcM_fr k118 fc44 tkk_77 (by decide)
                              have F127 := Zfr.tr F119 fc44 (by decide)
                              obtain ⟨v45, ev45, tv45⟩ := gf_64_38 Wc44 t_a0
                              refine wb ev45 ?_
                              obtain ⟨v46, ev46, _⟩ := ga_91 Wc44 tv45 (i := a1) (by omega) (by omega)
                              refine wb ev46 ?_
                              refine wi (fun hq128 => ?_) (fun hq128 => ?_)
                              · have := i_andr (a := (v46 >>> (x10_63 &&& 31))) (b := 1) (by omega)
                                have hq128 := i_eq hq128
                                obtain ⟨v48, ev48, tv48⟩ := gf_64_70 Wc44 t_a0
                                refine wb ev48 ?_
                                have := i_add (a := ((256 * y2) + (16 * a2))) (b := x11_77) (by omega) (by omega)
                                obtain ⟨v49, ev49, _⟩ := ga_117 Wc44 tv48 (i := (((256 * y2) + (16 * a2)) + x11_77)) (by omega) (by omega)
                                refine wb ev49 ?_
                                refine wi (fun hq129 => ?_) (fun hq129 => ?_)
                                · have := i_ge v49
                                  have := i_up v49
                                  have hq129 := i_eq hq129
                                  refine wb ev48 ?_
                                  obtain ⟨c52, ec52, Wc52, fc52, gc52⟩ := pa_117 Wc44 tv48 (i := (((256 * y2) + (16 * a2)) + x11_77)) (by omega) (by omega) (x := (v23 + 1)) (trivial)
                                  refine wb ec52 ?_
                                  have e130 := (Zfr.gr fc52 t_a0 (by decide)).trans e120
                                  have k131 := RcM_fr k126 fc52 tkk_77 (by decide)
                                  have F132 := Zfr.tr F127 fc52 (by decide)
                                  unfold f_Mo_measure_339
                                  have := i_add (a := x11_77) (b := 1) (by omega) (by omega)
                                  exact lInl ⟨rfl, rfl, rfl, rfl, rfl, rfl, rfl, rfl, Wc52, F132, by (try dsimp only); omega, by (try dsimp only); omega, by (try dsimp only); omega, by (try dsimp only); omega, by (try dsimp only); omega, ⟨bkk_77, e130, tkk_77, by (try dsimp only); omega, by (try dsimp only); omega, k131⟩⟩ (by (try dsimp only); omega)
                                · have := i_ge v49
                                  have := i_up v49
                                  have hq129 := i_ne hq129
                                  unfold f_Mo_measure_339
                                  have := i_add (a := x11_77) (b := 1) (by omega) (by omega)
                                  exact lInl ⟨rfl, rfl, rfl, rfl, rfl, rfl, rfl, rfl, Wc44, F127, by (try dsimp only); omega, by (try dsimp only); omega, by (try dsimp only); omega, by (try dsimp only); omega, by (try dsimp only); omega, ⟨bkk_77, e120, tkk_77, by (try dsimp only); omega, by (try dsimp only); omega, k126⟩⟩ (by (try dsimp only); omega)
                              · have := i_andr (a := (v46 >>> (x10_63 &&& 31))) (b := 1) (by omega)
                                have hq128 := i_ne hq128
                                unfold f_Mo_measure_339
                                have := i_add (a := x11_77) (b := 1) (by omega) (by omega)
                                exact lInl ⟨rfl, rfl, rfl, rfl, rfl, rfl, rfl, rfl, Wc44, F127, by (try dsimp only); omega, by (try dsimp only); omega, by (try dsimp only); omega, by (try dsimp only); omega, by (try dsimp only); omega, ⟨bkk_77, e120, tkk_77, by (try dsimp only); omega, by (try dsimp only); omega, k126⟩⟩ (by (try dsimp only); omega)
                          · have := li_m1
                            have := i_ge v34
                            have := i_up v34
                            have hq92 := i_ne hq92
                            unfold f_Mo_measure_339
                            have := i_add (a := x11_77) (b := 1) (by omega) (by omega)
                            exact lInl ⟨rfl, rfl, rfl, rfl, rfl, rfl, rfl, rfl, WLc_77, FLc_77, by (try dsimp only); omega, by (try dsimp only); omega, by (try dsimp only); omega, by (try dsimp only); omega, by (try dsimp only); omega, ⟨bkk_77, h0Zrc_77, tkk_77, by (try dsimp only); omega, by (try dsimp only); omega, k0Zrc_77⟩⟩ (by (try dsimp only); omega)
                        · have := i_andr (a := (v54 >>> (x10_63 &&& 31))) (b := 1) (by omega)
                          have hq91 := i_ne hq91
                          exact lInr ⟨rfl, rfl, rfl, rfl, rfl, rfl, rfl, rfl, WLc_77, FLc_77, by (try dsimp only); omega, by (try dsimp only); omega, by (try dsimp only); omega, ⟨bkk_77, h0Zrc_77, tkk_77, by (try dsimp only); omega, by (try dsimp only); omega, k0Zrc_77⟩⟩
                    · exact ⟨rfl, rfl, rfl, rfl, rfl, rfl, rfl, rfl, WLc_63, Zfr.rf, by (try dsimp only); omega, by (try dsimp only); omega, by (try dsimp only); omega, by (try dsimp only); omega, by (try dsimp only); omega, ⟨bkk_63, h0Zrc_63, tkk_63, by (try dsimp only); omega, by (try dsimp only); omega, k0Zrc_63⟩⟩
                    · (try dsimp only); omega
                  obtain ⟨b, eb, hb⟩ := L76
                  refine wb eb ?_
                  clear eb
                  obtain ⟨z0_139, z1_139, z2_139, z3_139, z4_139, z5_139, z6_139, z7_139, z8_139, c_139⟩ := b
                  try dsimp only at hb ⊢
                  obtain ⟨rfl, rfl, rfl, rfl, rfl, rfl, rfl, rfl, WXc_139, FXc_139, j140, j141, j142, hXZrcc_139⟩ := hb
                  have e143 := (Zfr.gr FXc_139 t_a0 (by decide)).trans h0Zrc_63
                  have F144 := Zfr.tr FLc_63 FXc_139 (by decide)
                  obtain ⟨bkkxc_139, h0Zrcxc_139, tkkxc_139, r0Zrcxc_139, r1Zrcxc_139, k0Zrcxc_139⟩ := hXZrcc_139
                  unfold f_Mo_measure_345
                  have := i_add (a := x10_63) (b := 1) (by omega) (by omega)
                  exact lInl ⟨rfl, rfl, rfl, rfl, rfl, rfl, rfl, WXc_139, F144, by (try dsimp only); omega, by (try dsimp only); omega, by (try dsimp only); omega, by (try dsimp only); omega, by (try dsimp only); omega, ⟨bkkxc_139, h0Zrcxc_139, tkkxc_139, by (try dsimp only); omega, by (try dsimp only); omega, k0Zrcxc_139⟩⟩ (by (try dsimp only); omega)
              · exact ⟨rfl, rfl, rfl, rfl, rfl, rfl, rfl, WLc_51, Zfr.rf, by (try dsimp only); omega, by (try dsimp only); omega, by (try dsimp only); omega, by (try dsimp only); omega, by (try dsimp only); omega, ⟨bkk_51, h0Zrc_51, tkk_51, by (try dsimp only); omega, by (try dsimp only); omega, k0Zrc_51⟩⟩
              · (try dsimp only); omega
            obtain ⟨b, eb, hb⟩ := L62
            refine wb eb ?_
            clear eb
            obtain ⟨z0_147, z1_147, z2_147, z3_147, z4_147, c_147⟩ := b
            try dsimp only at hb ⊢
            obtain ⟨rfl, rfl, rfl, rfl, WXc_147, FXc_147, j148, j149, hXZrcc_147⟩ := hb
            have e150 := (Zfr.gr FXc_147 t_a0 (by decide)).trans h0Zrc_51
            have F151 := Zfr.tr FLc_51 FXc_147 (by decide)
            obtain ⟨bkkxc_147, h0Zrcxc_147, tkkxc_147, r0Zrcxc_147, r1Zrcxc_147, k0Zrcxc_147⟩ := hXZrcc_147
            exact lInl ⟨rfl, rfl, rfl, WXc_147, F151, by (try dsimp only); omega, by (try dsimp only); omega, by (try dsimp only); omega, by (try dsimp only); omega, ⟨bkkxc_147, h0Zrcxc_147, tkkxc_147, by (try dsimp only); omega, by (try dsimp only); omega, k0Zrcxc_147⟩⟩ (by (try dsimp only); omega)
          · have hq61 := i_ne hq61
            obtain ⟨v25, ev25, tv25⟩ := gf_64_42 WLc_51 t_a0
            refine wb ev25 ?_
            have := i_mull (a := 16) (b := a1) (n := 16) li_16 (by omega) (by omega)
            have := i_add (a := (16 * a1)) (b := v21) (by omega) (by omega)
            obtain ⟨v26, ev26, _⟩ := ga_95 WLc_51 tv25 (i := ((16 * a1) + v21)) (by omega) (by omega)
            refine wb ev26 ?_
            unfold f_Mo_measure_186
            unfold f_Mo_measure_191
            have := i_add (a := x4_51) (b := 1) (by omega) (by omega)
            have L153 : ∃ b, zlp (fun a : Nat × Int32 × Int32 × Int32 × Int32 × Int32 × Int32 × Int32 × Int32 × Zc => g_Mo_measure_191 nf a.1 a.2.1 a.2.2.1 a.2.2.2.1 a.2.2.2.2.1 a.2.2.2.2.2.1 a.2.2.2.2.2.2.1 a.2.2.2.2.2.2.2.1 a.2.2.2.2.2.2.2.2.1 a.2.2.2.2.2.2.2.2.2) nf (a0, a1, ((256 * y2) + (16 * a2)), (x4_51 + 1), x5_51, v19, v23, v26, 0, c_51) = some b ∧ (fun b : (Nat × Int32 × Int32 × Int32 × Int32 × Zc) => a0 = b.1 ∧ a1 = b.2.1 ∧ ((256 * y2) + (16 * a2)) = b.2.2.1 ∧ (x4_51 + 1) = b.2.2.2.1 ∧ Zwt zty G b.2.2.2.2.2 ∧ Zfr G ([(117, 0), (118, 0), (119, 0), (120, 0)] : List (Nat × Nat)) c_51 b.2.2.2.2.2 ∧ 1 ≤ b.2.2.2.2.1.toInt ∧ b.2.2.2.2.1.toInt ≤ 272 ∧ Zrc G b.2.2.2.2.2 a0 b.2.2.2.2.1) b := by
              refine wlp (fun a : Nat × Int32 × Int32 × Int32 × Int32 × Int32 × Int32 × Int32 × Int32 × Zc => a0 = a.1 ∧ a1 = a.2.1 ∧ ((256 * y2) + (16 * a2)) = a.2.2.1 ∧ (x4_51 + 1) = a.2.2.2.1 ∧ v19 = a.2.2.2.2.2.1 ∧ v23 = a.2.2.2.2.2.2.1 ∧ v26 = a.2.2.2.2.2.2.2.1 ∧ Zwt zty G a.2.2.2.2.2.2.2.2.2 ∧ Zfr G ([(117, 0), (118, 0), (119, 0), (120, 0)] : List (Nat × Nat)) c_51 a.2.2.2.2.2.2.2.2.2 ∧ 1 ≤ a.2.2.2.2.1.toInt ∧ a.2.2.2.2.1.toInt ≤ 272 ∧ 0 ≤ a.2.2.2.2.2.2.2.2.1.toInt ∧ a.2.2.2.2.2.2.2.2.1.toInt ≤ 16 ∧ v23.toInt < a.2.2.2.2.1.toInt ∧ Zrc G a.2.2.2.2.2.2.2.2.2 a0 a.2.2.2.2.1) (fun a => (16 - a.2.2.2.2.2.2.2.2.1.toInt).toNat) (fun b : (Nat × Int32 × Int32 × Int32 × Int32 × Zc) => a0 = b.1 ∧ a1 = b.2.1 ∧ ((256 * y2) + (16 * a2)) = b.2.2.1 ∧ (x4_51 + 1) = b.2.2.2.1 ∧ Zwt zty G b.2.2.2.2.2 ∧ Zfr G ([(117, 0), (118, 0), (119, 0), (120, 0)] : List (Nat × Nat)) c_51 b.2.2.2.2.2 ∧ 1 ≤ b.2.2.2.2.1.toInt ∧ b.2.2.2.2.1.toInt ≤ 272 ∧ Zrc G b.2.2.2.2.2 a0 b.2.2.2.2.1) ?_ ?_ ?_
              · rintro ⟨x0_154, x1_154, x3_154, x4_154, x5_154, x6_154, x8_154, x9_154, x10_154, c_154⟩ hI
                try dsimp only at hI ⊢
                obtain ⟨rfl, rfl, rfl, rfl, rfl, rfl, rfl, WLc_154, FLc_154, j155, j156, j157, j158, j159, hBZrc_154⟩ := hI
                have e160 := (Zfr.gr FLc_154 t_a0 (by decide)).trans h0Zrc_51
                have e161 := (Zfr.ai FLc_154 tv8 (by decide)).trans e57
                have e162 := (Zfr.gr FLc_154 t_a0 (by decide)).trans e58
                have e163 := (Zfr.gr FLc_154 t_a0 (by decide)).trans e59
                have e164 := (Zfr.ai FLc_154 tv25 (by decide)).trans ev26
                obtain ⟨bkk_154, h0Zrc_154, tkk_154, r0Zrc_154, r1Zrc_154, k0Zrc_154⟩ := hBZrc_154
                unfold g_Mo_measure_191
                obtain ⟨v27, ev27, tv27⟩ := gf_64_39 WLc_154 t_a0
                refine wb ev27 ?_
                obtain ⟨v28, ev28, lv28, uv28⟩ := ga_92 WLc_154 tv27 (i := a1) (by omega) (by omega)
                refine wb ev28 ?_
                refine wi (fun hq165 => ?_) (fun hq165 => ?_)
                · have hq165 := i_le hq165
                  exact lInr ⟨rfl, rfl, rfl, rfl, WLc_154, FLc_154, by (try dsimp only); omega, by (try dsimp only); omega, ⟨bkk_154, h0Zrc_154, tkk_154, by (try dsimp only); omega, by (try dsimp only); omega, k0Zrc_154⟩⟩
                · have hq165 := i_nle hq165
                  unfold f_Mo_measure_205
                  have L167 : ∃ b, zlp (fun a : Nat × Int32 × Int32 × Int32 × Int32 × Int32 × Int32 × Int32 × Int32 × Int32 × Zc => g_Mo_measure_205 nf a.1 a.2.1 a.2.2.1 a.2.2.2.1 a.2.2.2.2.1 a.2.2.2.2.2.1 a.2.2.2.2.2.2.1 a.2.2.2.2.2.2.2.1 a.2.2.2.2.2.2.2.2.1 a.2.2.2.2.2.2.2.2.2.1 a.2.2.2.2.2.2.2.2.2.2) nf (a0, a1, ((256 * y2) + (16 * a2)), (x4_51 + 1), x5_154, v19, v23, v26, x10_154, 0, c_154) = some b ∧ (fun b : (Nat × Int32 × Int32 × Int32 × Int32 × Int32 × Int32 × Int32 × Int32 × Zc) => a0 = b.1 ∧ a1 = b.2.1 ∧ ((256 * y2) + (16 * a2)) = b.2.2.1 ∧ (x4_51 + 1) = b.2.2.2.1 ∧ v19 = b.2.2.2.2.2.1 ∧ v23 = b.2.2.2.2.2.2.1 ∧ v26 = b.2.2.2.2.2.2.2.1 ∧ x10_154 = b.2.2.2.2.2.2.2.2.1 ∧ Zwt zty G b.2.2.2.2.2.2.2.2.2 ∧ Zfr G ([(117, 0), (118, 0), (119, 0), (120, 0)] : List (Nat × Nat)) c_154 b.2.2.2.2.2.2.2.2.2 ∧ 1 ≤ b.2.2.2.2.1.toInt ∧ b.2.2.2.2.1.toInt ≤ 272 ∧ v23.toInt < b.2.2.2.2.1.toInt ∧ Zrc G b.2.2.2.2.2.2.2.2.2 a0 b.2.2.2.2.1) b := by
                    refine wlp (fun a : Nat × Int32 × Int32 × Int32 × Int32 × Int32 × Int32 × Int32 × Int32 × Int32 × Zc => a0 = a.1 ∧ a1 = a.2.1 ∧ ((256 * y2) + (16 * a2)) = a.2.2.1 ∧ (x4_51 + 1) = a.2.2.2.1 ∧ v19 = a.2.2.2.2.2.1 ∧ v23 = a.2.2.2.2.2.2.1 ∧ v26 = a.2.2.2.2.2.2.2.1 ∧ x10_154 = a.2.2.2.2.2.2.2.2.1 ∧ Zwt zty G a.2.2.2.2.2.2.2.2.2.2 ∧ Zfr G ([(117, 0), (118, 0), (119, 0), (120, 0)] : List (Nat × Nat)) c_154 a.2.2.2.2.2.2.2.2.2.2 ∧ 1 ≤ a.2.2.2.2.1.toInt ∧ a.2.2.2.2.1.toInt ≤ 272 ∧ 0 ≤ a.2.2.2.2.2.2.2.2.2.1.toInt ∧ a.2.2.2.2.2.2.2.2.2.1.toInt ≤ 16 ∧ v23.toInt < a.2.2.2.2.1.toInt ∧ Zrc G a.2.2.2.2.2.2.2.2.2.2 a0 a.2.2.2.2.1) (fun a => (16 - a.2.2.2.2.2.2.2.2.2.1.toInt).toNat) (fun b : (Nat × Int32 × Int32 × Int32 × Int32 × Int32 × Int32 × Int32 × Int32 × Zc) => a0 = b.1 ∧ a1 = b.2.1 ∧ ((256 * y2) + (16 * a2)) = b.2.2.1 ∧ (x4_51 + 1) = b.2.2.2.1 ∧ v19 = b.2.2.2.2.2.1 ∧ v23 = b.2.2.2.2.2.2.1 ∧ v26 = b.2.2.2.2.2.2.2.1 ∧ x10_154 = b.2.2.2.2.2.2.2.2.1 ∧ Zwt zty G b.2.2.2.2.2.2.2.2.2 ∧ Zfr G ([(117, 0), (118, 0), (119, 0), (120, 0)] : List (Nat × Nat)) c_154 b.2.2.2.2.2.2.2.2.2 ∧ 1 ≤ b.2.2.2.2.1.toInt ∧ b.2.2.2.2.1.toInt ≤ 272 ∧ v23.toInt < b.2.2.2.2.1.toInt ∧ Zrc G b.2.2.2.2.2.2.2.2.2 a0 b.2.2.2.2.1) ?_ ?_ ?_
                    · rintro ⟨x0_168, x1_168, x3_168, x4_168, x5_168, x6_168, x8_168, x9_168, x10_168, x11_168, c_168⟩ hI
                      try dsimp only at hI ⊢
                      obtain ⟨rfl, rfl, rfl, rfl, rfl, rfl, rfl, rfl, WLc_168, FLc_168, j169, j170, j171, j172, j173, hBZrc_168⟩ := hI
                      have e174 := (Zfr.gr FLc_168 t_a0 (by decide)).trans h0Zrc_154
                      have e175 := (Zfr.ai FLc_168 tv8 (by decide)).trans e161
                      have e176 := (Zfr.gr FLc_168 t_a0 (by decide)).trans e162
                      have e177 := (Zfr.gr FLc_168 t_a0 (by decide)).trans e163
                      have e178 := (Zfr.ai FLc_168 tv25 (by decide)).trans e164
                      have e179 := (Zfr.ai FLc_168 tv27 (by decide)).trans ev28
                      obtain ⟨bkk_168, h0Zrc_168, tkk_168, r0Zrc_168, r1Zrc_168, k0Zrc_168⟩ := hBZrc_168
                      unfold g_Mo_measure_205
                      obtain ⟨v30, ev30, lv30, uv30⟩ := gf_64_0 WLc_168 t_a0
                      refine wb ev30 ?_
                      refine wi (fun hq180 => ?_) (fun hq180 => ?_)
                      · have hq180 := i_le hq180
                        exact lInr ⟨rfl, rfl, rfl, rfl, rfl, rfl, rfl, rfl, WLc_168, FLc_168, by (try dsimp only); omega, by (try dsimp only); omega, by (try dsimp only); omega, ⟨bkk_168, h0Zrc_168, tkk_168, by (try dsimp only); omega, by (try dsimp only); omega, k0Zrc_168⟩⟩
                      · have hq180 := i_nle hq180
                        refine wi (fun hq182 => ?_) (fun hq182 => ?_)
                        · have := i_andr (a := (v26 >>> (x10_154 &&& 31))) (b := 1) (by omega)
                          have hq182 := i_eq hq182
                          refine wb h0Zrc_168 ?_
                          have := i_mull (a := 16) (b := x10_154) (n := 16) li_16 (by omega) (by omega)
                          have := i_add (a := (16 * x10_154)) (b := x11_168) (by omega) (by omega)
                          obtain ⟨v34, ev34, _⟩ := ga_120 WLc_168 tkk_168 (i := ((16 * x10_154) + x11_168)) (by omega) (by omega)
                          refine wb ev34 ?_
                          refine wi (fun hq183 => ?_) (fun hq183 => ?_)
                          · have := li_m1
                            have := i_ge v34
                            have := i_up v34
                            have hq183 := i_eq hq183
                            obtain ⟨w37, ew37⟩ := go_64 WLc_168 t_a0
                            refine wb ew37 ?_
                            have := i_add (a := (16 * a1)) (b := x10_154) (by omega) (by omega)
                            obtain ⟨q36, eq36, Wq36, fq36, pl0q36, pu0q36⟩ := p_Mo_leadsBy hn WLc_168 (a1 := ((16 * a1) + x10_154)) (a2 := v19) (a3 := x11_168) t_a0 (by omega) (by omega) (by omega) (by omega) (by omega) (by omega)
                            refine wb eq36 ?_
                            have e184 := (Zfr.gr fq36 t_a0 (by decide)).trans h0Zrc_168
                            have e185 := (Zfr.ai fq36 tv8 (by decide)).trans e175
                            have e186 := (Zfr.gr fq36 t_a0 (by decide)).trans e176
                            have e187 := (Zfr.gr fq36 t_a0 (by decide)).trans e177
                            have e188 := (Zfr.ai fq36 tv25 (by decide)).trans e178
                            have e189 := (Zfr.ai fq36 tv27 (by decide)).trans e179
                            have e190 := (Zfr.ai fq36 tkk_168 (by decide)).trans ev34
                            have k191 := RcM_fr k0Zrc_168 fq36 tkk_168 (by decide)
                            have F192 := Zfr.tr FLc_168 fq36 (by decide)
                            refine wi (fun hq193 => ?_) (fun hq193 => ?_)
                            · have hq193 := i_eq hq193
                              unfold f_Mo_measure_339
                              have := i_add (a := x11_168) (b := 1) (by omega) (by omega)
                              exact lInl ⟨rfl, rfl, rfl, rfl, rfl, rfl, rfl, rfl, Wq36, F192, by (try dsimp only); omega, by (try dsimp only); omega, by (try dsimp only); omega, by (try dsimp only); omega, by (try dsimp only); omega, ⟨bkk_168, e184, tkk_168, by (try dsimp only); omega, by (try dsimp only); omega, k191⟩⟩ (by (try dsimp only); omega)
                            · have hq193 := i_ne hq193
                              refine wb e184 ?_
                              obtain ⟨c40, ec40, Wc40, fc40, gc40⟩ := pa_120 Wq36 tkk_168 (i := ((16 * x10_154) + x11_168)) (by omega) (by omega) (x := (v23 + 1)) (trivial)
                              refine wb ec40 ?_
                              have e195 := (Zfr.gr fc40 t_a0 (by decide)).trans e184
                              have e196 := (Zfr.ai fc40 tv8 (by decide)).trans e185
                              have e197 := (Zfr.gr fc40 t_a0 (by decide)).trans e186
                              have e198 := (Zfr.gr fc40 t_a0 (by decide)).trans e187
                              have e199 := (Zfr.ai fc40 tv25 (by decide)).trans e188
                              have e200 := (Zfr.ai fc40 tv27 (by decide)).trans e189
                              have := RcM_b k191 e190 (by omega)
                              have := i_add (a := x5_168) (b := 1) (by omega) (by omega)
                              have := i_add (a := v23) (b := 1) (by omega) (by omega)
                              have k201 := RcM_w k191 e190 (by omega) ec40 (by omega) (by omega) (by omega)
                              have F202 := Zfr.tr F192 fc40 (by decide)
                              refine wb e197 ?_
                              obtain ⟨c42, ec42, Wc42, fc42, gc42⟩ := pa_118 Wc40 tv11 (i := x5_168) (by omega) (by omega) (x := x11_168) (rgi (by omega) (by omega))
                              refine wb ec42 ?_
                              have e203 := (Zfr.gr fc42 t_a0 (by decide)).trans e195
                              have e204 := (Zfr.ai fc42 tv8 (by decide)).trans e196
                              have e205 := (Zfr.gr fc42 t_a0 (by decide)).trans e198
                              have e206 := (Zfr.ai fc42 tv25 (by decide)).trans e199
                              have e207 := (Zfr.ai fc42 tv27 (by decide)).trans e200
                              have e208 := (Zfr.ai fc42 tkk_168 (by decide)).trans gc40
                              have k209 := RcM_fr k201 fc42 tkk_168 (by decide)
                              have F210 := Zfr.tr F202 fc42 (by decide)
                              refine wb e205 ?_
                              obtain ⟨c44, ec44, Wc44, fc44, gc44⟩ := pa_119 Wc42 tv13 (i := x5_168) (by omega) (by omega) (x := x10_154) (rgi (by omega) (by omega))
                              refine wb ec44 ?_
                              have e211 := (Zfr.gr fc44 t_a0 (by decide)).trans e203
                              have e212 := (Zfr.ai fc44 tv8 (by decide)).trans e204
                              have e213 := (Zfr.ai fc44 tv25 (by decide)).trans e206
                              have e214 := (Zfr.ai fc44 tv27 (by decide)).trans e207
                              have e215 := (Zfr.ai fc44 tkk_168 (by decide)).trans e208
                              have e216 := (Zfr.ai fc44 tv11 (by decide)).trans gc42
                              have k217 := RcM_fr k209 fc44 tkk_168 (by decide)
                              have F218 := Zfr.tr F210 fc44 (by decide)
                              obtain ⟨v45, ev45, tv45⟩ := gf_64_38 Wc44 t_a0
                              refine wb ev45 ?_
                              obtain ⟨v46, ev46, _⟩ := ga_91 Wc44 tv45 (i := a1) (by omega) (by omega)
                              refine wb ev46 ?_
                              refine wi (fun hq219 => ?_) (fun hq219 => ?_)
                              · have := i_andr (a := (v46 >>> (x10_154 &&& 31))) (b := 1) (by omega)
                                have hq219 := i_eq hq219
                                obtain ⟨v48, ev48, tv48⟩ := gf_64_70 Wc44 t_a0
                                refine wb ev48 ?_
                                have := i_add (a := ((256 * y2) + (16 * a2))) (b := x11_168) (by omega) (by omega)
                                obtain ⟨v49, ev49, _⟩ := ga_117 Wc44 tv48 (i := (((256 * y2) + (16 * a2)) + x11_168)) (by omega) (by omega)
                                refine wb ev49 ?_
                                refine wi (fun hq220 => ?_) (fun hq220 => ?_)
                                · have := i_ge v49
                                  have := i_up v49
                                  have hq220 := i_eq hq220
                                  refine wb ev48 ?_
                                  obtain ⟨c52, ec52, Wc52, fc52, gc52⟩ := pa_117 Wc44 tv48 (i := (((256 * y2) + (16 * a2)) + x11_168)) (by omega) (by omega) (x := (v23 + 1)) (trivial)
                                  refine wb ec52 ?_
                                  have e221 := (Zfr.gr fc52 t_a0 (by decide)).trans e211
                                  have k222 := RcM_fr k217 fc52 tkk_168 (by decide)
                                  have F223 := Zfr.tr F218 fc52 (by decide)
                                  unfold f_Mo_measure_339
                                  have := i_add (a := x11_168) (b := 1) (by omega) (by omega)
                                  exact lInl ⟨rfl, rfl, rfl, rfl, rfl, rfl, rfl, rfl, Wc52, F223, by (try dsimp only); omega, by (try dsimp only); omega, by (try dsimp only); omega, by (try dsimp only); omega, by (try dsimp only); omega, ⟨bkk_168, e221, tkk_168, by (try dsimp only); omega, by (try dsimp only); omega, k222⟩⟩ (by (try dsimp only); omega)
                                · have := i_ge v49
                                  have := i_up v49
                                  have hq220 := i_ne hq220
                                  unfold f_Mo_measure_339
                                  have := i_add (a := x11_168) (b := 1) (by omega) (by omega)
                                  exact lInl ⟨rfl, rfl, rfl, rfl, rfl, rfl, rfl, rfl, Wc44, F218, by (try dsimp only); omega, by (try dsimp only); omega, by (try dsimp only); omega, by (try dsimp only); omega, by (try dsimp only); omega, ⟨bkk_168, e211, tkk_168, by (try dsimp only); omega, by (try dsimp only); omega, k217⟩⟩ (by (try dsimp only); omega)
                              · have := i_andr (a := (v46 >>> (x10_154 &&& 31))) (b := 1) (by omega)
                                have hq219 := i_ne hq219
                                unfold f_Mo_measure_339
                                have := i_add (a := x11_168) (b := 1) (by omega) (by omega)
                                exact lInl ⟨rfl, rfl, rfl, rfl, rfl, rfl, rfl, rfl, Wc44, F218, by (try dsimp only); omega, by (try dsimp only); omega, by (try dsimp only); omega, by (try dsimp only); omega, by (try dsimp only); omega, ⟨bkk_168, e211, tkk_168, by (try dsimp only); omega, by (try dsimp only); omega, k217⟩⟩ (by (try dsimp only); omega)
                          · have := li_m1
                            have := i_ge v34
                            have := i_up v34
                            have hq183 := i_ne hq183
                            unfold f_Mo_measure_339
                            have := i_add (a := x11_168) (b := 1) (by omega) (by omega)
                            exact lInl ⟨rfl, rfl, rfl, rfl, rfl, rfl, rfl, rfl, WLc_168, FLc_168, by (try dsimp only); omega, by (try dsimp only); omega, by (try dsimp only); omega, by (try dsimp only); omega, by (try dsimp only); omega, ⟨bkk_168, h0Zrc_168, tkk_168, by (try dsimp only); omega, by (try dsimp only); omega, k0Zrc_168⟩⟩ (by (try dsimp only); omega)
                        · have := i_andr (a := (v26 >>> (x10_154 &&& 31))) (b := 1) (by omega)
                          have hq182 := i_ne hq182
                          exact lInr ⟨rfl, rfl, rfl, rfl, rfl, rfl, rfl, rfl, WLc_168, FLc_168, by (try dsimp only); omega, by (try dsimp only); omega, by (try dsimp only); omega, ⟨bkk_168, h0Zrc_168, tkk_168, by (try dsimp only); omega, by (try dsimp only); omega, k0Zrc_168⟩⟩
                    · exact ⟨rfl, rfl, rfl, rfl, rfl, rfl, rfl, rfl, WLc_154, Zfr.rf, by (try dsimp only); omega, by (try dsimp only); omega, by (try dsimp only); omega, by (try dsimp only); omega, by (try dsimp only); omega, ⟨bkk_154, h0Zrc_154, tkk_154, by (try dsimp only); omega, by (try dsimp only); omega, k0Zrc_154⟩⟩
                    · (try dsimp only); omega
                  obtain ⟨b, eb, hb⟩ := L167
                  refine wb eb ?_
                  clear eb
                  obtain ⟨z0_230, z1_230, z2_230, z3_230, z4_230, z5_230, z6_230, z7_230, z8_230, c_230⟩ := b
                  try dsimp only at hb ⊢
                  obtain ⟨rfl, rfl, rfl, rfl, rfl, rfl, rfl, rfl, WXc_230, FXc_230, j231, j232, j233, hXZrcc_230⟩ := hb
                  have e234 := (Zfr.gr FXc_230 t_a0 (by decide)).trans h0Zrc_154
                  have F235 := Zfr.tr FLc_154 FXc_230 (by decide)
                  obtain ⟨bkkxc_230, h0Zrcxc_230, tkkxc_230, r0Zrcxc_230, r1Zrcxc_230, k0Zrcxc_230⟩ := hXZrcc_230
                  unfold f_Mo_measure_345
                  have := i_add (a := x10_154) (b := 1) (by omega) (by omega)
                  exact lInl ⟨rfl, rfl, rfl, rfl, rfl, rfl, rfl, WXc_230, F235, by (try dsimp only); omega, by (try dsimp only); omega, by (try dsimp only); omega, by (try dsimp only); omega, by (try dsimp only); omega, ⟨bkkxc_230, h0Zrcxc_230, tkkxc_230, by (try dsimp only); omega, by (try dsimp only); omega, k0Zrcxc_230⟩⟩ (by (try dsimp only); omega)
              · exact ⟨rfl, rfl, rfl, rfl, rfl, rfl, rfl, WLc_51, Zfr.rf, by (try dsimp only); omega, by (try dsimp only); omega, by (try dsimp only); omega, by (try dsimp only); omega, by (try dsimp only); omega, ⟨bkk_51, h0Zrc_51, tkk_51, by (try dsimp only); omega, by (try dsimp only); omega, k0Zrc_51⟩⟩
              · (try dsimp only); omega
            obtain ⟨b, eb, hb⟩ := L153
            refine wb eb ?_
            clear eb
            obtain ⟨z0_238, z1_238, z2_238, z3_238, z4_238, c_238⟩ := b
            try dsimp only at hb ⊢
            obtain ⟨rfl, rfl, rfl, rfl, WXc_238, FXc_238, j239, j240, hXZrcc_238⟩ := hb
            have e241 := (Zfr.gr FXc_238 t_a0 (by decide)).trans h0Zrc_51
            have F242 := Zfr.tr FLc_51 FXc_238 (by decide)
            obtain ⟨bkkxc_238, h0Zrcxc_238, tkkxc_238, r0Zrcxc_238, r1Zrcxc_238, k0Zrcxc_238⟩ := hXZrcc_238
            exact lInl ⟨rfl, rfl, rfl, WXc_238, F242, by (try dsimp only); omega, by (try dsimp only); omega, by (try dsimp only); omega, by (try dsimp only); omega, ⟨bkkxc_238, h0Zrcxc_238, tkkxc_238, by (try dsimp only); omega, by (try dsimp only); omega, k0Zrcxc_238⟩⟩ (by (try dsimp only); omega)
      · exact ⟨rfl, rfl, rfl, Wc16, Zfr.rf, by (try dsimp only); omega, by (try dsimp only); omega, by (try dsimp only); omega, by (try dsimp only); omega, ⟨bkkxc_26, e42, tkkxc_26, by (try dsimp only); omega, by (try dsimp only); omega, k48⟩⟩
      · (try dsimp only); omega
    obtain ⟨b, eb, hb⟩ := L50
    refine wb eb ?_
    clear eb
    obtain c_245 := b
    try dsimp only at hb ⊢
    obtain ⟨WXc_245, FXc_245⟩ := hb
    have F246 := Zfr.tr F49 FXc_245 (by decide)
    exact ⟨_, rfl, WXc_245, F246⟩
  · have hq29 := i_ne hq29
    obtain ⟨v55, ev55, tv55⟩ := gf_64_70 WXc_26 t_a0
    refine wb ev55 ?_
    have := i_add (a := ((256 * y2) + (16 * a2))) (b := a2) (by omega) (by omega)
    obtain ⟨c56, ec56, Wc56, fc56, gc56⟩ := pa_117 WXc_26 tv55 (i := (((256 * y2) + (16 * a2)) + a2)) (by omega) (by omega) (x := 0) (trivial)
    refine wb ec56 ?_
    have e247 := (Zfr.gr fc56 t_a0 (by decide)).trans h0Zflxc_26
    have e248 := (Zfr.ai fc56 tv8 (by decide)).trans ev9
    have e249 := (Zfr.gr fc56 t_a0 (by decide)).trans ev55
    have k250 := FlN_fr k0Zflxc_26 fc56 tkkxc_26 (by decide)
    have F251 := Zfr.tr F28 fc56 (by decide)
    unfold f_Mo_measure_83
    obtain ⟨v11, ev11, tv11⟩ := gf_64_71 Wc56 t_a0
    refine wb ev11 ?_
    obtain ⟨c12, ec12, Wc12, fc12, gc12⟩ := pa_118 Wc56 tv11 (i := 0) (by omega) (by omega) (x := a2) (rgi (by omega) (by omega))
    refine wb ec12 ?_
    have e252 := (Zfr.gr fc12 t_a0 (by decide)).trans e247
    have e253 := (Zfr.ai fc12 tv8 (by decide)).trans e248
    have e254 := (Zfr.gr fc12 t_a0 (by decide)).trans e249
    have e255 := (Zfr.ai fc12 tv55 (by decide)).trans gc56
    have e256 := (Zfr.gr fc12 t_a0 (by decide)).trans ev11
    have k257 := FlN_fr k250 fc12 tkkxc_26 (by decide)
    have F258 := Zfr.tr F251 fc12 (by decide)
    obtain ⟨v13, ev13, tv13⟩ := gf_64_72 Wc12 t_a0
    refine wb ev13 ?_
    obtain ⟨c14, ec14, Wc14, fc14, gc14⟩ := pa_119 Wc12 tv13 (i := 0) (by omega) (by omega) (x := 16) (rgi (by omega) (by omega))
    refine wb ec14 ?_
    have e259 := (Zfr.gr fc14 t_a0 (by decide)).trans e252
    have e260 := (Zfr.ai fc14 tv8 (by decide)).trans e253
    have e261 := (Zfr.gr fc14 t_a0 (by decide)).trans e254
    have e262 := (Zfr.ai fc14 tv55 (by decide)).trans e255
    have e263 := (Zfr.gr fc14 t_a0 (by decide)).trans e256
    have e264 := (Zfr.ai fc14 tv11 (by decide)).trans gc12
    have e265 := (Zfr.gr fc14 t_a0 (by decide)).trans ev13
    have k266 := FlN_fr k257 fc14 tkkxc_26 (by decide)
    have F267 := Zfr.tr F258 fc14 (by decide)
    refine wb e259 ?_
    have := i_add (a := 256) (b := a2) (by omega) (by omega)
    obtain ⟨c16, ec16, Wc16, fc16, gc16⟩ := pa_120 Wc14 tkkxc_26 (i := (256 + a2)) (by omega) (by omega) (x := 0) (trivial)
    refine wb ec16 ?_
    have e268 := (Zfr.gr fc16 t_a0 (by decide)).trans e259
    have e269 := (Zfr.ai fc16 tv8 (by decide)).trans e260
    have e270 := (Zfr.gr fc16 t_a0 (by decide)).trans e261
    have e271 := (Zfr.ai fc16 tv55 (by decide)).trans e262
    have e272 := (Zfr.gr fc16 t_a0 (by decide)).trans e263
    have e273 := (Zfr.ai fc16 tv11 (by decide)).trans e264
    have e274 := (Zfr.gr fc16 t_a0 (by decide)).trans e265
    have e275 := (Zfr.ai fc16 tv13 (by decide)).trans gc14
    have k276 := RcM_1 k266 ec16
    have F277 := Zfr.tr F267 fc16 (by decide)
    unfold f_Mo_measure_115
    have := li_1
    have L278 : ∃ b, zlp (fun a : Nat × Int32 × Int32 × Int32 × Int32 × Zc => g_Mo_measure_115 nf a.1 a.2.1 a.2.2.1 a.2.2.2.1 a.2.2.2.2.1 a.2.2.2.2.2) nf (a0, a1, ((256 * y2) + (16 * a2)), 0, 1, c16) = some b ∧ (fun b : (Zc) => Zwt zty G b ∧ Zfr G ([(117, 0), (118, 0), (119, 0), (120, 0)] : List (Nat × Nat)) c16 b) b := by
      refine wlp (fun a : Nat × Int32 × Int32 × Int32 × Int32 × Zc => a0 = a.1 ∧ a1 = a.2.1 ∧ ((256 * y2) + (16 * a2)) = a.2.2.1 ∧ Zwt zty G a.2.2.2.2.2 ∧ Zfr G ([(117, 0), (118, 0), (119, 0), (120, 0)] : List (Nat × Nat)) c16 a.2.2.2.2.2 ∧ 0 ≤ a.2.2.2.1.toInt ∧ a.2.2.2.1.toInt ≤ 272 ∧ 1 ≤ a.2.2.2.2.1.toInt ∧ a.2.2.2.2.1.toInt ≤ 272 ∧ Zrc G a.2.2.2.2.2 a0 a.2.2.2.2.1) (fun a => (272 - a.2.2.2.1.toInt).toNat) (fun b : (Zc) => Zwt zty G b ∧ Zfr G ([(117, 0), (118, 0), (119, 0), (120, 0)] : List (Nat × Nat)) c16 b) ?_ ?_ ?_
      · rintro ⟨x0_279, x1_279, x3_279, x4_279, x5_279, c_279⟩ hI
        try dsimp only at hI ⊢
        obtain ⟨rfl, rfl, rfl, WLc_279, FLc_279, j280, j281, j282, j283, hBZrc_279⟩ := hI
        have e284 := (Zfr.gr FLc_279 t_a0 (by decide)).trans e268
        have e285 := (Zfr.ai FLc_279 tv8 (by decide)).trans e269
        have e286 := (Zfr.gr FLc_279 t_a0 (by decide)).trans e270
        have e287 := (Zfr.gr FLc_279 t_a0 (by decide)).trans e272
        have e288 := (Zfr.gr FLc_279 t_a0 (by decide)).trans e274
        obtain ⟨bkk_279, h0Zrc_279, tkk_279, r0Zrc_279, r1Zrc_279, k0Zrc_279⟩ := hBZrc_279
        unfold g_Mo_measure_115
        refine wi (fun hq289 => ?_) (fun hq289 => ?_)
        · have hq289 := i_le hq289
          exact lInr ⟨WLc_279, FLc_279⟩
        · have hq289 := i_nle hq289
          refine wb e287 ?_
          obtain ⟨v19, ev19, lv19, uv19⟩ := ga_118 WLc_279 tv11 (i := x4_279) (by omega) (by omega)
          refine wb ev19 ?_
          refine wb e288 ?_
          obtain ⟨v21, ev21, lv21, uv21⟩ := ga_119 WLc_279 tv13 (i := x4_279) (by omega) (by omega)
          refine wb ev21 ?_
          refine wb h0Zrc_279 ?_
          have := i_mull (a := 16) (b := v21) (n := 16) li_16 (by omega) (by omega)
          have := i_add (a := (16 * v21)) (b := v19) (by omega) (by omega)
          obtain ⟨v23, ev23, _⟩ := ga_120 WLc_279 tkk_279 (i := ((16 * v21) + v19)) (by omega) (by omega)
          refine wb ev23 ?_
          have := RcM_r k0Zrc_279 ev23
          refine wi (fun hq290 => ?_) (fun hq290 => ?_)
          · have hq290 := i_eq hq290
            obtain ⟨v53, ev53, tv53⟩ := gf_64_37 WLc_279 t_a0
            refine wb ev53 ?_
            obtain ⟨v54, ev54, _⟩ := ga_90 WLc_279 tv53 (i := a1) (by omega) (by omega)
            refine wb ev54 ?_
            unfold f_Mo_measure_186
            unfold f_Mo_measure_191
            have := i_add (a := x4_279) (b := 1) (by omega) (by omega)
            have L291 : ∃ b, zlp (fun a : Nat × Int32 × Int32 × Int32 × Int32 × Int32 × Int32 × Int32 × Int32 × Zc => g_Mo_measure_191 nf a.1 a.2.1 a.2.2.1 a.2.2.2.1 a.2.2.2.2.1 a.2.2.2.2.2.1 a.2.2.2.2.2.2.1 a.2.2.2.2.2.2.2.1 a.2.2.2.2.2.2.2.2.1 a.2.2.2.2.2.2.2.2.2) nf (a0, a1, ((256 * y2) + (16 * a2)), (x4_279 + 1), x5_279, v19, v23, v54, 0, c_279) = some b ∧ (fun b : (Nat × Int32 × Int32 × Int32 × Int32 × Zc) => a0 = b.1 ∧ a1 = b.2.1 ∧ ((256 * y2) + (16 * a2)) = b.2.2.1 ∧ (x4_279 + 1) = b.2.2.2.1 ∧ Zwt zty G b.2.2.2.2.2 ∧ Zfr G ([(117, 0), (118, 0), (119, 0), (120, 0)] : List (Nat × Nat)) c_279 b.2.2.2.2.2 ∧ 1 ≤ b.2.2.2.2.1.toInt ∧ b.2.2.2.2.1.toInt ≤ 272 ∧ Zrc G b.2.2.2.2.2 a0 b.2.2.2.2.1) b := by
              refine wlp (fun a : Nat × Int32 × Int32 × Int32 × Int32 × Int32 × Int32 × Int32 × Int32 × Zc => a0 = a.1 ∧ a1 = a.2.1 ∧ ((256 * y2) + (16 * a2)) = a.2.2.1 ∧ (x4_279 + 1) = a.2.2.2.1 ∧ v19 = a.2.2.2.2.2.1 ∧ v23 = a.2.2.2.2.2.2.1 ∧ v54 = a.2.2.2.2.2.2.2.1 ∧ Zwt zty G a.2.2.2.2.2.2.2.2.2 ∧ Zfr G ([(117, 0), (118, 0), (119, 0), (120, 0)] : List (Nat × Nat)) c_279 a.2.2.2.2.2.2.2.2.2 ∧ 1 ≤ a.2.2.2.2.1.toInt ∧ a.2.2.2.2.1.toInt ≤ 272 ∧ 0 ≤ a.2.2.2.2.2.2.2.2.1.toInt ∧ a.2.2.2.2.2.2.2.2.1.toInt ≤ 16 ∧ v23.toInt < a.2.2.2.2.1.toInt ∧ Zrc G a.2.2.2.2.2.2.2.2.2 a0 a.2.2.2.2.1) (fun a => (16 - a.2.2.2.2.2.2.2.2.1.toInt).toNat) (fun b : (Nat × Int32 × Int32 × Int32 × Int32 × Zc) => a0 = b.1 ∧ a1 = b.2.1 ∧ ((256 * y2) + (16 * a2)) = b.2.2.1 ∧ (x4_279 + 1) = b.2.2.2.1 ∧ Zwt zty G b.2.2.2.2.2 ∧ Zfr G ([(117, 0), (118, 0), (119, 0), (120, 0)] : List (Nat × Nat)) c_279 b.2.2.2.2.2 ∧ 1 ≤ b.2.2.2.2.1.toInt ∧ b.2.2.2.2.1.toInt ≤ 272 ∧ Zrc G b.2.2.2.2.2 a0 b.2.2.2.2.1) ?_ ?_ ?_
              · rintro ⟨x0_292, x1_292, x3_292, x4_292, x5_292, x6_292, x8_292, x9_292, x10_292, c_292⟩ hI
                try dsimp only at hI ⊢
                obtain ⟨rfl, rfl, rfl, rfl, rfl, rfl, rfl, WLc_292, FLc_292, j293, j294, j295, j296, j297, hBZrc_292⟩ := hI
                have e298 := (Zfr.gr FLc_292 t_a0 (by decide)).trans h0Zrc_279
                have e299 := (Zfr.ai FLc_292 tv8 (by decide)).trans e285
                have e300 := (Zfr.gr FLc_292 t_a0 (by decide)).trans e286
                have e301 := (Zfr.gr FLc_292 t_a0 (by decide)).trans e287
                have e302 := (Zfr.gr FLc_292 t_a0 (by decide)).trans e288
                have e303 := (Zfr.ai FLc_292 tv53 (by decide)).trans ev54
                obtain ⟨bkk_292, h0Zrc_292, tkk_292, r0Zrc_292, r1Zrc_292, k0Zrc_292⟩ := hBZrc_292
                unfold g_Mo_measure_191
                obtain ⟨v27, ev27, tv27⟩ := gf_64_39 WLc_292 t_a0
                refine wb ev27 ?_
                obtain ⟨v28, ev28, lv28, uv28⟩ := ga_92 WLc_292 tv27 (i := a1) (by omega) (by omega)
                refine wb ev28 ?_
                refine wi (fun hq304 => ?_) (fun hq304 => ?_)
                · have hq304 := i_le hq304
                  exact lInr ⟨rfl, rfl, rfl, rfl, WLc_292, FLc_292, by (try dsimp only); omega, by (try dsimp only); omega, ⟨bkk_292, h0Zrc_292, tkk_292, by (try dsimp only); omega, by (try dsimp only); omega, k0Zrc_292⟩⟩
                · have hq304 := i_nle hq304
                  unfold f_Mo_measure_205
                  have L306 : ∃ b, zlp (fun a : Nat × Int32 × Int32 × Int32 × Int32 × Int32 × Int32 × Int32 × Int32 × Int32 × Zc => g_Mo_measure_205 nf a.1 a.2.1 a.2.2.1 a.2.2.2.1 a.2.2.2.2.1 a.2.2.2.2.2.1 a.2.2.2.2.2.2.1 a.2.2.2.2.2.2.2.1 a.2.2.2.2.2.2.2.2.1 a.2.2.2.2.2.2.2.2.2.1 a.2.2.2.2.2.2.2.2.2.2) nf (a0, a1, ((256 * y2) + (16 * a2)), (x4_279 + 1), x5_292, v19, v23, v54, x10_292, 0, c_292) = some b ∧ (fun b : (Nat × Int32 × Int32 × Int32 × Int32 × Int32 × Int32 × Int32 × Int32 × Zc) => a0 = b.1 ∧ a1 = b.2.1 ∧ ((256 * y2) + (16 * a2)) = b.2.2.1 ∧ (x4_279 + 1) = b.2.2.2.1 ∧ v19 = b.2.2.2.2.2.1 ∧ v23 = b.2.2.2.2.2.2.1 ∧ v54 = b.2.2.2.2.2.2.2.1 ∧ x10_292 = b.2.2.2.2.2.2.2.2.1 ∧ Zwt zty G b.2.2.2.2.2.2.2.2.2 ∧ Zfr G ([(117, 0), (118, 0), (119, 0), (120, 0)] : List (Nat × Nat)) c_292 b.2.2.2.2.2.2.2.2.2 ∧ 1 ≤ b.2.2.2.2.1.toInt ∧ b.2.2.2.2.1.toInt ≤ 272 ∧ v23.toInt < b.2.2.2.2.1.toInt ∧ Zrc G b.2.2.2.2.2.2.2.2.2 a0 b.2.2.2.2.1) b := by
                    refine wlp (fun a : Nat × Int32 × Int32 × Int32 × Int32 × Int32 × Int32 × Int32 × Int32 × Int32 × Zc => a0 = a.1 ∧ a1 = a.2.1 ∧ ((256 * y2) + (16 * a2)) = a.2.2.1 ∧ (x4_279 + 1) = a.2.2.2.1 ∧ v19 = a.2.2.2.2.2.1 ∧ v23 = a.2.2.2.2.2.2.1 ∧ v54 = a.2.2.2.2.2.2.2.1 ∧ x10_292 = a.2.2.2.2.2.2.2.2.1 ∧ Zwt zty G a.2.2.2.2.2.2.2.2.2.2 ∧ Zfr G ([(117, 0), (118, 0), (119, 0), (120, 0)] : List (Nat × Nat)) c_292 a.2.2.2.2.2.2.2.2.2.2 ∧ 1 ≤ a.2.2.2.2.1.toInt ∧ a.2.2.2.2.1.toInt ≤ 272 ∧ 0 ≤ a.2.2.2.2.2.2.2.2.2.1.toInt ∧ a.2.2.2.2.2.2.2.2.2.1.toInt ≤ 16 ∧ v23.toInt < a.2.2.2.2.1.toInt ∧ Zrc G a.2.2.2.2.2.2.2.2.2.2 a0 a.2.2.2.2.1) (fun a => (16 - a.2.2.2.2.2.2.2.2.2.1.toInt).toNat) (fun b : (Nat × Int32 × Int32 × Int32 × Int32 × Int32 × Int32 × Int32 × Int32 × Zc) => a0 = b.1 ∧ a1 = b.2.1 ∧ ((256 * y2) + (16 * a2)) = b.2.2.1 ∧ (x4_279 + 1) = b.2.2.2.1 ∧ v19 = b.2.2.2.2.2.1 ∧ v23 = b.2.2.2.2.2.2.1 ∧ v54 = b.2.2.2.2.2.2.2.1 ∧ x10_292 = b.2.2.2.2.2.2.2.2.1 ∧ Zwt zty G b.2.2.2.2.2.2.2.2.2 ∧ Zfr G ([(117, 0), (118, 0), (119, 0), (120, 0)] : List (Nat × Nat)) c_292 b.2.2.2.2.2.2.2.2.2 ∧ 1 ≤ b.2.2.2.2.1.toInt ∧ b.2.2.2.2.1.toInt ≤ 272 ∧ v23.toInt < b.2.2.2.2.1.toInt ∧ Zrc G b.2.2.2.2.2.2.2.2.2 a0 b.2.2.2.2.1) ?_ ?_ ?_
                    · rintro ⟨x0_307, x1_307, x3_307, x4_307, x5_307, x6_307, x8_307, x9_307, x10_307, x11_307, c_307⟩ hI
                      try dsimp only at hI ⊢
                      obtain ⟨rfl, rfl, rfl, rfl, rfl, rfl, rfl, rfl, WLc_307, FLc_307, j308, j309, j310, j311, j312, hBZrc_307⟩ := hI
                      have e313 := (Zfr.gr FLc_307 t_a0 (by decide)).trans h0Zrc_292
                      have e314 := (Zfr.ai FLc_307 tv8 (by decide)).trans e299
                      have e315 := (Zfr.gr FLc_307 t_a0 (by decide)).trans e300
                      have e316 := (Zfr.gr FLc_307 t_a0 (by decide)).trans e301
                      have e317 := (Zfr.gr FLc_307 t_a0 (by decide)).trans e302
                      have e318 := (Zfr.ai FLc_307 tv53 (by decide)).trans e303
                      have e319 := (Zfr.ai FLc_307 tv27 (by decide)).trans ev28
                      obtain ⟨bkk_307, h0Zrc_307, tkk_307, r0Zrc_307, r1Zrc_307, k0Zrc_307⟩ := hBZrc_307
                      unfold g_Mo_measure_205
                      obtain ⟨v30, ev30, lv30, uv30⟩ := gf_64_0 WLc_307 t_a0
                      refine wb ev30 ?_
                      refine wi (fun hq320 => ?_) (fun hq320 => ?_)
                      · have hq320 := i_le hq320
                        exact lInr ⟨rfl, rfl, rfl, rfl, rfl, rfl, rfl, rfl, WLc_307, FLc_307, by (try dsimp only); omega, by (try dsimp only); omega, by (try dsimp only); omega, ⟨bkk_307, h0Zrc_307, tkk_307, by (try dsimp only); omega, by (try dsimp only); omega, k0Zrc_307⟩⟩
                      · have hq320 := i_nle hq320
                        refine wi (fun hq322 => ?_) (fun hq322 => ?_)
                        · have := i_andr (a := (v54 >>> (x10_292 &&& 31))) (b := 1) (by omega)
                          have hq322 := i_eq hq322
                          refine wb h0Zrc_307 ?_
                          have := i_mull (a := 16) (b := x10_292) (n := 16) li_16 (by omega) (by omega)
                          have := i_add (a := (16 * x10_292)) (b := x11_307) (by omega) (by omega)
                          obtain ⟨v34, ev34, _⟩ := ga_120 WLc_307 tkk_307 (i := ((16 * x10_292) + x11_307)) (by omega) (by omega)
                          refine wb ev34 ?_
                          refine wi (fun hq323 => ?_) (fun hq323 => ?_)
                          · have := li_m1
                            have := i_ge v34
                            have := i_up v34
                            have hq323 := i_eq hq323
                            obtain ⟨w37, ew37⟩ := go_64 WLc_307 t_a0
                            refine wb ew37 ?_
                            have := i_mull (a := 16) (b := a1) (n := 16) li_16 (by omega) (by omega)
                            have := i_add (a := (16 * a1)) (b := x10_292) (by omega) (by omega)
                            obtain ⟨q36, eq36, Wq36, fq36, pl0q36, pu0q36⟩ := p_Mo_leadsBy hn WLc_307 (a1 := ((16 * a1) + x10_292)) (a2 := v19) (a3 := x11_307) t_a0 (by omega) (by omega) (by omega) (by omega) (by omega) (by omega)
                            refine wb eq36 ?_
                            have e324 := (Zfr.gr fq36 t_a0 (by decide)).trans h0Zrc_307
                            have e325 := (Zfr.ai fq36 tv8 (by decide)).trans e314
                            have e326 := (Zfr.gr fq36 t_a0 (by decide)).trans e315
                            have e327 := (Zfr.gr fq36 t_a0 (by decide)).trans e316
                            have e328 := (Zfr.gr fq36 t_a0 (by decide)).trans e317
                            have e329 := (Zfr.ai fq36 tv53 (by decide)).trans e318
                            have e330 := (Zfr.ai fq36 tv27 (by decide)).trans e319
                            have e331 := (Zfr.ai fq36 tkk_307 (by decide)).trans ev34
                            have k332 := RcM_fr k0Zrc_307 fq36 tkk_307 (by decide)
                            have F333 := Zfr.tr FLc_307 fq36 (by decide)
                            refine wi (fun hq334 => ?_) (fun hq334 => ?_)
                            · have hq334 := i_eq hq334
                              unfold f_Mo_measure_339
                              have := i_add (a := x11_307) (b := 1) (by omega) (by omega)
                              exact lInl ⟨rfl, rfl, rfl, rfl, rfl, rfl, rfl, rfl, Wq36, F333, by (try dsimp only); omega, by (try dsimp only); omega, by (try dsimp only); omega, by (try dsimp only); omega, by (try dsimp only); omega, ⟨bkk_307, e324, tkk_307, by (try dsimp only); omega, by (try dsimp only); omega, k332⟩⟩ (by (try dsimp only); omega)
                            · have hq334 := i_ne hq334
                              refine wb e324 ?_
                              obtain ⟨c40, ec40, Wc40, fc40, gc40⟩ := pa_120 Wq36 tkk_307 (i := ((16 * x10_292) + x11_307)) (by omega) (by omega) (x := (v23 + 1)) (trivial)
                              refine wb ec40 ?_
                              have e336 := (Zfr.gr fc40 t_a0 (by decide)).trans e324
                              have e337 := (Zfr.ai fc40 tv8 (by decide)).trans e325
                              have e338 := (Zfr.gr fc40 t_a0 (by decide)).trans e326
                              have e339 := (Zfr.gr fc40 t_a0 (by decide)).trans e327
                              have e340 := (Zfr.gr fc40 t_a0 (by decide)).trans e328
                              have e341 := (Zfr.ai fc40 tv53 (by decide)).trans e329
                              have e342 := (Zfr.ai fc40 tv27 (by decide)).trans e330
                              have := RcM_b k332 e331 (by omega)
                              have := i_add (a := x5_307) (b := 1) (by omega) (by omega)
                              have := i_add (a := v23) (b := 1) (by omega) (by omega)
                              have k343 := RcM_w k332 e331 (by omega) ec40 (by omega) (by omega) (by omega)
                              have F344 := Zfr.tr F333 fc40 (by decide)
                              refine wb e339 ?_
                              obtain ⟨c42, ec42, Wc42, fc42, gc42⟩ := pa_118 Wc40 tv11 (i := x5_307) (by omega) (by omega) (x := x11_307) (rgi (by omega) (by omega))
                              refine wb ec42 ?_
                              have e345 := (Zfr.gr fc42 t_a0 (by decide)).trans e336
                              have e346 := (Zfr.ai fc42 tv8 (by decide)).trans e337
                              have e347 := (Zfr.gr fc42 t_a0 (by decide)).trans e338
                              have e348 := (Zfr.gr fc42 t_a0 (by decide)).trans e340
                              have e349 := (Zfr.ai fc42 tv53 (by decide)).trans e341
                              have e350 := (Zfr.ai fc42 tv27 (by decide)).trans e342
                              have e351 := (Zfr.ai fc42 tkk_307 (by decide)).trans gc40
                              have k352 := RcM_fr k343 fc42 tkk_307 (by decide)
                              have F353 := Zfr.tr F344 fc42 (by decide)
                              refine wb e348 ?_
                              obtain ⟨c44, ec44, Wc44, fc44, gc44⟩ := pa_119 Wc42 tv13 (i := x5_307) (by omega) (by omega) (x := x10_292) (rgi (by omega) (by omega))
                              refine wb ec44 ?_
                              have e354 := (Zfr.gr fc44 t_a0 (by decide)).trans e345
                              have e355 := (Zfr.ai fc44 tv8 (by decide)).trans e346
                              have e356 := (Zfr.gr fc44 t_a0 (by decide)).trans e347
                              have e357 := (Zfr.ai fc44 tv53 (by decide)).trans e349
                              have e358 := (Zfr.ai fc44 tv27 (by decide)).trans e350
                              have e359 := (Zfr.ai fc44 tkk_307 (by decide)).trans e351
                              have e360 := (Zfr.ai fc44 tv11 (by decide)).trans gc42
                              have k361 := RcM_fr k352 fc44 tkk_307 (by decide)
                              have F362 := Zfr.tr F353 fc44 (by decide)
                              obtain ⟨v45, ev45, tv45⟩ := gf_64_38 Wc44 t_a0
                              refine wb ev45 ?_
                              obtain ⟨v46, ev46, _⟩ := ga_91 Wc44 tv45 (i := a1) (by omega) (by omega)
                              refine wb ev46 ?_
                              refine wi (fun hq363 => ?_) (fun hq363 => ?_)
                              · have := i_andr (a := (v46 >>> (x10_292 &&& 31))) (b := 1) (by omega)
                                have hq363 := i_eq hq363
                                refine wb e356 ?_
                                have := i_add (a := ((256 * y2) + (16 * a2))) (b := x11_307) (by omega) (by omega)
                                obtain ⟨v49, ev49, _⟩ := ga_117 Wc44 tv55 (i := (((256 * y2) + (16 * a2)) + x11_307)) (by omega) (by omega)
                                refine wb ev49 ?_
                                refine wi (fun hq364 => ?_) (fun hq364 => ?_)
                                · have := i_ge v49
                                  have := i_up v49
                                  have hq364 := i_eq hq364
                                  refine wb e356 ?_
                                  obtain ⟨c52, ec52, Wc52, fc52, gc52⟩ := pa_117 Wc44 tv55 (i := (((256 * y2) + (16 * a2)) + x11_307)) (by omega) (by omega) (x := (v23 + 1)) (trivial)
                                  refine wb ec52 ?_
                                  have e365 := (Zfr.gr fc52 t_a0 (by decide)).trans e354
                                  have k366 := RcM_fr k361 fc52 tkk_307 (by decide)
                                  have F367 := Zfr.tr F362 fc52 (by decide)
                                  unfold f_Mo_measure_339
                                  have := i_add (a := x11_307) (b := 1) (by omega) (by omega)
                                  exact lInl ⟨rfl, rfl, rfl, rfl, rfl, rfl, rfl, rfl, Wc52, F367, by (try dsimp only); omega, by (try dsimp only); omega, by (try dsimp only); omega, by (try dsimp only); omega, by (try dsimp only); omega, ⟨bkk_307, e365, tkk_307, by (try dsimp only); omega, by (try dsimp only); omega, k366⟩⟩ (by (try dsimp only); omega)
                                · have := i_ge v49
                                  have := i_up v49
                                  have hq364 := i_ne hq364
                                  unfold f_Mo_measure_339
                                  have := i_add (a := x11_307) (b := 1) (by omega) (by omega)
                                  exact lInl ⟨rfl, rfl, rfl, rfl, rfl, rfl, rfl, rfl, Wc44, F362, by (try dsimp only); omega, by (try dsimp only); omega, by (try dsimp only); omega, by (try dsimp only); omega, by (try dsimp only); omega, ⟨bkk_307, e354, tkk_307, by (try dsimp only); omega, by (try dsimp only); omega, k361⟩⟩ (by (try dsimp only); omega)
                              · have := i_andr (a := (v46 >>> (x10_292 &&& 31))) (b := 1) (by omega)
                                have hq363 := i_ne hq363
                                unfold f_Mo_measure_339
                                have := i_add (a := x11_307) (b := 1) (by omega) (by omega)
                                exact lInl ⟨rfl, rfl, rfl, rfl, rfl, rfl, rfl, rfl, Wc44, F362, by (try dsimp only); omega, by (try dsimp only); omega, by (try dsimp only); omega, by (try dsimp only); omega, by (try dsimp only); omega, ⟨bkk_307, e354, tkk_307, by (try dsimp only); omega, by (try dsimp only); omega, k361⟩⟩ (by (try dsimp only); omega)
                          · have := li_m1
                            have := i_ge v34
                            have := i_up v34
                            have hq323 := i_ne hq323
                            unfold f_Mo_measure_339
                            have := i_add (a := x11_307) (b := 1) (by omega) (by omega)
                            exact lInl ⟨rfl, rfl, rfl, rfl, rfl, rfl, rfl, rfl, WLc_307, FLc_307, by (try dsimp only); omega, by (try dsimp only); omega, by (try dsimp only); omega, by (try dsimp only); omega, by (try dsimp only); omega, ⟨bkk_307, h0Zrc_307, tkk_307, by (try dsimp only); omega, by (try dsimp only); omega, k0Zrc_307⟩⟩ (by (try dsimp only); omega)
                        · have := i_andr (a := (v54 >>> (x10_292 &&& 31))) (b := 1) (by omega)
                          have hq322 := i_ne hq322
                          exact lInr ⟨rfl, rfl, rfl, rfl, rfl, rfl, rfl, rfl, WLc_307, FLc_307, by (try dsimp only); omega, by (try dsimp only); omega, by (try dsimp only); omega, ⟨bkk_307, h0Zrc_307, tkk_307, by (try dsimp only); omega, by (try dsimp only); omega, k0Zrc_307⟩⟩
                    · exact ⟨rfl, rfl, rfl, rfl, rfl, rfl, rfl, rfl, WLc_292, Zfr.rf, by (try dsimp only); omega, by (try dsimp only); omega, by (try dsimp only); omega, by (try dsimp only); omega, by (try dsimp only); omega, ⟨bkk_292, h0Zrc_292, tkk_292, by (try dsimp only); omega, by (try dsimp only); omega, k0Zrc_292⟩⟩
                    · (try dsimp only); omega
                  obtain ⟨b, eb, hb⟩ := L306
                  refine wb eb ?_
                  clear eb
                  obtain ⟨z0_374, z1_374, z2_374, z3_374, z4_374, z5_374, z6_374, z7_374, z8_374, c_374⟩ := b
                  try dsimp only at hb ⊢
                  obtain ⟨rfl, rfl, rfl, rfl, rfl, rfl, rfl, rfl, WXc_374, FXc_374, j375, j376, j377, hXZrcc_374⟩ := hb
                  have e378 := (Zfr.gr FXc_374 t_a0 (by decide)).trans h0Zrc_292
                  have F379 := Zfr.tr FLc_292 FXc_374 (by decide)
                  obtain ⟨bkkxc_374, h0Zrcxc_374, tkkxc_374, r0Zrcxc_374, r1Zrcxc_374, k0Zrcxc_374⟩ := hXZrcc_374
                  unfold f_Mo_measure_345
                  have := i_add (a := x10_292) (b := 1) (by omega) (by omega)
                  exact lInl ⟨rfl, rfl, rfl, rfl, rfl, rfl, rfl, WXc_374, F379, by (try dsimp only); omega, by (try dsimp only); omega, by (try dsimp only); omega, by (try dsimp only); omega, by (try dsimp only); omega, ⟨bkkxc_374, h0Zrcxc_374, tkkxc_374, by (try dsimp only); omega, by (try dsimp only); omega, k0Zrcxc_374⟩⟩ (by (try dsimp only); omega)
              · exact ⟨rfl, rfl, rfl, rfl, rfl, rfl, rfl, WLc_279, Zfr.rf, by (try dsimp only); omega, by (try dsimp only); omega, by (try dsimp only); omega, by (try dsimp only); omega, by (try dsimp only); omega, ⟨bkk_279, h0Zrc_279, tkk_279, by (try dsimp only); omega, by (try dsimp only); omega, k0Zrc_279⟩⟩
              · (try dsimp only); omega
            obtain ⟨b, eb, hb⟩ := L291
            refine wb eb ?_
            clear eb
            obtain ⟨z0_382, z1_382, z2_382, z3_382, z4_382, c_382⟩ := b
            try dsimp only at hb ⊢
            obtain ⟨rfl, rfl, rfl, rfl, WXc_382, FXc_382, j383, j384, hXZrcc_382⟩ := hb
            have e385 := (Zfr.gr FXc_382 t_a0 (by decide)).trans h0Zrc_279
            have F386 := Zfr.tr FLc_279 FXc_382 (by decide)
            obtain ⟨bkkxc_382, h0Zrcxc_382, tkkxc_382, r0Zrcxc_382, r1Zrcxc_382, k0Zrcxc_382⟩ := hXZrcc_382
            exact lInl ⟨rfl, rfl, rfl, WXc_382, F386, by (try dsimp only); omega, by (try dsimp only); omega, by (try dsimp only); omega, by (try dsimp only); omega, ⟨bkkxc_382, h0Zrcxc_382, tkkxc_382, by (try dsimp only); omega, by (try dsimp only); omega, k0Zrcxc_382⟩⟩ (by (try dsimp only); omega)
          · have hq290 := i_ne hq290
            obtain ⟨v25, ev25, tv25⟩ := gf_64_42 WLc_279 t_a0
            refine wb ev25 ?_
            have := i_mull (a := 16) (b := a1) (n := 16) li_16 (by omega) (by omega)
            have := i_add (a := (16 * a1)) (b := v21) (by omega) (by omega)
            obtain ⟨v26, ev26, _⟩ := ga_95 WLc_279 tv25 (i := ((16 * a1) + v21)) (by omega) (by omega)
            refine wb ev26 ?_
            unfold f_Mo_measure_186
            unfold f_Mo_measure_191
            have := i_add (a := x4_279) (b := 1) (by omega) (by omega)
            have L388 : ∃ b, zlp (fun a : Nat × Int32 × Int32 × Int32 × Int32 × Int32 × Int32 × Int32 × Int32 × Zc => g_Mo_measure_191 nf a.1 a.2.1 a.2.2.1 a.2.2.2.1 a.2.2.2.2.1 a.2.2.2.2.2.1 a.2.2.2.2.2.2.1 a.2.2.2.2.2.2.2.1 a.2.2.2.2.2.2.2.2.1 a.2.2.2.2.2.2.2.2.2) nf (a0, a1, ((256 * y2) + (16 * a2)), (x4_279 + 1), x5_279, v19, v23, v26, 0, c_279) = some b ∧ (fun b : (Nat × Int32 × Int32 × Int32 × Int32 × Zc) => a0 = b.1 ∧ a1 = b.2.1 ∧ ((256 * y2) + (16 * a2)) = b.2.2.1 ∧ (x4_279 + 1) = b.2.2.2.1 ∧ Zwt zty G b.2.2.2.2.2 ∧ Zfr G ([(117, 0), (118, 0), (119, 0), (120, 0)] : List (Nat × Nat)) c_279 b.2.2.2.2.2 ∧ 1 ≤ b.2.2.2.2.1.toInt ∧ b.2.2.2.2.1.toInt ≤ 272 ∧ Zrc G b.2.2.2.2.2 a0 b.2.2.2.2.1) b := by
              refine wlp (fun a : Nat × Int32 × Int32 × Int32 × Int32 × Int32 × Int32 × Int32 × Int32 × Zc => a0 = a.1 ∧ a1 = a.2.1 ∧ ((256 * y2) + (16 * a2)) = a.2.2.1 ∧ (x4_279 + 1) = a.2.2.2.1 ∧ v19 = a.2.2.2.2.2.1 ∧ v23 = a.2.2.2.2.2.2.1 ∧ v26 = a.2.2.2.2.2.2.2.1 ∧ Zwt zty G a.2.2.2.2.2.2.2.2.2 ∧ Zfr G ([(117, 0), (118, 0), (119, 0), (120, 0)] : List (Nat × Nat)) c_279 a.2.2.2.2.2.2.2.2.2 ∧ 1 ≤ a.2.2.2.2.1.toInt ∧ a.2.2.2.2.1.toInt ≤ 272 ∧ 0 ≤ a.2.2.2.2.2.2.2.2.1.toInt ∧ a.2.2.2.2.2.2.2.2.1.toInt ≤ 16 ∧ v23.toInt < a.2.2.2.2.1.toInt ∧ Zrc G a.2.2.2.2.2.2.2.2.2 a0 a.2.2.2.2.1) (fun a => (16 - a.2.2.2.2.2.2.2.2.1.toInt).toNat) (fun b : (Nat × Int32 × Int32 × Int32 × Int32 × Zc) => a0 = b.1 ∧ a1 = b.2.1 ∧ ((256 * y2) + (16 * a2)) = b.2.2.1 ∧ (x4_279 + 1) = b.2.2.2.1 ∧ Zwt zty G b.2.2.2.2.2 ∧ Zfr G ([(117, 0), (118, 0), (119, 0), (120, 0)] : List (Nat × Nat)) c_279 b.2.2.2.2.2 ∧ 1 ≤ b.2.2.2.2.1.toInt ∧ b.2.2.2.2.1.toInt ≤ 272 ∧ Zrc G b.2.2.2.2.2 a0 b.2.2.2.2.1) ?_ ?_ ?_
              · rintro ⟨x0_389, x1_389, x3_389, x4_389, x5_389, x6_389, x8_389, x9_389, x10_389, c_389⟩ hI
                try dsimp only at hI ⊢
                obtain ⟨rfl, rfl, rfl, rfl, rfl, rfl, rfl, WLc_389, FLc_389, j390, j391, j392, j393, j394, hBZrc_389⟩ := hI
                have e395 := (Zfr.gr FLc_389 t_a0 (by decide)).trans h0Zrc_279
                have e396 := (Zfr.ai FLc_389 tv8 (by decide)).trans e285
                have e397 := (Zfr.gr FLc_389 t_a0 (by decide)).trans e286
                have e398 := (Zfr.gr FLc_389 t_a0 (by decide)).trans e287
                have e399 := (Zfr.gr FLc_389 t_a0 (by decide)).trans e288
                have e400 := (Zfr.ai FLc_389 tv25 (by decide)).trans ev26
                obtain ⟨bkk_389, h0Zrc_389, tkk_389, r0Zrc_389, r1Zrc_389, k0Zrc_389⟩ := hBZrc_389
                unfold g_Mo_measure_191
                obtain ⟨v27, ev27, tv27⟩ := gf_64_39 WLc_389 t_a0
                refine wb ev27 ?_
                obtain ⟨v28, ev28, lv28, uv28⟩ := ga_92 WLc_389 tv27 (i := a1) (by omega) (by omega)
                refine wb ev28 ?_
                refine wi (fun hq401 => ?_) (fun hq401 => ?_)
                · have hq401 := i_le hq401
                  exact lInr ⟨rfl, rfl, rfl, rfl, WLc_389, FLc_389, by (try dsimp only); omega, by (try dsimp only); omega, ⟨bkk_389, h0Zrc_389, tkk_389, by (try dsimp only); omega, by (try dsimp only); omega, k0Zrc_389⟩⟩
                · have hq401 := i_nle hq401
                  unfold f_Mo_measure_205
                  have L403 : ∃ b, zlp (fun a : Nat × Int32 × Int32 × Int32 × Int32 × Int32 × Int32 × Int32 × Int32 × Int32 × Zc => g_Mo_measure_205 nf a.1 a.2.1 a.2.2.1 a.2.2.2.1 a.2.2.2.2.1 a.2.2.2.2.2.1 a.2.2.2.2.2.2.1 a.2.2.2.2.2.2.2.1 a.2.2.2.2.2.2.2.2.1 a.2.2.2.2.2.2.2.2.2.1 a.2.2.2.2.2.2.2.2.2.2) nf (a0, a1, ((256 * y2) + (16 * a2)), (x4_279 + 1), x5_389, v19, v23, v26, x10_389, 0, c_389) = some b ∧ (fun b : (Nat × Int32 × Int32 × Int32 × Int32 × Int32 × Int32 × Int32 × Int32 × Zc) => a0 = b.1 ∧ a1 = b.2.1 ∧ ((256 * y2) + (16 * a2)) = b.2.2.1 ∧ (x4_279 + 1) = b.2.2.2.1 ∧ v19 = b.2.2.2.2.2.1 ∧ v23 = b.2.2.2.2.2.2.1 ∧ v26 = b.2.2.2.2.2.2.2.1 ∧ x10_389 = b.2.2.2.2.2.2.2.2.1 ∧ Zwt zty G b.2.2.2.2.2.2.2.2.2 ∧ Zfr G ([(117, 0), (118, 0), (119, 0), (120, 0)] : List (Nat × Nat)) c_389 b.2.2.2.2.2.2.2.2.2 ∧ 1 ≤ b.2.2.2.2.1.toInt ∧ b.2.2.2.2.1.toInt ≤ 272 ∧ v23.toInt < b.2.2.2.2.1.toInt ∧ Zrc G b.2.2.2.2.2.2.2.2.2 a0 b.2.2.2.2.1) b := by
                    refine wlp (fun a : Nat × Int32 × Int32 × Int32 × Int32 × Int32 × Int32 × Int32 × Int32 × Int32 × Zc => a0 = a.1 ∧ a1 = a.2.1 ∧ ((256 * y2) + (16 * a2)) = a.2.2.1 ∧ (x4_279 + 1) = a.2.2.2.1 ∧ v19 = a.2.2.2.2.2.1 ∧ v23 = a.2.2.2.2.2.2.1 ∧ v26 = a.2.2.2.2.2.2.2.1 ∧ x10_389 = a.2.2.2.2.2.2.2.2.1 ∧ Zwt zty G a.2.2.2.2.2.2.2.2.2.2 ∧ Zfr G ([(117, 0), (118, 0), (119, 0), (120, 0)] : List (Nat × Nat)) c_389 a.2.2.2.2.2.2.2.2.2.2 ∧ 1 ≤ a.2.2.2.2.1.toInt ∧ a.2.2.2.2.1.toInt ≤ 272 ∧ 0 ≤ a.2.2.2.2.2.2.2.2.2.1.toInt ∧ a.2.2.2.2.2.2.2.2.2.1.toInt ≤ 16 ∧ v23.toInt < a.2.2.2.2.1.toInt ∧ Zrc G a.2.2.2.2.2.2.2.2.2.2 a0 a.2.2.2.2.1) (fun a => (16 - a.2.2.2.2.2.2.2.2.2.1.toInt).toNat) (fun b : (Nat × Int32 × Int32 × Int32 × Int32 × Int32 × Int32 × Int32 × Int32 × Zc) => a0 = b.1 ∧ a1 = b.2.1 ∧ ((256 * y2) + (16 * a2)) = b.2.2.1 ∧ (x4_279 + 1) = b.2.2.2.1 ∧ v19 = b.2.2.2.2.2.1 ∧ v23 = b.2.2.2.2.2.2.1 ∧ v26 = b.2.2.2.2.2.2.2.1 ∧ x10_389 = b.2.2.2.2.2.2.2.2.1 ∧ Zwt zty G b.2.2.2.2.2.2.2.2.2 ∧ Zfr G ([(117, 0), (118, 0), (119, 0), (120, 0)] : List (Nat × Nat)) c_389 b.2.2.2.2.2.2.2.2.2 ∧ 1 ≤ b.2.2.2.2.1.toInt ∧ b.2.2.2.2.1.toInt ≤ 272 ∧ v23.toInt < b.2.2.2.2.1.toInt ∧ Zrc G b.2.2.2.2.2.2.2.2.2 a0 b.2.2.2.2.1) ?_ ?_ ?_
                    · rintro ⟨x0_404, x1_404, x3_404, x4_404, x5_404, x6_404, x8_404, x9_404, x10_404, x11_404, c_404⟩ hI
                      try dsimp only at hI ⊢
                      obtain ⟨rfl, rfl, rfl, rfl, rfl, rfl, rfl, rfl, WLc_404, FLc_404, j405, j406, j407, j408, j409, hBZrc_404⟩ := hI
                      have e410 := (Zfr.gr FLc_404 t_a0 (by decide)).trans h0Zrc_389
                      have e411 := (Zfr.ai FLc_404 tv8 (by decide)).trans e396
                      have e412 := (Zfr.gr FLc_404 t_a0 (by decide)).trans e397
                      have e413 := (Zfr.gr FLc_404 t_a0 (by decide)).trans e398
                      have e414 := (Zfr.gr FLc_404 t_a0 (by decide)).trans e399
                      have e415 := (Zfr.ai FLc_404 tv25 (by decide)).trans e400
                      have e416 := (Zfr.ai FLc_404 tv27 (by decide)).trans ev28
                      obtain ⟨bkk_404, h0Zrc_404, tkk_404, r0Zrc_404, r1Zrc_404, k0Zrc_404⟩ := hBZrc_404
                      unfold g_Mo_measure_205
                      obtain ⟨v30, ev30, lv30, uv30⟩ := gf_64_0 WLc_404 t_a0
                      refine wb ev30 ?_
                      refine wi (fun hq417 => ?_) (fun hq417 => ?_)
                      · have hq417 := i_le hq417
                        exact lInr ⟨rfl, rfl, rfl, rfl, rfl, rfl, rfl, rfl, WLc_404, FLc_404, by (try dsimp only); omega, by (try dsimp only); omega, by (try dsimp only); omega, ⟨bkk_404, h0Zrc_404, tkk_404, by (try dsimp only); omega, by (try dsimp only); omega, k0Zrc_404⟩⟩
                      · have hq417 := i_nle hq417
                        refine wi (fun hq419 => ?_) (fun hq419 => ?_)
                        · have := i_andr (a := (v26 >>> (x10_389 &&& 31))) (b := 1) (by omega)
                          have hq419 := i_eq hq419
                          refine wb h0Zrc_404 ?_
                          have := i_mull (a := 16) (b := x10_389) (n := 16) li_16 (by omega) (by omega)
                          have := i_add (a := (16 * x10_389)) (b := x11_404) (by omega) (by omega)
                          obtain ⟨v34, ev34, _⟩ := ga_120 WLc_404 tkk_404 (i := ((16 * x10_389) + x11_404)) (by omega) (by omega)
                          refine wb ev34 ?_
                          refine wi (fun hq420 => ?_) (fun hq420 => ?_)
                          · have := li_m1
                            have := i_ge v34
                            have := i_up v34
                            have hq420 := i_eq hq420
                            obtain ⟨w37, ew37⟩ := go_64 WLc_404 t_a0
                            refine wb ew37 ?_
                            have := i_add (a := (16 * a1)) (b := x10_389) (by omega) (by omega)
                            obtain ⟨q36, eq36, Wq36, fq36, pl0q36, pu0q36⟩ := p_Mo_leadsBy hn WLc_404 (a1 := ((16 * a1) + x10_389)) (a2 := v19) (a3 := x11_404) t_a0 (by omega) (by omega) (by omega) (by omega) (by omega) (by omega)
                            refine wb eq36 ?_
                            have e421 := (Zfr.gr fq36 t_a0 (by decide)).trans h0Zrc_404
                            have e422 := (Zfr.ai fq36 tv8 (by decide)).trans e411
                            have e423 := (Zfr.gr fq36 t_a0 (by decide)).trans e412
                            have e424 := (Zfr.gr fq36 t_a0 (by decide)).trans e413
                            have e425 := (Zfr.gr fq36 t_a0 (by decide)).trans e414
                            have e426 := (Zfr.ai fq36 tv25 (by decide)).trans e415
                            have e427 := (Zfr.ai fq36 tv27 (by decide)).trans e416
                            have e428 := (Zfr.ai fq36 tkk_404 (by decide)).trans ev34
                            have k429 := RcM_fr k0Zrc_404 fq36 tkk_404 (by decide)
                            have F430 := Zfr.tr FLc_404 fq36 (by decide)
                            refine wi (fun hq431 => ?_) (fun hq431 => ?_)
                            · have hq431 := i_eq hq431
                              unfold f_Mo_measure_339
                              have := i_add (a := x11_404) (b := 1) (by omega) (by omega)
                              exact lInl ⟨rfl, rfl, rfl, rfl, rfl, rfl, rfl, rfl, Wq36, F430, by (try dsimp only); omega, by (try dsimp only); omega, by (try dsimp only); omega, by (try dsimp only); omega, by (try dsimp only); omega, ⟨bkk_404, e421, tkk_404, by (try dsimp only); omega, by (try dsimp only); omega, k429⟩⟩ (by (try dsimp only); omega)
                            · have hq431 := i_ne hq431
                              refine wb e421 ?_
                              obtain ⟨c40, ec40, Wc40, fc40, gc40⟩ := pa_120 Wq36 tkk_404 (i := ((16 * x10_389) + x11_404)) (by omega) (by omega) (x := (v23 + 1)) (trivial)
                              refine wb ec40 ?_
                              have e433 := (Zfr.gr fc40 t_a0 (by decide)).trans e421
                              have e434 := (Zfr.ai fc40 tv8 (by decide)).trans e422
                              have e435 := (Zfr.gr fc40 t_a0 (by decide)).trans e423
                              have e436 := (Zfr.gr fc40 t_a0 (by decide)).trans e424
                              have e437 := (Zfr.gr fc40 t_a0 (by decide)).trans e425
                              have e438 := (Zfr.ai fc40 tv25 (by decide)).trans e426
                              have e439 := (Zfr.ai fc40 tv27 (by decide)).trans e427
                              have := RcM_b k429 e428 (by omega)
                              have := i_add (a := x5_404) (b := 1) (by omega) (by omega)
                              have := i_add (a := v23) (b := 1) (by omega) (by omega)
                              have k440 := RcM_w k429 e428 (by omega) ec40 (by omega) (by omega) (by omega)
                              have F441 := Zfr.tr F430 fc40 (by decide)
                              refine wb e436 ?_
                              obtain ⟨c42, ec42, Wc42, fc42, gc42⟩ := pa_118 Wc40 tv11 (i := x5_404) (by omega) (by omega) (x := x11_404) (rgi (by omega) (by omega))
                              refine wb ec42 ?_
                              have e442 := (Zfr.gr fc42 t_a0 (by decide)).trans e433
                              have e443 := (Zfr.ai fc42 tv8 (by decide)).trans e434
                              have e444 := (Zfr.gr fc42 t_a0 (by decide)).trans e435
                              have e445 := (Zfr.gr fc42 t_a0 (by decide)).trans e437
                              have e446 := (Zfr.ai fc42 tv25 (by decide)).trans e438
                              have e447 := (Zfr.ai fc42 tv27 (by decide)).trans e439
                              have e448 := (Zfr.ai fc42 tkk_404 (by decide)).trans gc40
                              have k449 := RcM_fr k440 fc42 tkk_404 (by decide)
                              have F450 := Zfr.tr F441 fc42 (by decide)
                              refine wb e445 ?_
                              obtain ⟨c44, ec44, Wc44, fc44, gc44⟩ := pa_119 Wc42 tv13 (i := x5_404) (by omega) (by omega) (x := x10_389) (rgi (by omega) (by omega))
                              refine wb ec44 ?_
                              have e451 := (Zfr.gr fc44 t_a0 (by decide)).trans e442
                              have e452 := (Zfr.ai fc44 tv8 (by decide)).trans e443
                              have e453 := (Zfr.gr fc44 t_a0 (by decide)).trans e444
                              have e454 := (Zfr.ai fc44 tv25 (by decide)).trans e446
                              have e455 := (Zfr.ai fc44 tv27 (by decide)).trans e447
                              have e456 := (Zfr.ai fc44 tkk_404 (by decide)).trans e448
                              have e457 := (Zfr.ai fc44 tv11 (by decide)).trans gc42
                              have k458 := RcM_fr k449 fc44 tkk_404 (by decide)
                              have F459 := Zfr.tr F450 fc44 (by decide)
                              obtain ⟨v45, ev45, tv45⟩ := gf_64_38 Wc44 t_a0
                              refine wb ev45 ?_
                              obtain ⟨v46, ev46, _⟩ := ga_91 Wc44 tv45 (i := a1) (by omega) (by omega)
                              refine wb ev46 ?_
                              refine wi (fun hq460 => ?_) (fun hq460 => ?_)
                              · have := i_andr (a := (v46 >>> (x10_389 &&& 31))) (b := 1) (by omega)
                                have hq460 := i_eq hq460
                                refine wb e453 ?_
                                have := i_add (a := ((256 * y2) + (16 * a2))) (b := x11_404) (by omega) (by omega)
                                obtain ⟨v49, ev49, _⟩ := ga_117 Wc44 tv55 (i := (((256 * y2) + (16 * a2)) + x11_404)) (by omega) (by omega)
                                refine wb ev49 ?_
                                refine wi (fun hq461 => ?_) (fun hq461 => ?_)
                                · have := i_ge v49
                                  have := i_up v49
                                  have hq461 := i_eq hq461
                                  refine wb e453 ?_
                                  obtain ⟨c52, ec52, Wc52, fc52, gc52⟩ := pa_117 Wc44 tv55 (i := (((256 * y2) + (16 * a2)) + x11_404)) (by omega) (by omega) (x := (v23 + 1)) (trivial)
                                  refine wb ec52 ?_
                                  have e462 := (Zfr.gr fc52 t_a0 (by decide)).trans e451
                                  have k463 := RcM_fr k458 fc52 tkk_404 (by decide)
                                  have F464 := Zfr.tr F459 fc52 (by decide)
                                  unfold f_Mo_measure_339
                                  have := i_add (a := x11_404) (b := 1) (by omega) (by omega)
                                  exact lInl ⟨rfl, rfl, rfl, rfl, rfl, rfl, rfl, rfl, Wc52, F464, by (try dsimp only); omega, by (try dsimp only); omega, by (try dsimp only); omega, by (try dsimp only); omega, by (try dsimp only); omega, ⟨bkk_404, e462, tkk_404, by (try dsimp only); omega, by (try dsimp only); omega, k463⟩⟩ (by (try dsimp only); omega)
                                · have := i_ge v49
                                  have := i_up v49
                                  have hq461 := i_ne hq461
                                  unfold f_Mo_measure_339
                                  have := i_add (a := x11_404) (b := 1) (by omega) (by omega)
                                  exact lInl ⟨rfl, rfl, rfl, rfl, rfl, rfl, rfl, rfl, Wc44, F459, by (try dsimp only); omega, by (try dsimp only); omega, by (try dsimp only); omega, by (try dsimp only); omega, by (try dsimp only); omega, ⟨bkk_404, e451, tkk_404, by (try dsimp only); omega, by (try dsimp only); omega, k458⟩⟩ (by (try dsimp only); omega)
                              · have := i_andr (a := (v46 >>> (x10_389 &&& 31))) (b := 1) (by omega)
                                have hq460 := i_ne hq460
                                unfold f_Mo_measure_339
                                have := i_add (a := x11_404) (b := 1) (by omega) (by omega)
                                exact lInl ⟨rfl, rfl, rfl, rfl, rfl, rfl, rfl, rfl, Wc44, F459, by (try dsimp only); omega, by (try dsimp only); omega, by (try dsimp only); omega, by (try dsimp only); omega, by (try dsimp only); omega, ⟨bkk_404, e451, tkk_404, by (try dsimp only); omega, by (try dsimp only); omega, k458⟩⟩ (by (try dsimp only); omega)
                          · have := li_m1
                            have := i_ge v34
                            have := i_up v34
                            have hq420 := i_ne hq420
                            unfold f_Mo_measure_339
                            have := i_add (a := x11_404) (b := 1) (by omega) (by omega)
                            exact lInl ⟨rfl, rfl, rfl, rfl, rfl, rfl, rfl, rfl, WLc_404, FLc_404, by (try dsimp only); omega, by (try dsimp only); omega, by (try dsimp only); omega, by (try dsimp only); omega, by (try dsimp only); omega, ⟨bkk_404, h0Zrc_404, tkk_404, by (try dsimp only); omega, by (try dsimp only); omega, k0Zrc_404⟩⟩ (by (try dsimp only); omega)
                        · have := i_andr (a := (v26 >>> (x10_389 &&& 31))) (b := 1) (by omega)
                          have hq419 := i_ne hq419
                          exact lInr ⟨rfl, rfl, rfl, rfl, rfl, rfl, rfl, rfl, WLc_404, FLc_404, by (try dsimp only); omega, by (try dsimp only); omega, by (try dsimp only); omega, ⟨bkk_404, h0Zrc_404, tkk_404, by (try dsimp only); omega, by (try dsimp only); omega, k0Zrc_404⟩⟩
                    · exact ⟨rfl, rfl, rfl, rfl, rfl, rfl, rfl, rfl, WLc_389, Zfr.rf, by (try dsimp only); omega, by (try dsimp only); omega, by (try dsimp only); omega, by (try dsimp only); omega, by (try dsimp only); omega, ⟨bkk_389, h0Zrc_389, tkk_389, by (try dsimp only); omega, by (try dsimp only); omega, k0Zrc_389⟩⟩
                    · (try dsimp only); omega
                  obtain ⟨b, eb, hb⟩ := L403
                  refine wb eb ?_
                  clear eb
                  obtain ⟨z0_471, z1_471, z2_471, z3_471, z4_471, z5_471, z6_471, z7_471, z8_471, c_471⟩ := b
                  try dsimp only at hb ⊢
                  obtain ⟨rfl, rfl, rfl, rfl, rfl, rfl, rfl, rfl, WXc_471, FXc_471, j472, j473, j474, hXZrcc_471⟩ := hb
                  have e475 := (Zfr.gr FXc_471 t_a0 (by decide)).trans h0Zrc_389
                  have F476 := Zfr.tr FLc_389 FXc_471 (by decide)
                  obtain ⟨bkkxc_471, h0Zrcxc_471, tkkxc_471, r0Zrcxc_471, r1Zrcxc_471, k0Zrcxc_471⟩ := hXZrcc_471
                  unfold f_Mo_measure_345
                  have := i_add (a := x10_389) (b := 1) (by omega) (by omega)
                  exact lInl ⟨rfl, rfl, rfl, rfl, rfl, rfl, rfl, WXc_471, F476, by (try dsimp only); omega, by (try dsimp only); omega, by (try dsimp only); omega, by (try dsimp only); omega, by (try dsimp only); omega, ⟨bkkxc_471, h0Zrcxc_471, tkkxc_471, by (try dsimp only); omega, by (try dsimp only); omega, k0Zrcxc_471⟩⟩ (by (try dsimp only); omega)
              · exact ⟨rfl, rfl, rfl, rfl, rfl, rfl, rfl, WLc_279, Zfr.rf, by (try dsimp only); omega, by (try dsimp only); omega, by (try dsimp only); omega, by (try dsimp only); omega, by (try dsimp only); omega, ⟨bkk_279, h0Zrc_279, tkk_279, by (try dsimp only); omega, by (try dsimp only); omega, k0Zrc_279⟩⟩
              · (try dsimp only); omega
            obtain ⟨b, eb, hb⟩ := L388
            refine wb eb ?_
            clear eb
            obtain ⟨z0_479, z1_479, z2_479, z3_479, z4_479, c_479⟩ := b
            try dsimp only at hb ⊢
            obtain ⟨rfl, rfl, rfl, rfl, WXc_479, FXc_479, j480, j481, hXZrcc_479⟩ := hb
            have e482 := (Zfr.gr FXc_479 t_a0 (by decide)).trans h0Zrc_279
            have F483 := Zfr.tr FLc_279 FXc_479 (by decide)
            obtain ⟨bkkxc_479, h0Zrcxc_479, tkkxc_479, r0Zrcxc_479, r1Zrcxc_479, k0Zrcxc_479⟩ := hXZrcc_479
            exact lInl ⟨rfl, rfl, rfl, WXc_479, F483, by (try dsimp only); omega, by (try dsimp only); omega, by (try dsimp only); omega, by (try dsimp only); omega, ⟨bkkxc_479, h0Zrcxc_479, tkkxc_479, by (try dsimp only); omega, by (try dsimp only); omega, k0Zrcxc_479⟩⟩ (by (try dsimp only); omega)
      · exact ⟨rfl, rfl, rfl, Wc16, Zfr.rf, by (try dsimp only); omega, by (try dsimp only); omega, by (try dsimp only); omega, by (try dsimp only); omega, ⟨bkkxc_26, e268, tkkxc_26, by (try dsimp only); omega, by (try dsimp only); omega, k276⟩⟩
      · (try dsimp only); omega
    obtain ⟨b, eb, hb⟩ := L278
    refine wb eb ?_
    clear eb
    obtain c_486 := b
    try dsimp only at hb ⊢
    obtain ⟨WXc_486, FXc_486⟩ := hb
    have F487 := Zfr.tr F277 FXc_486 (by decide)
    exact ⟨_, rfl, WXc_486, F487⟩

abbrev M_Mo_measureAll : List (Nat × Nat) := [(117, 0), (118, 0), (119, 0), (120, 0)]
set_option maxRecDepth 100000 in
set_option maxHeartbeats 400000 in
theorem p_Mo_measureAll {nf : Nat} (hn : 8589934592 ≤ nf) {G : List Nat} {c : Zc} (W : Zwt zty G c) {a0 : Nat}  (t_a0 : G[a0]? = some 64) : ∃ q, f_Mo_measureAll nf a0 c = some q ∧ Zwt zty G q ∧ Zfr G M_Mo_measureAll c q := by
  have F0 : Zfr G M_Mo_measureAll c c := Zfr.rf
  unfold f_Mo_measureAll
  unfold f_Mo_measureAll_2
  have := li_0
  have L1 : ∃ b, zlp (fun a : Nat × Int32 × Zc => g_Mo_measureAll_2 nf a.1 a.2.1 a.2.2) nf (a0, 0, c) = some b ∧ (fun b : (Zc) => Zwt zty G b ∧ Zfr G ([(117, 0), (118, 0), (119, 0), (120, 0)] : List (Nat × Nat)) c b) b := by
    refine wlp (fun a : Nat × Int32 × Zc => a0 = a.1 ∧ Zwt zty G a.2.2 ∧ Zfr G ([(117, 0), (118, 0), (119, 0), (120, 0)] : List (Nat × Nat)) c a.2.2 ∧ 0 ≤ a.2.1.toInt ∧ a.2.1.toInt ≤ 10) (fun a => (10 - a.2.1.toInt).toNat) (fun b : (Zc) => Zwt zty G b ∧ Zfr G ([(117, 0), (118, 0), (119, 0), (120, 0)] : List (Nat × Nat)) c b) ?_ ?_ ?_
    · rintro ⟨x0_2, x1_2, c_2⟩ hI
      try dsimp only at hI ⊢
      obtain ⟨rfl, WLc_2, FLc_2, j3, j4⟩ := hI
      unfold g_Mo_measureAll_2
      obtain ⟨v1, ev1, tv1⟩ := gf_64_31 WLc_2 t_a0
      refine wb ev1 ?_
      obtain ⟨v2, ev2, lv2, uv2⟩ := gf_64_25 WLc_2 t_a0
      refine wb ev2 ?_
      obtain ⟨v3, ev3, lv3, uv3⟩ := ga_84 WLc_2 tv1 (i := v2) (by omega) (by omega)
      refine wb ev3 ?_
      refine wi (fun hq5 => ?_) (fun hq5 => ?_)
      · have hq5 := i_le hq5
        exact lInr ⟨WLc_2, FLc_2⟩
      · have hq5 := i_nle hq5
        unfold f_Mo_measureAll_17
        have L6 : ∃ b, zlp (fun a : Nat × Int32 × Int32 × Zc => g_Mo_measureAll_17 nf a.1 a.2.1 a.2.2.1 a.2.2.2) nf (a0, x1_2, 0, c_2) = some b ∧ (fun b : (Nat × Int32 × Zc) => a0 = b.1 ∧ x1_2 = b.2.1 ∧ Zwt zty G b.2.2 ∧ Zfr G ([(117, 0), (118, 0), (119, 0), (120, 0)] : List (Nat × Nat)) c_2 b.2.2) b := by
          refine wlp (fun a : Nat × Int32 × Int32 × Zc => a0 = a.1 ∧ x1_2 = a.2.1 ∧ Zwt zty G a.2.2.2 ∧ Zfr G ([(117, 0), (118, 0), (119, 0), (120, 0)] : List (Nat × Nat)) c_2 a.2.2.2 ∧ 0 ≤ a.2.2.1.toInt ∧ a.2.2.1.toInt ≤ 16) (fun a => (16 - a.2.2.1.toInt).toNat) (fun b : (Nat × Int32 × Zc) => a0 = b.1 ∧ x1_2 = b.2.1 ∧ Zwt zty G b.2.2 ∧ Zfr G ([(117, 0), (118, 0), (119, 0), (120, 0)] : List (Nat × Nat)) c_2 b.2.2) ?_ ?_ ?_
          · rintro ⟨x0_7, x1_7, x2_7, c_7⟩ hI
            try dsimp only at hI ⊢
            obtain ⟨rfl, rfl, WLc_7, FLc_7, j8, j9⟩ := hI
            have e10 := (Zfr.gi FLc_7 t_a0 (by decide)).trans ev2
            unfold g_Mo_measureAll_17
            obtain ⟨v5, ev5, lv5, uv5⟩ := gf_64_0 WLc_7 t_a0
            refine wb ev5 ?_
            refine wi (fun hq11 => ?_) (fun hq11 => ?_)
            · have hq11 := i_le hq11
              exact lInr ⟨rfl, rfl, WLc_7, FLc_7⟩
            · have hq11 := i_nle hq11
              refine wb e10 ?_
              obtain ⟨w9, ew9⟩ := go_64 WLc_7 t_a0
              refine wb ew9 ?_
              have := li_11
              have := i_mull (a := 11) (b := v2) (n := 11) li_11 (by omega) (by omega)
              have := i_add (a := (11 * v2)) (b := x1_2) (by omega) (by omega)
              obtain ⟨q8, eq8, Wq8, fq8⟩ := p_Mo_measure hn WLc_7 (a1 := ((11 * v2) + x1_2)) (a2 := x2_7) t_a0 (by omega) (by omega) (by omega) (by omega) (by omega)
              refine wb eq8 ?_
              have F12 := Zfr.tr FLc_7 fq8 (by decide)
              have := li_1
              have := i_add (a := x2_7) (b := 1) (by omega) (by omega)
              exact lInl ⟨rfl, rfl, Wq8, F12, by (try dsimp only); omega, by (try dsimp only); omega⟩ (by (try dsimp only); omega)
          · exact ⟨rfl, rfl, WLc_2, Zfr.rf, by (try dsimp only); omega, by (try dsimp only); omega⟩
          · (try dsimp only); omega
        obtain ⟨b, eb, hb⟩ := L6
        refine wb eb ?_
        clear eb
        obtain ⟨z0_13, z1_13, c_13⟩ := b
        try dsimp only at hb ⊢
        obtain ⟨rfl, rfl, WXc_13, FXc_13⟩ := hb
        have F14 := Zfr.tr FLc_2 FXc_13 (by decide)
        have := li_1
        have := i_add (a := x1_2) (b := 1) (by omega) (by omega)
        exact lInl ⟨rfl, WXc_13, F14, by (try dsimp only); omega, by (try dsimp only); omega⟩ (by (try dsimp only); omega)
    · exact ⟨rfl, W, Zfr.rf, by (try dsimp only); omega, by (try dsimp only); omega⟩
    · (try dsimp only); omega
  obtain ⟨b, eb, hb⟩ := L1
  refine wb eb ?_
  clear eb
  obtain c_15 := b
  try dsimp only at hb ⊢
  obtain ⟨WXc_15, FXc_15⟩ := hb
  have F16 := Zfr.tr F0 FXc_15 (by decide)
  exact ⟨_, rfl, WXc_15, F16⟩

abbrev M_Mo_fits : List (Nat × Nat) := [(122, 0)]
set_option maxRecDepth 100000 in
set_option maxHeartbeats 400000 in
theorem p_Mo_fits {nf : Nat} (hn : 8589934592 ≤ nf) {G : List Nat} {c : Zc} (W : Zwt zty G c) {a0 : Nat} {a1 : Int32}  (t_a0 : G[a0]? = some 64) (pl_a1 : 0 ≤ a1.toInt) (pu_a1 : a1.toInt ≤ 79) (hb_Ztx : Ztx G c a0) : ∃ q, f_Mo_fits nf a0 a1 c = some q ∧ Zwt zty G q.2 ∧ Zfr G M_Mo_fits c q.2 ∧ 0 ≤ q.1.toInt ∧ q.1.toInt ≤ 1 := by
  have F0 : Zfr G M_Mo_fits c c := Zfr.rf
  unfold f_Mo_fits
  have k0Ztx0 := hb_Ztx
  unfold f_Mo_fits_4
  have := li_1
  have := li_0
  have L1 : ∃ b, zlp (fun a : Nat × Int32 × Int32 × Int32 × Zc => g_Mo_fits_4 nf a.1 a.2.1 a.2.2.1 a.2.2.2.1 a.2.2.2.2) nf (a0, a1, 1, 0, c) = some b ∧ (fun b : (Nat × Int32 × Int32 × Zc) => a0 = b.1 ∧ a1 = b.2.1 ∧ Zwt zty G b.2.2.2 ∧ Zfr G ([] : List (Nat × Nat)) c b.2.2.2 ∧ 0 ≤ b.2.2.1.toInt ∧ b.2.2.1.toInt ≤ 1) b := by
    refine wlp (fun a : Nat × Int32 × Int32 × Int32 × Zc => a0 = a.1 ∧ a1 = a.2.1 ∧ Zwt zty G a.2.2.2.2 ∧ Zfr G ([] : List (Nat × Nat)) c a.2.2.2.2 ∧ 0 ≤ a.2.2.1.toInt ∧ a.2.2.1.toInt ≤ 1 ∧ 0 ≤ a.2.2.2.1.toInt ∧ a.2.2.2.1.toInt ≤ 8) (fun a => (8 - a.2.2.2.1.toInt).toNat) (fun b : (Nat × Int32 × Int32 × Zc) => a0 = b.1 ∧ a1 = b.2.1 ∧ Zwt zty G b.2.2.2 ∧ Zfr G ([] : List (Nat × Nat)) c b.2.2.2 ∧ 0 ≤ b.2.2.1.toInt ∧ b.2.2.1.toInt ≤ 1) ?_ ?_ ?_
    · rintro ⟨x0_2, x1_2, x2_2, x3_2, c_2⟩ hI
      try dsimp only at hI ⊢
      obtain ⟨rfl, rfl, WLc_2, FLc_2, j3, j4, j5, j6⟩ := hI
      have k7 := TxM_fr k0Ztx0 FLc_2 t_a0 W (by decide)
      unfold g_Mo_fits_4
      obtain ⟨v1, ev1, tv1⟩ := gf_64_26 WLc_2 t_a0
      refine wb ev1 ?_
      obtain ⟨v2, ev2, lv2, uv2⟩ := gf_64_25 WLc_2 t_a0
      refine wb ev2 ?_
      obtain ⟨v3, ev3, lv3, uv3⟩ := ga_79 WLc_2 tv1 (i := v2) (by omega) (by omega)
      refine wb ev3 ?_
      refine wi (fun hq8 => ?_) (fun hq8 => ?_)
      · have hq8 := i_le hq8
        exact lInr ⟨rfl, rfl, WLc_2, FLc_2, by (try dsimp only); omega, by (try dsimp only); omega⟩
      · have hq8 := i_nle hq8
        refine wi (fun hq9 => ?_) (fun hq9 => ?_)
        · have hq9 := i_eq hq9
          exact lInr ⟨rfl, rfl, WLc_2, FLc_2, by (try dsimp only); omega, by (try dsimp only); omega⟩
        · have hq9 := i_ne hq9
          obtain ⟨v6, ev6, tv6⟩ := gf_64_30 WLc_2 t_a0
          refine wb ev6 ?_
          refine wb ev2 ?_
          have := li_80
          have := i_mull (a := 80) (b := v2) (n := 80) li_80 (by omega) (by omega)
          have := i_add (a := (80 * v2)) (b := a1) (by omega) (by omega)
          have := li_8
          have := i_mulr (a := ((80 * v2) + a1)) (b := 8) (n := 8) li_8 (by omega) (by omega)
          have := i_add (a := (((80 * v2) + a1) * 8)) (b := x3_2) (by omega) (by omega)
          obtain ⟨v8, ev8, _⟩ := ga_83 WLc_2 tv6 (i := ((((80 * v2) + a1) * 8) + x3_2)) (by omega) (by omega)
          refine wb ev8 ?_
          refine wi (fun hq10 => ?_) (fun hq10 => ?_)
          · have := i_ge v8
            have := i_up v8
            have hq10 := i_eq hq10
            unfold f_Mo_fits_66
            unfold f_Mo_fits_71
            have := i_add (a := x3_2) (b := 1) (by omega) (by omega)
            exact lInl ⟨rfl, rfl, WLc_2, FLc_2, by (try dsimp only); omega, by (try dsimp only); omega, by (try dsimp only); omega, by (try dsimp only); omega⟩ (by (try dsimp only); omega)
          · have := i_ge v8
            have := i_up v8
            have hq10 := i_ne hq10
            obtain ⟨v10, ev10, tv10⟩ := gf_64_1 WLc_2 t_a0
            refine wb ev10 ?_
            obtain ⟨v11, ev11, tv11⟩ := gf_64_74 WLc_2 t_a0
            refine wb ev11 ?_
            obtain ⟨v12, ev12, lv12, uv12⟩ := ga_121 WLc_2 tv11 (i := x3_2) (by omega) (by omega)
            refine wb ev12 ?_
            obtain ⟨v13, ev13, lv13, uv13⟩ := ga_65 WLc_2 tv10 (i := v12) (by omega) (by omega)
            refine wb ev13 ?_
            refine wi (fun hq11 => ?_) (fun hq11 => ?_)
            · have := i_andl (a := v13) (b := v8) (by omega)
              have hq11 := i_eq hq11
              unfold f_Mo_fits_66
              unfold f_Mo_fits_71
              have := i_add (a := x3_2) (b := 1) (by omega) (by omega)
              exact lInl ⟨rfl, rfl, WLc_2, FLc_2, by (try dsimp only); omega, by (try dsimp only); omega, by (try dsimp only); omega, by (try dsimp only); omega⟩ (by (try dsimp only); omega)
            · have := i_andl (a := v13) (b := v8) (by omega)
              have hq11 := i_ne hq11
              unfold f_Mo_fits_71
              have := i_add (a := x3_2) (b := 1) (by omega) (by omega)
              exact lInl ⟨rfl, rfl, WLc_2, FLc_2, by (try dsimp only); omega, by (try dsimp only); omega, by (try dsimp only); omega, by (try dsimp only); omega⟩ (by (try dsimp only); omega)
    · exact ⟨rfl, rfl, W, Zfr.rf, by (try dsimp only); omega, by (try dsimp only); omega, by (try dsimp only); omega, by (try dsimp only); omega⟩
    · (try dsimp only); omega
  obtain ⟨b, eb, hb⟩ := L1
  refine wb eb ?_
  clear eb
  obtain ⟨z0_12, z1_12, z2_12, c_12⟩ := b
  try dsimp only at hb ⊢
  obtain ⟨rfl, rfl, WXc_12, FXc_12, j13, j14⟩ := hb
  have k15 := TxM_fr k0Ztx0 FXc_12 t_a0 W (by decide)
  have F16 := Zfr.tr F0 FXc_12 (by decide)
  unfold f_Mo_fits_78
  obtain ⟨v15, ev15, lv15, uv15⟩ := gf_64_25 WXc_12 t_a0
  refine wb ev15 ?_
  unfold f_Mo_fits_86
  have := li_11
  have := i_mull (a := 11) (b := v15) (n := 11) li_11 (by omega) (by omega)
  have L17 : ∃ b, zlp (fun a : Nat × Int32 × Int32 × Int32 × Zc => g_Mo_fits_86 nf a.1 a.2.1 a.2.2.1 a.2.2.2.1 a.2.2.2.2) nf (a0, a1, z2_12, (11 * v15), c_12) = some b ∧ (fun b : (Int32 × Zc) => Zwt zty G b.2 ∧ Zfr G ([(122, 0)] : List (Nat × Nat)) c_12 b.2 ∧ 0 ≤ b.1.toInt ∧ b.1.toInt ≤ 1) b := by
    refine wlp (fun a : Nat × Int32 × Int32 × Int32 × Zc => a0 = a.1 ∧ a1 = a.2.1 ∧ Zwt zty G a.2.2.2.2 ∧ Zfr G ([(122, 0)] : List (Nat × Nat)) c_12 a.2.2.2.2 ∧ 0 ≤ a.2.2.1.toInt ∧ a.2.2.1.toInt ≤ 1 ∧ 0 ≤ a.2.2.2.1.toInt ∧ a.2.2.2.1.toInt ≤ 98 ∧ 11 * v15.toInt ≤ a.2.2.2.1.toInt) (fun a => (98 - a.2.2.2.1.toInt).toNat) (fun b : (Int32 × Zc) => Zwt zty G b.2 ∧ Zfr G ([(122, 0)] : List (Nat × Nat)) c_12 b.2 ∧ 0 ≤ b.1.toInt ∧ b.1.toInt ≤ 1) ?_ ?_ ?_
    · rintro ⟨x0_18, x1_18, x2_18, x3_18, c_18⟩ hI
      try dsimp only at hI ⊢
      obtain ⟨rfl, rfl, WLc_18, FLc_18, j19, j20, j21, j22, j23⟩ := hI
      have e24 := (Zfr.gi FLc_18 t_a0 (by decide)).trans ev15
      have k25 := TxM_fr k15 FLc_18 t_a0 WXc_12 (by decide)
      unfold g_Mo_fits_86
      refine wb e24 ?_
      obtain ⟨v17, ev17, tv17⟩ := gf_64_31 WLc_18 t_a0
      refine wb ev17 ?_
      refine wb e24 ?_
      obtain ⟨v19, ev19, lv19, uv19⟩ := ga_84 WLc_18 tv17 (i := v15) (by omega) (by omega)
      refine wb ev19 ?_
      refine wi (fun hq26 => ?_) (fun hq26 => ?_)
      · have := i_add (a := (11 * v15)) (b := v19) (by omega) (by omega)
        have hq26 := i_le hq26
        exact lInr ⟨WLc_18, FLc_18, by (try dsimp only); omega, by (try dsimp only); omega⟩
      · have := i_add (a := (11 * v15)) (b := v19) (by omega) (by omega)
        have hq26 := i_nle hq26
        refine wi (fun hq27 => ?_) (fun hq27 => ?_)
        · have hq27 := i_eq hq27
          exact lInr ⟨WLc_18, FLc_18, by (try dsimp only); omega, by (try dsimp only); omega⟩
        · have hq27 := i_ne hq27
          obtain ⟨v22, ev22, tv22⟩ := gf_64_32 WLc_18 t_a0
          refine wb ev22 ?_
          obtain ⟨v23, ev23, _⟩ := ga_85 WLc_18 tv22 (i := x3_18) (by omega) (by omega)
          refine wb ev23 ?_
          refine wi (fun hq28 => ?_) (fun hq28 => ?_)
          · have := i_ge v23
            have := i_up v23
            have hq28 := i_eq hq28
            obtain ⟨w26, ew26⟩ := go_64 WLc_18 t_a0
            refine wb ew26 ?_
            obtain ⟨w_32, ew_32, tw_32⟩ := gf_64_33 WLc_18 t_a0
            obtain ⟨w_33, ew_33, tw_33⟩ := gf_64_34 WLc_18 t_a0
            obtain ⟨w_34, ew_34, _⟩ := ga_86 WLc_18 tw_32 (i := x3_18) (by omega) (by omega)
            obtain ⟨w_35, ew_35, _⟩ := ga_87 WLc_18 tw_33 (i := x3_18) (by omega) (by omega)
            have := TxM_way k25 e24 ev17 ev19 ew_32 ew_33 (w := x3_18) (by omega) (by omega) ew_34 ew_35
            obtain ⟨q25, eq25, Wq25, fq25⟩ := p_Mo_distance hn WLc_18 (a1 := x3_18) t_a0 (by omega) (by omega) (by omega) (by omega) (by omega) (by omega) ew_32 ew_34 ew_33 ew_35 (by omega)
            refine wb eq25 ?_
            have e40 := (Zfr.ai fq25 tv17 (by decide)).trans ev19
            have e41 := (Zfr.ai fq25 tv22 (by decide)).trans ev23
            have e42 := (Zfr.ai fq25 tw_32 (by decide)).trans ew_34
            have e43 := (Zfr.ai fq25 tw_33 (by decide)).trans ew_35
            have k44 := TxM_fr k25 fq25 t_a0 WLc_18 (by decide)
            have F45 := Zfr.tr FLc_18 fq25 (by decide)
            refine wi (fun hq46 => ?_) (fun hq46 => ?_)
            · have := i_ge q25.1
              have := i_up q25.1
              have hq46 := i_lt hq46
              unfold f_Mo_fits_138
              obtain ⟨v28, ev28, tv28⟩ := gf_64_35 Wq25 t_a0
              refine wb ev28 ?_
              obtain ⟨v29, ev29, lv29, uv29⟩ := ga_88 Wq25 tv28 (i := x3_18) (by omega) (by omega)
              refine wb ev29 ?_
              refine wi (fun hq47 => ?_) (fun hq47 => ?_)
              · have hq47 := i_lt hq47
                unfold f_Mo_fits_161
                have := i_add (a := x3_18) (b := 1) (by omega) (by omega)
                exact lInl ⟨rfl, rfl, Wq25, F45, by (try dsimp only); omega, by (try dsimp only); omega, by (try dsimp only); omega, by (try dsimp only); omega, by (try dsimp only); omega⟩ (by (try dsimp only); omega)
              · have hq47 := i_nlt hq47
                obtain ⟨v31, ev31, tv31⟩ := gf_64_75 Wq25 t_a0
                refine wb ev31 ?_
                refine wb ev28 ?_
                refine wb ev29 ?_
                obtain ⟨c34, ec34, Wc34, fc34, gc34⟩ := pa_122 Wq25 tv31 (i := v29) (by omega) (by omega) (x := q25.1) (trivial)
                refine wb ec34 ?_
                have k48 := TxM_fr k44 fc34 t_a0 Wq25 (by decide)
                have F49 := Zfr.tr F45 fc34 (by decide)
                unfold f_Mo_fits_161
                have := i_add (a := x3_18) (b := 1) (by omega) (by omega)
                exact lInl ⟨rfl, rfl, Wc34, F49, by (try dsimp only); omega, by (try dsimp only); omega, by (try dsimp only); omega, by (try dsimp only); omega, by (try dsimp only); omega⟩ (by (try dsimp only); omega)
            · have := i_ge q25.1
              have := i_up q25.1
              have hq46 := i_nlt hq46
              unfold f_Mo_fits_138
              obtain ⟨v28, ev28, tv28⟩ := gf_64_35 Wq25 t_a0
              refine wb ev28 ?_
              obtain ⟨v29, ev29, lv29, uv29⟩ := ga_88 Wq25 tv28 (i := x3_18) (by omega) (by omega)
              refine wb ev29 ?_
              refine wi (fun hq50 => ?_) (fun hq50 => ?_)
              · have hq50 := i_lt hq50
                unfold f_Mo_fits_161
                have := i_add (a := x3_18) (b := 1) (by omega) (by omega)
                exact lInl ⟨rfl, rfl, Wq25, F45, by (try dsimp only); omega, by (try dsimp only); omega, by (try dsimp only); omega, by (try dsimp only); omega, by (try dsimp only); omega⟩ (by (try dsimp only); omega)
              · have hq50 := i_nlt hq50
                obtain ⟨v31, ev31, tv31⟩ := gf_64_75 Wq25 t_a0
                refine wb ev31 ?_
                refine wb ev28 ?_
                refine wb ev29 ?_
                obtain ⟨c34, ec34, Wc34, fc34, gc34⟩ := pa_122 Wq25 tv31 (i := v29) (by omega) (by omega) (x := q25.1) (trivial)
                refine wb ec34 ?_
                have k51 := TxM_fr k44 fc34 t_a0 Wq25 (by decide)
                have F52 := Zfr.tr F45 fc34 (by decide)
                unfold f_Mo_fits_161
                have := i_add (a := x3_18) (b := 1) (by omega) (by omega)
                exact lInl ⟨rfl, rfl, Wc34, F52, by (try dsimp only); omega, by (try dsimp only); omega, by (try dsimp only); omega, by (try dsimp only); omega, by (try dsimp only); omega⟩ (by (try dsimp only); omega)
          · have := i_ge v23
            have := i_up v23
            have hq28 := i_ne hq28
            unfold f_Mo_fits_161
            have := i_add (a := x3_18) (b := 1) (by omega) (by omega)
            exact lInl ⟨rfl, rfl, WLc_18, FLc_18, by (try dsimp only); omega, by (try dsimp only); omega, by (try dsimp only); omega, by (try dsimp only); omega, by (try dsimp only); omega⟩ (by (try dsimp only); omega)
    · exact ⟨rfl, rfl, WXc_12, Zfr.rf, by (try dsimp only); omega, by (try dsimp only); omega, by (try dsimp only); omega, by (try dsimp only); omega, by (try dsimp only); omega⟩
    · (try dsimp only); omega
  obtain ⟨b, eb, hb⟩ := L17
  refine wb eb ?_
  clear eb
  obtain ⟨z0_53, c_53⟩ := b
  try dsimp only at hb ⊢
  obtain ⟨WXc_53, FXc_53, j54, j55⟩ := hb
  have k56 := TxM_fr k15 FXc_53 t_a0 WXc_12 (by decide)
  have F57 := Zfr.tr F16 FXc_53 (by decide)
  unfold f_Mo_fits_167
  exact wz (rgi (by omega) (by omega)) ⟨WXc_53, F57, by (try dsimp only); omega, by (try dsimp only); omega⟩

end ZzT
