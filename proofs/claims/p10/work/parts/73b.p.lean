section ZzT
abbrev M_Mo_sortRows : List (Nat × Nat) := [(126, 0), (127, 0)]
set_option maxRecDepth 100000 in
set_option maxHeartbeats 400000 in
theorem p_Mo_sortRows {nf : Nat} (hn : 8589934592 ≤ nf) {G : List Nat} {c : Zc} (W : Zwt zty G c) {a0 : Nat}  (t_a0 : G[a0]? = some 64) : ∃ q, f_Mo_sortRows nf a0 c = some q ∧ Zwt zty G q ∧ Zfr G M_Mo_sortRows c q := by
  have F0 : Zfr G M_Mo_sortRows c c := Zfr.rf
  unfold f_Mo_sortRows
  unfold f_Mo_sortRows_2
  have := li_0
  have L1 : ∃ b, zlp (fun a : Nat × Int32 × Zc => g_Mo_sortRows_2 nf a.1 a.2.1 a.2.2) nf (a0, 0, c) = some b ∧ (fun b : (Nat × Zc) => a0 = b.1 ∧ Zwt zty G b.2 ∧ Zfr G ([(126, 0)] : List (Nat × Nat)) c b.2) b := by
    refine wlp (fun a : Nat × Int32 × Zc => a0 = a.1 ∧ Zwt zty G a.2.2 ∧ Zfr G ([(126, 0)] : List (Nat × Nat)) c a.2.2 ∧ 0 ≤ a.2.1.toInt ∧ a.2.1.toInt ≤ 20000) (fun a => (20000 - a.2.1.toInt).toNat) (fun b : (Nat × Zc) => a0 = b.1 ∧ Zwt zty G b.2 ∧ Zfr G ([(126, 0)] : List (Nat × Nat)) c b.2) ?_ ?_ ?_
    · rintro ⟨x0_2, x1_2, c_2⟩ hI
      try dsimp only at hI ⊢
      obtain ⟨rfl, WLc_2, FLc_2, j3, j4⟩ := hI
      unfold g_Mo_sortRows_2
      obtain ⟨v1, ev1, lv1, uv1⟩ := gf_64_81 WLc_2 t_a0
      refine wb ev1 ?_
      refine wi (fun hq5 => ?_) (fun hq5 => ?_)
      · have hq5 := i_le hq5
        exact lInr ⟨rfl, WLc_2, FLc_2⟩
      · have hq5 := i_nle hq5
        obtain ⟨v3, ev3, tv3⟩ := gf_64_79 WLc_2 t_a0
        refine wb ev3 ?_
        obtain ⟨c4, ec4, Wc4, fc4, gc4⟩ := pa_126 WLc_2 tv3 (i := x1_2) (by omega) (by omega) (x := x1_2) (rgi (by omega) (by omega))
        refine wb ec4 ?_
        have F6 := Zfr.tr FLc_2 fc4 (by decide)
        have := li_1
        have := i_add (a := x1_2) (b := 1) (by omega) (by omega)
        exact lInl ⟨rfl, Wc4, F6, by (try dsimp only); omega, by (try dsimp only); omega⟩ (by (try dsimp only); omega)
    · exact ⟨rfl, W, Zfr.rf, by (try dsimp only); omega, by (try dsimp only); omega⟩
    · (try dsimp only); omega
  obtain ⟨b, eb, hb⟩ := L1
  refine wb eb ?_
  clear eb
  obtain ⟨z0_7, c_7⟩ := b
  try dsimp only at hb ⊢
  obtain ⟨rfl, WXc_7, FXc_7⟩ := hb
  have F8 := Zfr.tr F0 FXc_7 (by decide)
  unfold f_Mo_sortRows_25
  have := li_1
  have L9 : ∃ b, zlp (fun a : Nat × Int32 × Zc => g_Mo_sortRows_25 nf a.1 a.2.1 a.2.2) nf (a0, 1, c_7) = some b ∧ (fun b : (Zc) => Zwt zty G b ∧ Zfr G ([(126, 0), (127, 0)] : List (Nat × Nat)) c_7 b) b := by
    refine wlp (fun a : Nat × Int32 × Zc => a0 = a.1 ∧ Zwt zty G a.2.2 ∧ Zfr G ([(126, 0), (127, 0)] : List (Nat × Nat)) c_7 a.2.2 ∧ 1 ≤ a.2.1.toInt ∧ a.2.1.toInt ≤ 39998) (fun a => (40000 - a.2.1.toInt).toNat) (fun b : (Zc) => Zwt zty G b ∧ Zfr G ([(126, 0), (127, 0)] : List (Nat × Nat)) c_7 b) ?_ ?_ ?_
    · rintro ⟨x0_10, x1_10, c_10⟩ hI
      try dsimp only at hI ⊢
      obtain ⟨rfl, WLc_10, FLc_10, j11, j12⟩ := hI
      unfold g_Mo_sortRows_25
      obtain ⟨v5, ev5, lv5, uv5⟩ := gf_64_81 WLc_10 t_a0
      refine wb ev5 ?_
      refine wi (fun hq13 => ?_) (fun hq13 => ?_)
      · have hq13 := i_le hq13
        exact lInr ⟨WLc_10, FLc_10⟩
      · have hq13 := i_nle hq13
        unfold f_Mo_sortRows_35
        have L14 : ∃ b, zlp (fun a : Nat × Int32 × Int32 × Zc => g_Mo_sortRows_35 nf a.1 a.2.1 a.2.2.1 a.2.2.2) nf (a0, x1_10, 0, c_10) = some b ∧ (fun b : (Nat × Int32 × Zc) => a0 = b.1 ∧ x1_10 = b.2.1 ∧ Zwt zty G b.2.2 ∧ Zfr G ([(127, 0)] : List (Nat × Nat)) c_10 b.2.2) b := by
          refine wlp (fun a : Nat × Int32 × Int32 × Zc => a0 = a.1 ∧ x1_10 = a.2.1 ∧ Zwt zty G a.2.2.2 ∧ Zfr G ([(127, 0)] : List (Nat × Nat)) c_10 a.2.2.2 ∧ 0 ≤ a.2.2.1.toInt ∧ a.2.2.1.toInt ≤ 59998) (fun a => (60000 - a.2.2.1.toInt).toNat) (fun b : (Nat × Int32 × Zc) => a0 = b.1 ∧ x1_10 = b.2.1 ∧ Zwt zty G b.2.2 ∧ Zfr G ([(127, 0)] : List (Nat × Nat)) c_10 b.2.2) ?_ ?_ ?_
          · rintro ⟨x0_15, x1_15, x2_15, c_15⟩ hI
            try dsimp only at hI ⊢
            obtain ⟨rfl, rfl, WLc_15, FLc_15, j16, j17⟩ := hI
            have e18 := (Zfr.gi FLc_15 t_a0 (by decide)).trans ev5
            unfold g_Mo_sortRows_35
            refine wb e18 ?_
            refine wi (fun hq19 => ?_) (fun hq19 => ?_)
            · have hq19 := i_le hq19
              exact lInr ⟨rfl, rfl, WLc_15, FLc_15⟩
            · have hq19 := i_nle hq19
              refine wb e18 ?_
              refine wi (fun hq20 => ?_) (fun hq20 => ?_)
              · have := i_add (a := x2_15) (b := x1_10) (by omega) (by omega)
                have hq20 := i_le hq20
                refine wb e18 ?_
                unfold f_Mo_sortRows_63
                refine wb e18 ?_
                refine wi (fun hq21 => ?_) (fun hq21 => ?_)
                · have := li_2
                  have := i_mull (a := 2) (b := x1_10) (n := 2) li_2 (by omega) (by omega)
                  have := i_add (a := x2_15) (b := (2 * x1_10)) (by omega) (by omega)
                  have hq21 := i_le hq21
                  refine wb e18 ?_
                  unfold f_Mo_sortRows_88
                  unfold f_Mo_sortRows_99
                  have L22 : ∃ b, zlp (fun a : Nat × Int32 × Int32 × Int32 × Int32 × Int32 × Int32 × Int32 × Zc => g_Mo_sortRows_99 nf a.1 a.2.1 a.2.2.1 a.2.2.2.1 a.2.2.2.2.1 a.2.2.2.2.2.1 a.2.2.2.2.2.2.1 a.2.2.2.2.2.2.2.1 a.2.2.2.2.2.2.2.2) nf (a0, x1_10, x2_15, v5, v5, x2_15, v5, x2_15, c_15) = some b ∧ (fun b : (Nat × Int32 × Int32 × Zc) => a0 = b.1 ∧ x1_10 = b.2.1 ∧ x2_15 = b.2.2.1 ∧ Zwt zty G b.2.2.2 ∧ Zfr G ([(127, 0)] : List (Nat × Nat)) c_15 b.2.2.2) b := by
                    refine wlp (fun a : Nat × Int32 × Int32 × Int32 × Int32 × Int32 × Int32 × Int32 × Zc => a0 = a.1 ∧ x1_10 = a.2.1 ∧ x2_15 = a.2.2.1 ∧ v5 = a.2.2.2.1 ∧ v5 = a.2.2.2.2.1 ∧ Zwt zty G a.2.2.2.2.2.2.2.2 ∧ Zfr G ([(127, 0)] : List (Nat × Nat)) c_15 a.2.2.2.2.2.2.2.2 ∧ 0 ≤ a.2.2.2.2.2.1.toInt ∧ a.2.2.2.2.2.1.toInt ≤ 20000 ∧ 0 ≤ a.2.2.2.2.2.2.1.toInt ∧ a.2.2.2.2.2.2.1.toInt ≤ 20000 ∧ 0 ≤ a.2.2.2.2.2.2.2.1.toInt ∧ a.2.2.2.2.2.2.2.1.toInt ≤ 20000 ∧ a.2.2.2.2.2.1.toInt ≤ a.2.2.2.2.2.2.2.1.toInt ∧ a.2.2.2.2.2.2.1.toInt ≤ v5.toInt ∧ a.2.2.2.2.2.2.2.1.toInt ≤ v5.toInt) (fun a => (20000 - a.2.2.2.2.2.2.2.1.toInt).toNat) (fun b : (Nat × Int32 × Int32 × Zc) => a0 = b.1 ∧ x1_10 = b.2.1 ∧ x2_15 = b.2.2.1 ∧ Zwt zty G b.2.2.2 ∧ Zfr G ([(127, 0)] : List (Nat × Nat)) c_15 b.2.2.2) ?_ ?_ ?_
                    · rintro ⟨x0_23, x1_23, x2_23, x3_23, x4_23, x5_23, x6_23, x7_23, c_23⟩ hI
                      try dsimp only at hI ⊢
                      obtain ⟨rfl, rfl, rfl, rfl, rfl, WLc_23, FLc_23, j24, j25, j26, j27, j28, j29, j30, j31, j32⟩ := hI
                      unfold g_Mo_sortRows_99
                      refine wi (fun hq33 => ?_) (fun hq33 => ?_)
                      · have hq33 := i_le hq33
                        exact lInr ⟨rfl, rfl, rfl, WLc_23, FLc_23⟩
                      · have hq33 := i_nle hq33
                        refine wi (fun hq34 => ?_) (fun hq34 => ?_)
                        · have hq34 := i_eq hq34
                          unfold f_Mo_sortRows_140
                          unfold f_Mo_sortRows_145
                          obtain ⟨v17, ev17, tv17⟩ := gf_64_80 WLc_23 t_a0
                          refine wb ev17 ?_
                          refine wi (fun hq35 => ?_) (fun hq35 => ?_)
                          · have hq35 := i_eq hq35
                            obtain ⟨v19, ev19, tv19⟩ := gf_64_79 WLc_23 t_a0
                            refine wb ev19 ?_
                            obtain ⟨v20, ev20, lv20, uv20⟩ := ga_126 WLc_23 tv19 (i := x6_23) (by omega) (by omega)
                            refine wb ev20 ?_
                            unfold f_Mo_sortRows_175
                            obtain ⟨c21, ec21, Wc21, fc21, gc21⟩ := pa_127 WLc_23 tv17 (i := x7_23) (by omega) (by omega) (x := v20) (rgi (by omega) (by omega))
                            refine wb ec21 ?_
                            have F36 := Zfr.tr FLc_23 fc21 (by decide)
                            refine wi (fun hq37 => ?_) (fun hq37 => ?_)
                            · have hq37 := i_eq hq37
                              unfold f_Mo_sortRows_188
                              refine wi (fun hq38 => ?_) (fun hq38 => ?_)
                              · have hq38 := i_eq hq38
                                unfold f_Mo_sortRows_203
                                have := i_add (a := x5_23) (b := 0) (by omega) (by omega)
                                have := i_add (a := x6_23) (b := 1) (by omega) (by omega)
                                have := i_add (a := x7_23) (b := 1) (by omega) (by omega)
                                exact lInl ⟨rfl, rfl, rfl, rfl, rfl, Wc21, F36, by (try dsimp only); omega, by (try dsimp only); omega, by (try dsimp only); omega, by (try dsimp only); omega, by (try dsimp only); omega, by (try dsimp only); omega, by (try dsimp only); omega, by (try dsimp only); omega, by (try dsimp only); omega⟩ (by (try dsimp only); omega)
                              · have hq38 := i_ne hq38
                                unfold f_Mo_sortRows_203
                                have := i_add (a := x5_23) (b := 0) (by omega) (by omega)
                                have := i_add (a := x6_23) (b := 0) (by omega) (by omega)
                                have := i_add (a := x7_23) (b := 1) (by omega) (by omega)
                                exact lInl ⟨rfl, rfl, rfl, rfl, rfl, Wc21, F36, by (try dsimp only); omega, by (try dsimp only); omega, by (try dsimp only); omega, by (try dsimp only); omega, by (try dsimp only); omega, by (try dsimp only); omega, by (try dsimp only); omega, by (try dsimp only); omega, by (try dsimp only); omega⟩ (by (try dsimp only); omega)
                            · have hq37 := i_ne hq37
                              unfold f_Mo_sortRows_188
                              refine wi (fun hq39 => ?_) (fun hq39 => ?_)
                              · have hq39 := i_eq hq39
                                unfold f_Mo_sortRows_203
                                have := i_add (a := x5_23) (b := 1) (by omega) (by omega)
                                have := i_add (a := x6_23) (b := 1) (by omega) (by omega)
                                have := i_add (a := x7_23) (b := 1) (by omega) (by omega)
                                exact lInl ⟨rfl, rfl, rfl, rfl, rfl, Wc21, F36, by (try dsimp only); omega, by (try dsimp only); omega, by (try dsimp only); omega, by (try dsimp only); omega, by (try dsimp only); omega, by (try dsimp only); omega, by (try dsimp only); omega, by (try dsimp only); omega, by (try dsimp only); omega⟩ (by (try dsimp only); omega)
                              · have hq39 := i_ne hq39
                                unfold f_Mo_sortRows_203
                                have := i_add (a := x5_23) (b := 1) (by omega) (by omega)
                                have := i_add (a := x6_23) (b := 0) (by omega) (by omega)
                                have := i_add (a := x7_23) (b := 1) (by omega) (by omega)
                                exact lInl ⟨rfl, rfl, rfl, rfl, rfl, Wc21, F36, by (try dsimp only); omega, by (try dsimp only); omega, by (try dsimp only); omega, by (try dsimp only); omega, by (try dsimp only); omega, by (try dsimp only); omega, by (try dsimp only); omega, by (try dsimp only); omega, by (try dsimp only); omega⟩ (by (try dsimp only); omega)
                          · have hq35 := i_ne hq35
                            obtain ⟨v24, ev24, tv24⟩ := gf_64_79 WLc_23 t_a0
                            refine wb ev24 ?_
                            obtain ⟨v25, ev25, lv25, uv25⟩ := ga_126 WLc_23 tv24 (i := x5_23) (by omega) (by omega)
                            refine wb ev25 ?_
                            unfold f_Mo_sortRows_175
                            obtain ⟨c21, ec21, Wc21, fc21, gc21⟩ := pa_127 WLc_23 tv17 (i := x7_23) (by omega) (by omega) (x := v25) (rgi (by omega) (by omega))
                            refine wb ec21 ?_
                            have F40 := Zfr.tr FLc_23 fc21 (by decide)
                            refine wi (fun hq41 => ?_) (fun hq41 => ?_)
                            · have hq41 := i_eq hq41
                              unfold f_Mo_sortRows_188
                              refine wi (fun hq42 => ?_) (fun hq42 => ?_)
                              · have hq42 := i_eq hq42
                                unfold f_Mo_sortRows_203
                                have := i_add (a := x5_23) (b := 0) (by omega) (by omega)
                                have := i_add (a := x6_23) (b := 1) (by omega) (by omega)
                                have := i_add (a := x7_23) (b := 1) (by omega) (by omega)
                                exact lInl ⟨rfl, rfl, rfl, rfl, rfl, Wc21, F40, by (try dsimp only); omega, by (try dsimp only); omega, by (try dsimp only); omega, by (try dsimp only); omega, by (try dsimp only); omega, by (try dsimp only); omega, by (try dsimp only); omega, by (try dsimp only); omega, by (try dsimp only); omega⟩ (by (try dsimp only); omega)
                              · have hq42 := i_ne hq42
                                unfold f_Mo_sortRows_203
                                have := i_add (a := x5_23) (b := 0) (by omega) (by omega)
                                have := i_add (a := x6_23) (b := 0) (by omega) (by omega)
                                have := i_add (a := x7_23) (b := 1) (by omega) (by omega)
                                exact lInl ⟨rfl, rfl, rfl, rfl, rfl, Wc21, F40, by (try dsimp only); omega, by (try dsimp only); omega, by (try dsimp only); omega, by (try dsimp only); omega, by (try dsimp only); omega, by (try dsimp only); omega, by (try dsimp only); omega, by (try dsimp only); omega, by (try dsimp only); omega⟩ (by (try dsimp only); omega)
                            · have hq41 := i_ne hq41
                              unfold f_Mo_sortRows_188
                              refine wi (fun hq43 => ?_) (fun hq43 => ?_)
                              · have hq43 := i_eq hq43
                                unfold f_Mo_sortRows_203
                                have := i_add (a := x5_23) (b := 1) (by omega) (by omega)
                                have := i_add (a := x6_23) (b := 1) (by omega) (by omega)
                                have := i_add (a := x7_23) (b := 1) (by omega) (by omega)
                                exact lInl ⟨rfl, rfl, rfl, rfl, rfl, Wc21, F40, by (try dsimp only); omega, by (try dsimp only); omega, by (try dsimp only); omega, by (try dsimp only); omega, by (try dsimp only); omega, by (try dsimp only); omega, by (try dsimp only); omega, by (try dsimp only); omega, by (try dsimp only); omega⟩ (by (try dsimp only); omega)
                              · have hq43 := i_ne hq43
                                unfold f_Mo_sortRows_203
                                have := i_add (a := x5_23) (b := 1) (by omega) (by omega)
                                have := i_add (a := x6_23) (b := 0) (by omega) (by omega)
                                have := i_add (a := x7_23) (b := 1) (by omega) (by omega)
                                exact lInl ⟨rfl, rfl, rfl, rfl, rfl, Wc21, F40, by (try dsimp only); omega, by (try dsimp only); omega, by (try dsimp only); omega, by (try dsimp only); omega, by (try dsimp only); omega, by (try dsimp only); omega, by (try dsimp only); omega, by (try dsimp only); omega, by (try dsimp only); omega⟩ (by (try dsimp only); omega)
                        · have hq34 := i_ne hq34
                          refine wi (fun hq44 => ?_) (fun hq44 => ?_)
                          · have hq44 := i_le hq44
                            unfold f_Mo_sortRows_144
                            unfold f_Mo_sortRows_145
                            obtain ⟨v17, ev17, tv17⟩ := gf_64_80 WLc_23 t_a0
                            refine wb ev17 ?_
                            refine wi (fun hq45 => ?_) (fun hq45 => ?_)
                            · have hq45 := i_eq hq45
                              obtain ⟨v19, ev19, tv19⟩ := gf_64_79 WLc_23 t_a0
                              refine wb ev19 ?_
                              obtain ⟨v20, ev20, lv20, uv20⟩ := ga_126 WLc_23 tv19 (i := x6_23) (by omega) (by omega)
                              refine wb ev20 ?_
                              unfold f_Mo_sortRows_175
                              obtain ⟨c21, ec21, Wc21, fc21, gc21⟩ := pa_127 WLc_23 tv17 (i := x7_23) (by omega) (by omega) (x := v20) (rgi (by omega) (by omega))
                              refine wb ec21 ?_
                              have F46 := Zfr.tr FLc_23 fc21 (by decide)
                              refine wi (fun hq47 => ?_) (fun hq47 => ?_)
                              · have hq47 := i_eq hq47
                                unfold f_Mo_sortRows_188
                                refine wi (fun hq48 => ?_) (fun hq48 => ?_)
                                · have hq48 := i_eq hq48
                                  unfold f_Mo_sortRows_203
                                  have := i_add (a := x5_23) (b := 0) (by omega) (by omega)
                                  have := i_add (a := x6_23) (b := 1) (by omega) (by omega)
                                  have := i_add (a := x7_23) (b := 1) (by omega) (by omega)
                                  exact lInl ⟨rfl, rfl, rfl, rfl, rfl, Wc21, F46, by (try dsimp only); omega, by (try dsimp only); omega, by (try dsimp only); omega, by (try dsimp only); omega, by (try dsimp only); omega, by (try dsimp only); omega, by (try dsimp only); omega, by (try dsimp only); omega, by (try dsimp only); omega⟩ (by (try dsimp only); omega)
                                · have hq48 := i_ne hq48
                                  unfold f_Mo_sortRows_203
                                  have := i_add (a := x5_23) (b := 0) (by omega) (by omega)
                                  have := i_add (a := x6_23) (b := 0) (by omega) (by omega)
                                  have := i_add (a := x7_23) (b := 1) (by omega) (by omega)
                                  exact lInl ⟨rfl, rfl, rfl, rfl, rfl, Wc21, F46, by (try dsimp only); omega, by (try dsimp only); omega, by (try dsimp only); omega, by (try dsimp only); omega, by (try dsimp only); omega, by (try dsimp only); omega, by (try dsimp only); omega, by (try dsimp only); omega, by (try dsimp only); omega⟩ (by (try dsimp only); omega)
                              · have hq47 := i_ne hq47
                                unfold f_Mo_sortRows_188
                                refine wi (fun hq49 => ?_) (fun hq49 => ?_)
                                · have hq49 := i_eq hq49
                                  unfold f_Mo_sortRows_203
                                  have := i_add (a := x5_23) (b := 1) (by omega) (by omega)
                                  have := i_add (a := x6_23) (b := 1) (by omega) (by omega)
                                  have := i_add (a := x7_23) (b := 1) (by omega) (by omega)
                                  exact lInl ⟨rfl, rfl, rfl, rfl, rfl, Wc21, F46, by (try dsimp only); omega, by (try dsimp only); omega, by (try dsimp only); omega, by (try dsimp only); omega, by (try dsimp only); omega, by (try dsimp only); omega, by (try dsimp only); omega, by (try dsimp only); omega, by (try dsimp only); omega⟩ (by (try dsimp only); omega)
                                · have hq49 := i_ne hq49
                                  unfold f_Mo_sortRows_203
                                  have := i_add (a := x5_23) (b := 1) (by omega) (by omega)
                                  have := i_add (a := x6_23) (b := 0) (by omega) (by omega)
                                  have := i_add (a := x7_23) (b := 1) (by omega) (by omega)
                                  exact lInl ⟨rfl, rfl, rfl, rfl, rfl, Wc21, F46, by (try dsimp only); omega, by (try dsimp only); omega, by (try dsimp only); omega, by (try dsimp only); omega, by (try dsimp only); omega, by (try dsimp only); omega, by (try dsimp only); omega, by (try dsimp only); omega, by (try dsimp only); omega⟩ (by (try dsimp only); omega)
                            · have hq45 := i_ne hq45
                              obtain ⟨v24, ev24, tv24⟩ := gf_64_79 WLc_23 t_a0
                              refine wb ev24 ?_
                              obtain ⟨v25, ev25, lv25, uv25⟩ := ga_126 WLc_23 tv24 (i := x5_23) (by omega) (by omega)
                              refine wb ev25 ?_
                              unfold f_Mo_sortRows_175
                              obtain ⟨c21, ec21, Wc21, fc21, gc21⟩ := pa_127 WLc_23 tv17 (i := x7_23) (by omega) (by omega) (x := v25) (rgi (by omega) (by omega))
                              refine wb ec21 ?_
                              have F50 := Zfr.tr FLc_23 fc21 (by decide)
                              refine wi (fun hq51 => ?_) (fun hq51 => ?_)
                              · have hq51 := i_eq hq51
                                unfold f_Mo_sortRows_188
                                refine wi (fun hq52 => ?_) (fun hq52 => ?_)
                                · have hq52 := i_eq hq52
                                  unfold f_Mo_sortRows_203
                                  have := i_add (a := x5_23) (b := 0) (by omega) (by omega)
                                  have := i_add (a := x6_23) (b := 1) (by omega) (by omega)
                                  have := i_add (a := x7_23) (b := 1) (by omega) (by omega)
                                  exact lInl ⟨rfl, rfl, rfl, rfl, rfl, Wc21, F50, by (try dsimp only); omega, by (try dsimp only); omega, by (try dsimp only); omega, by (try dsimp only); omega, by (try dsimp only); omega, by (try dsimp only); omega, by (try dsimp only); omega, by (try dsimp only); omega, by (try dsimp only); omega⟩ (by (try dsimp only); omega)
                                · have hq52 := i_ne hq52
                                  unfold f_Mo_sortRows_203
                                  have := i_add (a := x5_23) (b := 0) (by omega) (by omega)
                                  have := i_add (a := x6_23) (b := 0) (by omega) (by omega)
                                  have := i_add (a := x7_23) (b := 1) (by omega) (by omega)
                                  exact lInl ⟨rfl, rfl, rfl, rfl, rfl, Wc21, F50, by (try dsimp only); omega, by (try dsimp only); omega, by (try dsimp only); omega, by (try dsimp only); omega, by (try dsimp only); omega, by (try dsimp only); omega, by (try dsimp only); omega, by (try dsimp only); omega, by (try dsimp only); omega⟩ (by (try dsimp only); omega)
                              · have hq51 := i_ne hq51
                                unfold f_Mo_sortRows_188
                                refine wi (fun hq53 => ?_) (fun hq53 => ?_)
                                · have hq53 := i_eq hq53
                                  unfold f_Mo_sortRows_203
                                  have := i_add (a := x5_23) (b := 1) (by omega) (by omega)
                                  have := i_add (a := x6_23) (b := 1) (by omega) (by omega)
                                  have := i_add (a := x7_23) (b := 1) (by omega) (by omega)
                                  exact lInl ⟨rfl, rfl, rfl, rfl, rfl, Wc21, F50, by (try dsimp only); omega, by (try dsimp only); omega, by (try dsimp only); omega, by (try dsimp only); omega, by (try dsimp only); omega, by (try dsimp only); omega, by (try dsimp only); omega, by (try dsimp only); omega, by (try dsimp only); omega⟩ (by (try dsimp only); omega)
                                · have hq53 := i_ne hq53
                                  unfold f_Mo_sortRows_203
                                  have := i_add (a := x5_23) (b := 1) (by omega) (by omega)
                                  have := i_add (a := x6_23) (b := 0) (by omega) (by omega)
                                  have := i_add (a := x7_23) (b := 1) (by omega) (by omega)
                                  exact lInl ⟨rfl, rfl, rfl, rfl, rfl, Wc21, F50, by (try dsimp only); omega, by (try dsimp only); omega, by (try dsimp only); omega, by (try dsimp only); omega, by (try dsimp only); omega, by (try dsimp only); omega, by (try dsimp only); omega, by (try dsimp only); omega, by (try dsimp only); omega⟩ (by (try dsimp only); omega)
                          · have hq44 := i_nle hq44
                            obtain ⟨v27, ev27, tv27⟩ := gf_64_79 WLc_23 t_a0
                            refine wb ev27 ?_
                            obtain ⟨v28, ev28, lv28, uv28⟩ := ga_126 WLc_23 tv27 (i := x5_23) (by omega) (by omega)
                            refine wb ev28 ?_
                            refine wb ev27 ?_
                            obtain ⟨v30, ev30, lv30, uv30⟩ := ga_126 WLc_23 tv27 (i := x6_23) (by omega) (by omega)
                            refine wb ev30 ?_
                            obtain ⟨w32, ew32⟩ := go_64 WLc_23 t_a0
                            refine wb ew32 ?_
                            obtain ⟨q31, eq31, Wq31, fq31, po0q31⟩ := p_Mo_compareRows hn WLc_23 (a1 := v28) (a2 := v30) t_a0 (by omega) (by omega) (by omega) (by omega)
                            refine wb eq31 ?_
                            have e54 := (Zfr.gr fq31 t_a0 (by decide)).trans ev27
                            have e55 := (Zfr.ai fq31 tv27 (by decide)).trans ev28
                            have e56 := (Zfr.ai fq31 tv27 (by decide)).trans ev30
                            have F57 := Zfr.tr FLc_23 fq31 (by decide)
                            refine wi (fun hq58 => ?_) (fun hq58 => ?_)
                            · have := i_ge q31.1
                              have := i_up q31.1
                              have hq58 := i_lt hq58
                              unfold f_Mo_sortRows_144
                              unfold f_Mo_sortRows_145
                              obtain ⟨v17, ev17, tv17⟩ := gf_64_80 Wq31 t_a0
                              refine wb ev17 ?_
                              refine wi (fun hq59 => ?_) (fun hq59 => ?_)
                              · have hq59 := i_eq hq59
                                refine wb e54 ?_
                                refine wb e56 ?_
                                unfold f_Mo_sortRows_175
                                obtain ⟨c21, ec21, Wc21, fc21, gc21⟩ := pa_127 Wq31 tv17 (i := x7_23) (by omega) (by omega) (x := v30) (rgi (by omega) (by omega))
                                refine wb ec21 ?_
                                have F60 := Zfr.tr F57 fc21 (by decide)
                                refine wi (fun hq61 => ?_) (fun hq61 => ?_)
                                · have hq61 := i_eq hq61
                                  unfold f_Mo_sortRows_188
                                  refine wi (fun hq62 => ?_) (fun hq62 => ?_)
                                  · have hq62 := i_eq hq62
                                    unfold f_Mo_sortRows_203
                                    have := i_add (a := x5_23) (b := 0) (by omega) (by omega)
                                    have := i_add (a := x6_23) (b := 1) (by omega) (by omega)
                                    have := i_add (a := x7_23) (b := 1) (by omega) (by omega)
                                    exact lInl ⟨rfl, rfl, rfl, rfl, rfl, Wc21, F60, by (try dsimp only); omega, by (try dsimp only); omega, by (try dsimp only); omega, by (try dsimp only); omega, by (try dsimp only); omega, by (try dsimp only); omega, by (try dsimp only); omega, by (try dsimp only); omega, by (try dsimp only); omega⟩ (by (try dsimp only); omega)
                                  · have hq62 := i_ne hq62
                                    unfold f_Mo_sortRows_203
                                    have := i_add (a := x5_23) (b := 0) (by omega) (by omega)
                                    have := i_add (a := x6_23) (b := 0) (by omega) (by omega)
                                    have := i_add (a := x7_23) (b := 1) (by omega) (by omega)
                                    exact lInl ⟨rfl, rfl, rfl, rfl, rfl, Wc21, F60, by (try dsimp only); omega, by (try dsimp only); omega, by (try dsimp only); omega, by (try dsimp only); omega, by (try dsimp only); omega, by (try dsimp only); omega, by (try dsimp only); omega, by (try dsimp only); omega, by (try dsimp only); omega⟩ (by (try dsimp only); omega)
                                · have hq61 := i_ne hq61
                                  unfold f_Mo_sortRows_188
                                  refine wi (fun hq63 => ?_) (fun hq63 => ?_)
                                  · have hq63 := i_eq hq63
                                    unfold f_Mo_sortRows_203
                                    have := i_add (a := x5_23) (b := 1) (by omega) (by omega)
                                    have := i_add (a := x6_23) (b := 1) (by omega) (by omega)
                                    have := i_add (a := x7_23) (b := 1) (by omega) (by omega)
                                    exact lInl ⟨rfl, rfl, rfl, rfl, rfl, Wc21, F60, by (try dsimp only); omega, by (try dsimp only); omega, by (try dsimp only); omega, by (try dsimp only); omega, by (try dsimp only); omega, by (try dsimp only); omega, by (try dsimp only); omega, by (try dsimp only); omega, by (try dsimp only); omega⟩ (by (try dsimp only); omega)
                                  · have hq63 := i_ne hq63
                                    unfold f_Mo_sortRows_203
                                    have := i_add (a := x5_23) (b := 1) (by omega) (by omega)
                                    have := i_add (a := x6_23) (b := 0) (by omega) (by omega)
                                    have := i_add (a := x7_23) (b := 1) (by omega) (by omega)
                                    exact lInl ⟨rfl, rfl, rfl, rfl, rfl, Wc21, F60, by (try dsimp only); omega, by (try dsimp only); omega, by (try dsimp only); omega, by (try dsimp only); omega, by (try dsimp only); omega, by (try dsimp only); omega, by (try dsimp only); omega, by (try dsimp only); omega, by (try dsimp only); omega⟩ (by (try dsimp only); omega)
                              · have hq59 := i_ne hq59
                                refine wb e54 ?_
                                refine wb e55 ?_
                                unfold f_Mo_sortRows_175
                                obtain ⟨c21, ec21, Wc21, fc21, gc21⟩ := pa_127 Wq31 tv17 (i := x7_23) (by omega) (by omega) (x := v28) (rgi (by omega) (by omega))
                                refine wb ec21 ?_
                                have F64 := Zfr.tr F57 fc21 (by decide)
                                refine wi (fun hq65 => ?_) (fun hq65 => ?_)
                                · have hq65 := i_eq hq65
                                  unfold f_Mo_sortRows_188
                                  refine wi (fun hq66 => ?_) (fun hq66 => ?_)
                                  · have hq66 := i_eq hq66
                                    unfold f_Mo_sortRows_203
                                    have := i_add (a := x5_23) (b := 0) (by omega) (by omega)
                                    have := i_add (a := x6_23) (b := 1) (by omega) (by omega)
                                    have := i_add (a := x7_23) (b := 1) (by omega) (by omega)
                                    exact lInl ⟨rfl, rfl, rfl, rfl, rfl, Wc21, F64, by (try dsimp only); omega, by (try dsimp only); omega, by (try dsimp only); omega, by (try dsimp only); omega, by (try dsimp only); omega, by (try dsimp only); omega, by (try dsimp only); omega, by (try dsimp only); omega, by (try dsimp only); omega⟩ (by (try dsimp only); omega)
                                  · have hq66 := i_ne hq66
                                    unfold f_Mo_sortRows_203
                                    have := i_add (a := x5_23) (b := 0) (by omega) (by omega)
                                    have := i_add (a := x6_23) (b := 0) (by omega) (by omega)
                                    have := i_add (a := x7_23) (b := 1) (by omega) (by omega)
                                    exact lInl ⟨rfl, rfl, rfl, rfl, rfl, Wc21, F64, by (try dsimp only); omega, by (try dsimp only); omega, by (try dsimp only); omega, by (try dsimp only); omega, by (try dsimp only); omega, by (try dsimp only); omega, by (try dsimp only); omega, by (try dsimp only); omega, by (try dsimp only); omega⟩ (by (try dsimp only); omega)
                                · have hq65 := i_ne hq65
                                  unfold f_Mo_sortRows_188
                                  refine wi (fun hq67 => ?_) (fun hq67 => ?_)
                                  · have hq67 := i_eq hq67
                                    unfold f_Mo_sortRows_203
                                    have := i_add (a := x5_23) (b := 1) (by omega) (by omega)
                                    have := i_add (a := x6_23) (b := 1) (by omega) (by omega)
                                    have := i_add (a := x7_23) (b := 1) (by omega) (by omega)
                                    exact lInl ⟨rfl, rfl, rfl, rfl, rfl, Wc21, F64, by (try dsimp only); omega, by (try dsimp only); omega, by (try dsimp only); omega, by (try dsimp only); omega, by (try dsimp only); omega, by (try dsimp only); omega, by (try dsimp only); omega, by (try dsimp only); omega, by (try dsimp only); omega⟩ (by (try dsimp only); omega)
                                  · have hq67 := i_ne hq67
                                    unfold f_Mo_sortRows_203
                                    have := i_add (a := x5_23) (b := 1) (by omega) (by omega)
                                    have := i_add (a := x6_23) (b := 0) (by omega) (by omega)
                                    have := i_add (a := x7_23) (b := 1) (by omega) (by omega)
                                    exact lInl ⟨rfl, rfl, rfl, rfl, rfl, Wc21, F64, by (try dsimp only); omega, by (try dsimp only); omega, by (try dsimp only); omega, by (try dsimp only); omega, by (try dsimp only); omega, by (try dsimp only); omega, by (try dsimp only); omega, by (try dsimp only); omega, by (try dsimp only); omega⟩ (by (try dsimp only); omega)
                            · have := i_ge q31.1
                              have := i_up q31.1
                              have hq58 := i_nlt hq58
                              unfold f_Mo_sortRows_140
                              unfold f_Mo_sortRows_145
                              obtain ⟨v17, ev17, tv17⟩ := gf_64_80 Wq31 t_a0
                              refine wb ev17 ?_
                              refine wi (fun hq68 => ?_) (fun hq68 => ?_)
                              · have hq68 := i_eq hq68
                                refine wb e54 ?_
                                refine wb e56 ?_
                                unfold f_Mo_sortRows_175
                                obtain ⟨c21, ec21, Wc21, fc21, gc21⟩ := pa_127 Wq31 tv17 (i := x7_23) (by omega) (by omega) (x := v30) (rgi (by omega) (by omega))
                                refine wb ec21 ?_
                                have F69 := Zfr.tr F57 fc21 (by decide)
                                refine wi (fun hq70 => ?_) (fun hq70 => ?_)
                                · have hq70 := i_eq hq70
                                  unfold f_Mo_sortRows_188
                                  refine wi (fun hq71 => ?_) (fun hq71 => ?_)
                                  · have hq71 := i_eq hq71
                                    unfold f_Mo_sortRows_203
                                    have := i_add (a := x5_23) (b := 0) (by omega) (by omega)
                                    have := i_add (a := x6_23) (b := 1) (by omega) (by omega)
                                    have := i_add (a := x7_23) (b := 1) (by omega) (by omega)
                                    exact lInl ⟨rfl, rfl, rfl, rfl, rfl, Wc21, F69, by (try dsimp only); omega, by (try dsimp only); omega, by (try dsimp only); omega, by (try dsimp only); omega, by (try dsimp only); omega, by (try dsimp only); omega, by (try dsimp only); omega, by (try dsimp only); omega, by (try dsimp only); omega⟩ (by (try dsimp only); omega)
                                  · have hq71 := i_ne hq71
                                    unfold f_Mo_sortRows_203
                                    have := i_add (a := x5_23) (b := 0) (by omega) (by omega)
                                    have := i_add (a := x6_23) (b := 0) (by omega) (by omega)
                                    have := i_add (a := x7_23) (b := 1) (by omega) (by omega)
                                    exact lInl ⟨rfl, rfl, rfl, rfl, rfl, Wc21, F69, by (try dsimp only); omega, by (try dsimp only); omega, by (try dsimp only); omega, by (try dsimp only); omega, by (try dsimp only); omega, by (try dsimp only); omega, by (try dsimp only); omega, by (try dsimp only); omega, by (try dsimp only); omega⟩ (by (try dsimp only); omega)
                                · have hq70 := i_ne hq70
                                  unfold f_Mo_sortRows_188
                                  refine wi (fun hq72 => ?_) (fun hq72 => ?_)
                                  · have hq72 := i_eq hq72
                                    unfold f_Mo_sortRows_203
                                    have := i_add (a := x5_23) (b := 1) (by omega) (by omega)
                                    have := i_add (a := x6_23) (b := 1) (by omega) (by omega)
                                    have := i_add (a := x7_23) (b := 1) (by omega) (by omega)
                                    exact lInl ⟨rfl, rfl, rfl, rfl, rfl, Wc21, F69, by (try dsimp only); omega, by (try dsimp only); omega, by (try dsimp only); omega, by (try dsimp only); omega, by (try dsimp only); omega, by (try dsimp only); omega, by (try dsimp only); omega, by (try dsimp only); omega, by (try dsimp only); omega⟩ (by (try dsimp only); omega)
                                  · have hq72 := i_ne hq72
                                    unfold f_Mo_sortRows_203
                                    have := i_add (a := x5_23) (b := 1) (by omega) (by omega)
                                    have := i_add (a := x6_23) (b := 0) (by omega) (by omega)
                                    have := i_add (a := x7_23) (b := 1) (by omega) (by omega)
                                    exact lInl ⟨rfl, rfl, rfl, rfl, rfl, Wc21, F69, by (try dsimp only); omega, by (try dsimp only); omega, by (try dsimp only); omega, by (try dsimp only); omega, by (try dsimp only); omega, by (try dsimp only); omega, by (try dsimp only); omega, by (try dsimp only); omega, by (try dsimp only); omega⟩ (by (try dsimp only); omega)
                              · have hq68 := i_ne hq68
                                refine wb e54 ?_
                                refine wb e55 ?_
                                unfold f_Mo_sortRows_175
                                obtain ⟨c21, ec21, Wc21, fc21, gc21⟩ := pa_127 Wq31 tv17 (i := x7_23) (by omega) (by omega) (x := v28) (rgi (by omega) (by omega))
                                refine wb ec21 ?_
                                have F73 := Zfr.tr F57 fc21 (by decide)
                                refine wi (fun hq74 => ?_) (fun hq74 => ?_)
                                · have hq74 := i_eq hq74
                                  unfold f_Mo_sortRows_188
                                  refine wi (fun hq75 => ?_) (fun hq75 => ?_)
                                  · have hq75 := i_eq hq75
                                    unfold f_Mo_sortRows_203
                                    have := i_add (a := x5_23) (b := 0) (by omega) (by omega)
                                    have := i_add (a := x6_23) (b := 1) (by omega) (by omega)
                                    have := i_add (a := x7_23) (b := 1) (by omega) (by omega)
                                    exact lInl ⟨rfl, rfl, rfl, rfl, rfl, Wc21, F73, by (try dsimp only); omega, by (try dsimp only); omega, by (try dsimp only); omega, by (try dsimp only); omega, by (try dsimp only); omega, by (try dsimp only); omega, by (try dsimp only); omega, by (try dsimp only); omega, by (try dsimp only); omega⟩ (by (try dsimp only); omega)
                                  · have hq75 := i_ne hq75
                                    unfold f_Mo_sortRows_203
                                    have := i_add (a := x5_23) (b := 0) (by omega) (by omega)
                                    have := i_add (a := x6_23) (b := 0) (by omega) (by omega)
                                    have := i_add (a := x7_23) (b := 1) (by omega) (by omega)
                                    exact lInl ⟨rfl, rfl, rfl, rfl, rfl, Wc21, F73, by (try dsimp only); omega, by (try dsimp only); omega, by (try dsimp only); omega, by (try dsimp only); omega, by (try dsimp only); omega, by (try dsimp only); omega, by (try dsimp only); omega, by (try dsimp only); omega, by (try dsimp only); omega⟩ (by (try dsimp only); omega)
                                · have hq74 := i_ne hq74
                                  unfold f_Mo_sortRows_188
                                  refine wi (fun hq76 => ?_) (fun hq76 => ?_)
                                  · have hq76 := i_eq hq76
                                    unfold f_Mo_sortRows_203
                                    have := i_add (a := x5_23) (b := 1) (by omega) (by omega)
                                    have := i_add (a := x6_23) (b := 1) (by omega) (by omega)
                                    have := i_add (a := x7_23) (b := 1) (by omega) (by omega)
                                    exact lInl ⟨rfl, rfl, rfl, rfl, rfl, Wc21, F73, by (try dsimp only); omega, by (try dsimp only); omega, by (try dsimp only); omega, by (try dsimp only); omega, by (try dsimp only); omega, by (try dsimp only); omega, by (try dsimp only); omega, by (try dsimp only); omega, by (try dsimp only); omega⟩ (by (try dsimp only); omega)
                                  · have hq76 := i_ne hq76
                                    unfold f_Mo_sortRows_203
                                    have := i_add (a := x5_23) (b := 1) (by omega) (by omega)
                                    have := i_add (a := x6_23) (b := 0) (by omega) (by omega)
                                    have := i_add (a := x7_23) (b := 1) (by omega) (by omega)
                                    exact lInl ⟨rfl, rfl, rfl, rfl, rfl, Wc21, F73, by (try dsimp only); omega, by (try dsimp only); omega, by (try dsimp only); omega, by (try dsimp only); omega, by (try dsimp only); omega, by (try dsimp only); omega, by (try dsimp only); omega, by (try dsimp only); omega, by (try dsimp only); omega⟩ (by (try dsimp only); omega)
                    · exact ⟨rfl, rfl, rfl, rfl, rfl, WLc_15, Zfr.rf, by (try dsimp only); omega, by (try dsimp only); omega, by (try dsimp only); omega, by (try dsimp only); omega, by (try dsimp only); omega, by (try dsimp only); omega, by (try dsimp only); omega, by (try dsimp only); omega, by (try dsimp only); omega⟩
                    · (try dsimp only); omega
                  obtain ⟨b, eb, hb⟩ := L22
                  refine wb eb ?_
                  clear eb
                  obtain ⟨z0_77, z1_77, z2_77, c_77⟩ := b
                  try dsimp only at hb ⊢
                  obtain ⟨rfl, rfl, rfl, WXc_77, FXc_77⟩ := hb
                  have F78 := Zfr.tr FLc_15 FXc_77 (by decide)
                  exact lInl ⟨rfl, rfl, WXc_77, F78, by (try dsimp only); omega, by (try dsimp only); omega⟩ (by (try dsimp only); omega)
                · have := li_2
                  have := i_mull (a := 2) (b := x1_10) (n := 2) li_2 (by omega) (by omega)
                  have := i_add (a := x2_15) (b := (2 * x1_10)) (by omega) (by omega)
                  have hq21 := i_nle hq21
                  unfold f_Mo_sortRows_88
                  unfold f_Mo_sortRows_99
                  have L79 : ∃ b, zlp (fun a : Nat × Int32 × Int32 × Int32 × Int32 × Int32 × Int32 × Int32 × Zc => g_Mo_sortRows_99 nf a.1 a.2.1 a.2.2.1 a.2.2.2.1 a.2.2.2.2.1 a.2.2.2.2.2.1 a.2.2.2.2.2.2.1 a.2.2.2.2.2.2.2.1 a.2.2.2.2.2.2.2.2) nf (a0, x1_10, x2_15, v5, (x2_15 + (2 * x1_10)), x2_15, v5, x2_15, c_15) = some b ∧ (fun b : (Nat × Int32 × Int32 × Zc) => a0 = b.1 ∧ x1_10 = b.2.1 ∧ x2_15 = b.2.2.1 ∧ Zwt zty G b.2.2.2 ∧ Zfr G ([(127, 0)] : List (Nat × Nat)) c_15 b.2.2.2) b := by
                    refine wlp (fun a : Nat × Int32 × Int32 × Int32 × Int32 × Int32 × Int32 × Int32 × Zc => a0 = a.1 ∧ x1_10 = a.2.1 ∧ x2_15 = a.2.2.1 ∧ v5 = a.2.2.2.1 ∧ (x2_15 + (2 * x1_10)) = a.2.2.2.2.1 ∧ Zwt zty G a.2.2.2.2.2.2.2.2 ∧ Zfr G ([(127, 0)] : List (Nat × Nat)) c_15 a.2.2.2.2.2.2.2.2 ∧ 0 ≤ a.2.2.2.2.2.1.toInt ∧ a.2.2.2.2.2.1.toInt ≤ 20000 ∧ 0 ≤ a.2.2.2.2.2.2.1.toInt ∧ a.2.2.2.2.2.2.1.toInt ≤ 20000 ∧ 0 ≤ a.2.2.2.2.2.2.2.1.toInt ∧ a.2.2.2.2.2.2.2.1.toInt ≤ 20000 ∧ a.2.2.2.2.2.1.toInt ≤ a.2.2.2.2.2.2.2.1.toInt ∧ a.2.2.2.2.2.2.1.toInt ≤ (x2_15 + (2 * x1_10)).toInt ∧ a.2.2.2.2.2.2.2.1.toInt ≤ (x2_15 + (2 * x1_10)).toInt) (fun a => (20000 - a.2.2.2.2.2.2.2.1.toInt).toNat) (fun b : (Nat × Int32 × Int32 × Zc) => a0 = b.1 ∧ x1_10 = b.2.1 ∧ x2_15 = b.2.2.1 ∧ Zwt zty G b.2.2.2 ∧ Zfr G ([(127, 0)] : List (Nat × Nat)) c_15 b.2.2.2) ?_ ?_ ?_
                    · rintro ⟨x0_80, x1_80, x2_80, x3_80, x4_80, x5_80, x6_80, x7_80, c_80⟩ hI
                      try dsimp only at hI ⊢
                      obtain ⟨rfl, rfl, rfl, rfl, rfl, WLc_80, FLc_80, j81, j82, j83, j84, j85, j86, j87, j88, j89⟩ := hI
                      unfold g_Mo_sortRows_99
                      refine wi (fun hq90 => ?_) (fun hq90 => ?_)
                      · have hq90 := i_le hq90
                        exact lInr ⟨rfl, rfl, rfl, WLc_80, FLc_80⟩
                      · have hq90 := i_nle hq90
                        refine wi (fun hq91 => ?_) (fun hq91 => ?_)
                        · have hq91 := i_eq hq91
                          unfold f_Mo_sortRows_140
                          unfold f_Mo_sortRows_145
                          obtain ⟨v17, ev17, tv17⟩ := gf_64_80 WLc_80 t_a0
                          refine wb ev17 ?_
                          refine wi (fun hq92 => ?_) (fun hq92 => ?_)
                          · have hq92 := i_eq hq92
                            obtain ⟨v19, ev19, tv19⟩ := gf_64_79 WLc_80 t_a0
                            refine wb ev19 ?_
                            obtain ⟨v20, ev20, lv20, uv20⟩ := ga_126 WLc_80 tv19 (i := x6_80) (by omega) (by omega)
                            refine wb ev20 ?_
                            unfold f_Mo_sortRows_175
                            obtain ⟨c21, ec21, Wc21, fc21, gc21⟩ := pa_127 WLc_80 tv17 (i := x7_80) (by omega) (by omega) (x := v20) (rgi (by omega) (by omega))
                            refine wb ec21 ?_
                            have F93 := Zfr.tr FLc_80 fc21 (by decide)
                            refine wi (fun hq94 => ?_) (fun hq94 => ?_)
                            · have hq94 := i_eq hq94
                              unfold f_Mo_sortRows_188
                              refine wi (fun hq95 => ?_) (fun hq95 => ?_)
                              · have hq95 := i_eq hq95
                                unfold f_Mo_sortRows_203
                                have := i_add (a := x5_80) (b := 0) (by omega) (by omega)
                                have := i_add (a := x6_80) (b := 1) (by omega) (by omega)
                                have := i_add (a := x7_80) (b := 1) (by omega) (by omega)
                                exact lInl ⟨rfl, rfl, rfl, rfl, rfl, Wc21, F93, by (try dsimp only); omega, by (try dsimp only); omega, by (try dsimp only); omega, by (try dsimp only); omega, by (try dsimp only); omega, by (try dsimp only); omega, by (try dsimp only); omega, by (try dsimp only); omega, by (try dsimp only); omega⟩ (by (try dsimp only); omega)
                              · have hq95 := i_ne hq95
                                unfold f_Mo_sortRows_203
                                have := i_add (a := x5_80) (b := 0) (by omega) (by omega)
                                have := i_add (a := x6_80) (b := 0) (by omega) (by omega)
                                have := i_add (a := x7_80) (b := 1) (by omega) (by omega)
                                exact lInl ⟨rfl, rfl, rfl, rfl, rfl, Wc21, F93, by (try dsimp only); omega, by (try dsimp only); omega, by (try dsimp only); omega, by (try dsimp only); omega, by (try dsimp only); omega, by (try dsimp only); omega, by (try dsimp only); omega, by (try dsimp only); omega, by (try dsimp only); omega⟩ (by (try dsimp only); omega)
                            · have hq94 := i_ne hq94
                              unfold f_Mo_sortRows_188
                              refine wi (fun hq96 => ?_) (fun hq96 => ?_)
                              · have hq96 := i_eq hq96
                                unfold f_Mo_sortRows_203
                                have := i_add (a := x5_80) (b := 1) (by omega) (by omega)
                                have := i_add (a := x6_80) (b := 1) (by omega) (by omega)
                                have := i_add (a := x7_80) (b := 1) (by omega) (by omega)
                                exact lInl ⟨rfl, rfl, rfl, rfl, rfl, Wc21, F93, by (try dsimp only); omega, by (try dsimp only); omega, by (try dsimp only); omega, by (try dsimp only); omega, by (try dsimp only); omega, by (try dsimp only); omega, by (try dsimp only); omega, by (try dsimp only); omega, by (try dsimp only); omega⟩ (by (try dsimp only); omega)
                              · have hq96 := i_ne hq96
                                unfold f_Mo_sortRows_203
                                have := i_add (a := x5_80) (b := 1) (by omega) (by omega)
                                have := i_add (a := x6_80) (b := 0) (by omega) (by omega)
                                have := i_add (a := x7_80) (b := 1) (by omega) (by omega)
                                exact lInl ⟨rfl, rfl, rfl, rfl, rfl, Wc21, F93, by (try dsimp only); omega, by (try dsimp only); omega, by (try dsimp only); omega, by (try dsimp only); omega, by (try dsimp only); omega, by (try dsimp only); omega, by (try dsimp only); omega, by (try dsimp only); omega, by (try dsimp only); omega⟩ (by (try dsimp only); omega)
                          · have hq92 := i_ne hq92
                            obtain ⟨v24, ev24, tv24⟩ := gf_64_79 WLc_80 t_a0
                            refine wb ev24 ?_
                            obtain ⟨v25, ev25, lv25, uv25⟩ := ga_126 WLc_80 tv24 (i := x5_80) (by omega) (by omega)
                            refine wb ev25 ?_
                            unfold f_Mo_sortRows_175
                            obtain ⟨c21, ec21, Wc21, fc21, gc21⟩ := pa_127 WLc_80 tv17 (i := x7_80) (by omega) (by omega) (x := v25) (rgi (by omega) (by omega))
                            refine wb ec21 ?_
                            have F97 := Zfr.tr FLc_80 fc21 (by decide)
                            refine wi (fun hq98 => ?_) (fun hq98 => ?_)
                            · have hq98 := i_eq hq98
                              unfold f_Mo_sortRows_188
                              refine wi (fun hq99 => ?_) (fun hq99 => ?_)
                              · have hq99 := i_eq hq99
                                unfold f_Mo_sortRows_203
                                have := i_add (a := x5_80) (b := 0) (by omega) (by omega)
                                have := i_add (a := x6_80) (b := 1) (by omega) (by omega)
                                have := i_add (a := x7_80) (b := 1) (by omega) (by omega)
                                exact lInl ⟨rfl, rfl, rfl, rfl, rfl, Wc21, F97, by (try dsimp only); omega, by (try dsimp only); omega, by (try dsimp only); omega, by (try dsimp only); omega, by (try dsimp only); omega, by (try dsimp only); omega, by (try dsimp only); omega, by (try dsimp only); omega, by (try dsimp only); omega⟩ (by (try dsimp only); omega)
                              · have hq99 := i_ne hq99
                                unfold f_Mo_sortRows_203
                                have := i_add (a := x5_80) (b := 0) (by omega) (by omega)
                                have := i_add (a := x6_80) (b := 0) (by omega) (by omega)
                                have := i_add (a := x7_80) (b := 1) (by omega) (by omega)
                                exact lInl ⟨rfl, rfl, rfl, rfl, rfl, Wc21, F97, by (try dsimp only); omega, by (try dsimp only); omega, by (try dsimp only); omega, by (try dsimp only); omega, by (try dsimp only); omega, by (try dsimp only); omega, by (try dsimp only); omega, by (try dsimp only); omega, by (try dsimp only); omega⟩ (by (try dsimp only); omega)
                            · have hq98 := i_ne hq98
                              unfold f_Mo_sortRows_188
                              refine wi (fun hq100 => ?_) (fun hq100 => ?_)
                              · have hq100 := i_eq hq100
                                unfold f_Mo_sortRows_203
                                have := i_add (a := x5_80) (b := 1) (by omega) (by omega)
                                have := i_add (a := x6_80) (b := 1) (by omega) (by omega)
                                have := i_add (a := x7_80) (b := 1) (by omega) (by omega)
                                exact lInl ⟨rfl, rfl, rfl, rfl, rfl, Wc21, F97, by (try dsimp only); omega, by (try dsimp only); omega, by (try dsimp only); omega, by (try dsimp only); omega, by (try dsimp only); omega, by (try dsimp only); omega, by (try dsimp only); omega, by (try dsimp only); omega, by (try dsimp only); omega⟩ (by (try dsimp only); omega)
                              · have hq100 := i_ne hq100
                                unfold f_Mo_sortRows_203
                                have := i_add (a := x5_80) (b := 1) (by omega) (by omega)
                                have := i_add (a := x6_80) (b := 0) (by omega) (by omega)
                                have := i_add (a := x7_80) (b := 1) (by omega) (by omega)
                                exact lInl ⟨rfl, rfl, rfl, rfl, rfl, Wc21, F97, by (try dsimp only); omega, by (try dsimp only); omega, by (try dsimp only); omega, by (try dsimp only); omega, by (try dsimp only); omega, by (try dsimp only); omega, by (try dsimp only); omega, by (try dsimp only); omega, by (try dsimp only); omega⟩ (by (try dsimp only); omega)
                        · have hq91 := i_ne hq91
                          refine wi (fun hq101 => ?_) (fun hq101 => ?_)
                          · have hq101 := i_le hq101
                            unfold f_Mo_sortRows_144
                            unfold f_Mo_sortRows_145
                            obtain ⟨v17, ev17, tv17⟩ := gf_64_80 WLc_80 t_a0
                            refine wb ev17 ?_
                            refine wi (fun hq102 => ?_) (fun hq102 => ?_)
                            · have hq102 := i_eq hq102
                              obtain ⟨v19, ev19, tv19⟩ := gf_64_79 WLc_80 t_a0
                              refine wb ev19 ?_
                              obtain ⟨v20, ev20, lv20, uv20⟩ := ga_126 WLc_80 tv19 (i := x6_80) (by omega) (by omega)
                              refine wb ev20 ?_
                              unfold f_Mo_sortRows_175
                              obtain ⟨c21, ec21, Wc21, fc21, gc21⟩ := pa_127 WLc_80 tv17 (i := x7_80) (by omega) (by omega) (x := v20) (rgi (by omega) (by omega))
                              refine wb ec21 ?_
                              have F103 := Zfr.tr FLc_80 fc21 (by decide)
                              refine wi (fun hq104 => ?_) (fun hq104 => ?_)
                              · have hq104 := i_eq hq104
                                unfold f_Mo_sortRows_188
                                refine wi (fun hq105 => ?_) (fun hq105 => ?_)
                                · have hq105 := i_eq hq105
                                  unfold f_Mo_sortRows_203
                                  have := i_add (a := x5_80) (b := 0) (by omega) (by omega)
                                  have := i_add (a := x6_80) (b := 1) (by omega) (by omega)
                                  have := i_add (a := x7_80) (b := 1) (by omega) (by omega)
                                  exact lInl ⟨rfl, rfl, rfl, rfl, rfl, Wc21, F103, by (try dsimp only); omega, by (try dsimp only); omega, by (try dsimp only); omega, by (try dsimp only); omega, by (try dsimp only); omega, by (try dsimp only); omega, by (try dsimp only); omega, by (try dsimp only); omega, by (try dsimp only); omega⟩ (by (try dsimp only); omega)
                                · have hq105 := i_ne hq105
                                  unfold f_Mo_sortRows_203
                                  have := i_add (a := x5_80) (b := 0) (by omega) (by omega)
                                  have := i_add (a := x6_80) (b := 0) (by omega) (by omega)
                                  have := i_add (a := x7_80) (b := 1) (by omega) (by omega)
                                  exact lInl ⟨rfl, rfl, rfl, rfl, rfl, Wc21, F103, by (try dsimp only); omega, by (try dsimp only); omega, by (try dsimp only); omega, by (try dsimp only); omega, by (try dsimp only); omega, by (try dsimp only); omega, by (try dsimp only); omega, by (try dsimp only); omega, by (try dsimp only); omega⟩ (by (try dsimp only); omega)
                              · have hq104 := i_ne hq104
                                unfold f_Mo_sortRows_188
                                refine wi (fun hq106 => ?_) (fun hq106 => ?_)
                                · have hq106 := i_eq hq106
                                  unfold f_Mo_sortRows_203
                                  have := i_add (a := x5_80) (b := 1) (by omega) (by omega)
                                  have := i_add (a := x6_80) (b := 1) (by omega) (by omega)
                                  have := i_add (a := x7_80) (b := 1) (by omega) (by omega)
                                  exact lInl ⟨rfl, rfl, rfl, rfl, rfl, Wc21, F103, by (try dsimp only); omega, by (try dsimp only); omega, by (try dsimp only); omega, by (try dsimp only); omega, by (try dsimp only); omega, by (try dsimp only); omega, by (try dsimp only); omega, by (try dsimp only); omega, by (try dsimp only); omega⟩ (by (try dsimp only); omega)
                                · have hq106 := i_ne hq106
                                  unfold f_Mo_sortRows_203
                                  have := i_add (a := x5_80) (b := 1) (by omega) (by omega)
                                  have := i_add (a := x6_80) (b := 0) (by omega) (by omega)
                                  have := i_add (a := x7_80) (b := 1) (by omega) (by omega)
                                  exact lInl ⟨rfl, rfl, rfl, rfl, rfl, Wc21, F103, by (try dsimp only); omega, by (try dsimp only); omega, by (try dsimp only); omega, by (try dsimp only); omega, by (try dsimp only); omega, by (try dsimp only); omega, by (try dsimp only); omega, by (try dsimp only); omega, by (try dsimp only); omega⟩ (by (try dsimp only); omega)
                            · have hq102 := i_ne hq102
                              obtain ⟨v24, ev24, tv24⟩ := gf_64_79 WLc_80 t_a0
                              refine wb ev24 ?_
                              obtain ⟨v25, ev25, lv25, uv25⟩ := ga_126 WLc_80 tv24 (i := x5_80) (by omega) (by omega)
                              refine wb ev25 ?_
                              unfold f_Mo_sortRows_175
                              obtain ⟨c21, ec21, Wc21, fc21, gc21⟩ := pa_127 WLc_80 tv17 (i := x7_80) (by omega) (by omega) (x := v25) (rgi (by omega) (by omega))
                              refine wb ec21 ?_
                              have F107 := Zfr.tr FLc_80 fc21 (by decide)
                              refine wi (fun hq108 => ?_) (fun hq108 => ?_)
                              · have hq108 := i_eq hq108
                                unfold f_Mo_sortRows_188
                                refine wi (fun hq109 => ?_) (fun hq109 => ?_)
                                · have hq109 := i_eq hq109
                                  unfold f_Mo_sortRows_203
                                  have := i_add (a := x5_80) (b := 0) (by omega) (by omega)
                                  have := i_add (a := x6_80) (b := 1) (by omega) (by omega)
                                  have := i_add (a := x7_80) (b := 1) (by omega) (by omega)
                                  exact lInl ⟨rfl, rfl, rfl, rfl, rfl, Wc21, F107, by (try dsimp only); omega, by (try dsimp only); omega, by (try dsimp only); omega, by (try dsimp only); omega, by (try dsimp only); omega, by (try dsimp only); omega, by (try dsimp only); omega, by (try dsimp only); omega, by (try dsimp only); omega⟩ (by (try dsimp only); omega)
                                · have hq109 := i_ne hq109
                                  unfold f_Mo_sortRows_203
                                  have := i_add (a := x5_80) (b := 0) (by omega) (by omega)
                                  have := i_add (a := x6_80) (b := 0) (by omega) (by omega)
                                  have := i_add (a := x7_80) (b := 1) (by omega) (by omega)
                                  exact lInl ⟨rfl, rfl, rfl, rfl, rfl, Wc21, F107, by (try dsimp only); omega, by (try dsimp only); omega, by (try dsimp only); omega, by (try dsimp only); omega, by (try dsimp only); omega, by (try dsimp only); omega, by (try dsimp only); omega, by (try dsimp only); omega, by (try dsimp only); omega⟩ (by (try dsimp only); omega)
                              · have hq108 := i_ne hq108
                                unfold f_Mo_sortRows_188
                                refine wi (fun hq110 => ?_) (fun hq110 => ?_)
                                · have hq110 := i_eq hq110
                                  unfold f_Mo_sortRows_203
                                  have := i_add (a := x5_80) (b := 1) (by omega) (by omega)
                                  have := i_add (a := x6_80) (b := 1) (by omega) (by omega)
                                  have := i_add (a := x7_80) (b := 1) (by omega) (by omega)
                                  exact lInl ⟨rfl, rfl, rfl, rfl, rfl, Wc21, F107, by (try dsimp only); omega, by (try dsimp only); omega, by (try dsimp only); omega, by (try dsimp only); omega, by (try dsimp only); omega, by (try dsimp only); omega, by (try dsimp only); omega, by (try dsimp only); omega, by (try dsimp only); omega⟩ (by (try dsimp only); omega)
                                · have hq110 := i_ne hq110
                                  unfold f_Mo_sortRows_203
                                  have := i_add (a := x5_80) (b := 1) (by omega) (by omega)
                                  have := i_add (a := x6_80) (b := 0) (by omega) (by omega)
                                  have := i_add (a := x7_80) (b := 1) (by omega) (by omega)
                                  exact lInl ⟨rfl, rfl, rfl, rfl, rfl, Wc21, F107, by (try dsimp only); omega, by (try dsimp only); omega, by (try dsimp only); omega, by (try dsimp only); omega, by (try dsimp only); omega, by (try dsimp only); omega, by (try dsimp only); omega, by (try dsimp only); omega, by (try dsimp only); omega⟩ (by (try dsimp only); omega)
                          · have hq101 := i_nle hq101
                            obtain ⟨v27, ev27, tv27⟩ := gf_64_79 WLc_80 t_a0
                            refine wb ev27 ?_
                            obtain ⟨v28, ev28, lv28, uv28⟩ := ga_126 WLc_80 tv27 (i := x5_80) (by omega) (by omega)
                            refine wb ev28 ?_
                            refine wb ev27 ?_
                            obtain ⟨v30, ev30, lv30, uv30⟩ := ga_126 WLc_80 tv27 (i := x6_80) (by omega) (by omega)
                            refine wb ev30 ?_
                            obtain ⟨w32, ew32⟩ := go_64 WLc_80 t_a0
                            refine wb ew32 ?_
                            obtain ⟨q31, eq31, Wq31, fq31, po0q31⟩ := p_Mo_compareRows hn WLc_80 (a1 := v28) (a2 := v30) t_a0 (by omega) (by omega) (by omega) (by omega)
                            refine wb eq31 ?_
                            have e111 := (Zfr.gr fq31 t_a0 (by decide)).trans ev27
                            have e112 := (Zfr.ai fq31 tv27 (by decide)).trans ev28
                            have e113 := (Zfr.ai fq31 tv27 (by decide)).trans ev30
                            have F114 := Zfr.tr FLc_80 fq31 (by decide)
                            refine wi (fun hq115 => ?_) (fun hq115 => ?_)
                            · have := i_ge q31.1
                              have := i_up q31.1
                              have hq115 := i_lt hq115
                              unfold f_Mo_sortRows_144
                              unfold f_Mo_sortRows_145
                              obtain ⟨v17, ev17, tv17⟩ := gf_64_80 Wq31 t_a0
                              refine wb ev17 ?_
                              refine wi (fun hq116 => ?_) (fun hq116 => ?_)
                              · have hq116 := i_eq hq116
                                refine wb e111 ?_
                                refine wb e113 ?_
                                unfold f_Mo_sortRows_175
                                obtain ⟨c21, ec21, Wc21, fc21, gc21⟩ := pa_127 Wq31 tv17 (i := x7_80) (by omega) (by omega) (x := v30) (rgi (by omega) (by omega))
                                refine wb ec21 ?_
                                have F117 := Zfr.tr F114 fc21 (by decide)
                                refine wi (fun hq118 => ?_) (fun hq118 => ?_)
                                · have hq118 := i_eq hq118
                                  unfold f_Mo_sortRows_188
                                  refine wi (fun hq119 => ?_) (fun hq119 => ?_)
                                  · have hq119 := i_eq hq119
                                    unfold f_Mo_sortRows_203
                                    have := i_add (a := x5_80) (b := 0) (by omega) (by omega)
                                    have := i_add (a := x6_80) (b := 1) (by omega) (by omega)
                                    have := i_add (a := x7_80) (b := 1) (by omega) (by omega)
                                    exact lInl ⟨rfl, rfl, rfl, rfl, rfl, Wc21, F117, by (try dsimp only); omega, by (try dsimp only); omega, by (try dsimp only); omega, by (try dsimp only); omega, by (try dsimp only); omega, by (try dsimp only); omega, by (try dsimp only); omega, by (try dsimp only); omega, by (try dsimp only); omega⟩ (by (try dsimp only); omega)
                                  · have hq119 := i_ne hq119
                                    unfold f_Mo_sortRows_203
                                    have := i_add (a := x5_80) (b := 0) (by omega) (by omega)
                                    have := i_add (a := x6_80) (b := 0) (by omega) (by omega)
                                    have := i_add (a := x7_80) (b := 1) (by omega) (by omega)
                                    exact lInl ⟨rfl, rfl, rfl, rfl, rfl, Wc21, F117, by (try dsimp only); omega, by (try dsimp only); omega, by (try dsimp only); omega, by (try dsimp only); omega, by (try dsimp only); omega, by (try dsimp only); omega, by (try dsimp only); omega, by (try dsimp only); omega, by (try dsimp only); omega⟩ (by (try dsimp only); omega)
                                · have hq118 := i_ne hq118
                                  unfold f_Mo_sortRows_188
                                  refine wi (fun hq120 => ?_) (fun hq120 => ?_)
                                  · have hq120 := i_eq hq120
                                    unfold f_Mo_sortRows_203
                                    have := i_add (a := x5_80) (b := 1) (by omega) (by omega)
                                    have := i_add (a := x6_80) (b := 1) (by omega) (by omega)
                                    have := i_add (a := x7_80) (b := 1) (by omega) (by omega)
                                    exact lInl ⟨rfl, rfl, rfl, rfl, rfl, Wc21, F117, by (try dsimp only); omega, by (try dsimp only); omega, by (try dsimp only); omega, by (try dsimp only); omega, by (try dsimp only); omega, by (try dsimp only); omega, by (try dsimp only); omega, by (try dsimp only); omega, by (try dsimp only); omega⟩ (by (try dsimp only); omega)
                                  · have hq120 := i_ne hq120
                                    unfold f_Mo_sortRows_203
                                    have := i_add (a := x5_80) (b := 1) (by omega) (by omega)
                                    have := i_add (a := x6_80) (b := 0) (by omega) (by omega)
                                    have := i_add (a := x7_80) (b := 1) (by omega) (by omega)
                                    exact lInl ⟨rfl, rfl, rfl, rfl, rfl, Wc21, F117, by (try dsimp only); omega, by (try dsimp only); omega, by (try dsimp only); omega, by (try dsimp only); omega, by (try dsimp only); omega, by (try dsimp only); omega, by (try dsimp only); omega, by (try dsimp only); omega, by (try dsimp only); omega⟩ (by (try dsimp only); omega)
                              · have hq116 := i_ne hq116
                                refine wb e111 ?_
                                refine wb e112 ?_
                                unfold f_Mo_sortRows_175
                                obtain ⟨c21, ec21, Wc21, fc21, gc21⟩ := pa_127 Wq31 tv17 (i := x7_80) (by omega) (by omega) (x := v28) (rgi (by omega) (by omega))
                                refine wb ec21 ?_
                                have F121 := Zfr.tr F114 fc21 (by decide)
                                refine wi (fun hq122 => ?_) (fun hq122 => ?_)
                                · have hq122 := i_eq hq122
                                  unfold f_Mo_sortRows_188
                                  refine wi (fun hq123 => ?_) (fun hq123 => ?_)
                                  · have hq123 := i_eq hq123
                                    unfold f_Mo_sortRows_203
                                    have := i_add (a := x5_80) (b := 0) (by omega) (by omega)
                                    have := i_add (a := x6_80) (b := 1) (by omega) (by omega)
                                    have := i_add (a := x7_80) (b := 1) (by omega) (by omega)
                                    exact lInl ⟨rfl, rfl, rfl, rfl, rfl, Wc21, F121, by (try dsimp only); omega, by (try dsimp only); omega, by (try dsimp only); omega, by (try dsimp only); omega, by (try dsimp only); omega, by (try dsimp only); omega, by (try dsimp only); omega, by (try dsimp only); omega, by (try dsimp only); omega⟩ (by (try dsimp only); omega)
                                  · have hq123 := i_ne hq123
                                    unfold f_Mo_sortRows_203
                                    have := i_add (a := x5_80) (b := 0) (by omega) (by omega)
                                    have := i_add (a := x6_80) (b := 0) (by omega) (by omega)
                                    have := i_add (a := x7_80) (b := 1) (by omega) (by omega)
                                    exact lInl ⟨rfl, rfl, rfl, rfl, rfl, Wc21, F121, by (try dsimp only); omega, by (try dsimp only); omega, by (try dsimp only); omega, by (try dsimp only); omega, by (try dsimp only); omega, by (try dsimp only); omega, by (try dsimp only); omega, by (try dsimp only); omega, by (try dsimp only); omega⟩ (by (try dsimp only); omega)
                                · have hq122 := i_ne hq122
                                  unfold f_Mo_sortRows_188
                                  refine wi (fun hq124 => ?_) (fun hq124 => ?_)
                                  · have hq124 := i_eq hq124
                                    unfold f_Mo_sortRows_203
                                    have := i_add (a := x5_80) (b := 1) (by omega) (by omega)
                                    have := i_add (a := x6_80) (b := 1) (by omega) (by omega)
                                    have := i_add (a := x7_80) (b := 1) (by omega) (by omega)
                                    exact lInl ⟨rfl, rfl, rfl, rfl, rfl, Wc21, F121, by (try dsimp only); omega, by (try dsimp only); omega, by (try dsimp only); omega, by (try dsimp only); omega, by (try dsimp only); omega, by (try dsimp only); omega, by (try dsimp only); omega, by (try dsimp only); omega, by (try dsimp only); omega⟩ (by (try dsimp only); omega)
                                  · have hq124 := i_ne hq124
                                    unfold f_Mo_sortRows_203
                                    have := i_add (a := x5_80) (b := 1) (by omega) (by omega)
                                    have := i_add (a := x6_80) (b := 0) (by omega) (by omega)
                                    have := i_add (a := x7_80) (b := 1) (by omega) (by omega)
                                    exact lInl ⟨rfl, rfl, rfl, rfl, rfl, Wc21, F121, by (try dsimp only); omega, by (try dsimp only); omega, by (try dsimp only); omega, by (try dsimp only); omega, by (try dsimp only); omega, by (try dsimp only); omega, by (try dsimp only); omega, by (try dsimp only); omega, by (try dsimp only); omega⟩ (by (try dsimp only); omega)
                            · have := i_ge q31.1
                              have := i_up q31.1
                              have hq115 := i_nlt hq115
                              unfold f_Mo_sortRows_140
                              unfold f_Mo_sortRows_145
                              obtain ⟨v17, ev17, tv17⟩ := gf_64_80 Wq31 t_a0
                              refine wb ev17 ?_
                              refine wi (fun hq125 => ?_) (fun hq125 => ?_)
                              · have hq125 := i_eq hq125
                                refine wb e111 ?_
                                refine wb e113 ?_
                                unfold f_Mo_sortRows_175
                                obtain ⟨c21, ec21, Wc21, fc21, gc21⟩ := pa_127 Wq31 tv17 (i := x7_80) (by omega) (by omega) (x := v30) (rgi (by omega) (by omega))
                                refine wb ec21 ?_
                                have F126 := Zfr.tr F114 fc21 (by decide)
                                refine wi (fun hq127 => ?_) (fun hq127 => ?_)
                                · have hq127 := i_eq hq127
                                  unfold f_Mo_sortRows_188
                                  refine wi (fun hq128 => ?_) (fun hq128 => ?_)
                                  · have hq128 := i_eq hq128
                                    unfold f_Mo_sortRows_203
                                    have := i_add (a := x5_80) (b := 0) (by omega) (by omega)
                                    have := i_add (a := x6_80) (b := 1) (by omega) (by omega)
                                    have := i_add (a := x7_80) (b := 1) (by omega) (by omega)
                                    exact lInl ⟨rfl, rfl, rfl, rfl, rfl, Wc21, F126, by (try dsimp only); omega, by (try dsimp only); omega, by (try dsimp only); omega, by (try dsimp only); omega, by (try dsimp only); omega, by (try dsimp only); omega, by (try dsimp only); omega, by (try dsimp only); omega, by (try dsimp only); omega⟩ (by (try dsimp only); omega)
                                  · have hq128 := i_ne hq128
                                    unfold f_Mo_sortRows_203
                                    have := i_add (a := x5_80) (b := 0) (by omega) (by omega)
                                    have := i_add (a := x6_80) (b := 0) (by omega) (by omega)
                                    have := i_add (a := x7_80) (b := 1) (by omega) (by omega)
                                    exact lInl ⟨rfl, rfl, rfl, rfl, rfl, Wc21, F126, by (try dsimp only); omega, by (try dsimp only); omega, by (try dsimp only); omega, by (try dsimp only); omega, by (try dsimp only); omega, by (try dsimp only); omega, by (try dsimp only); omega, by (try dsimp only); omega, by (try dsimp only); omega⟩ (by (try dsimp only); omega)
                                · have hq127 := i_ne hq127
                                  unfold f_Mo_sortRows_188
                                  refine wi (fun hq129 => ?_) (fun hq129 => ?_)
                                  · have hq129 := i_eq hq129
                                    unfold f_Mo_sortRows_203
                                    have := i_add (a := x5_80) (b := 1) (by omega) (by omega)
                                    have := i_add (a := x6_80) (b := 1) (by omega) (by omega)
                                    have := i_add (a := x7_80) (b := 1) (by omega) (by omega)
                                    exact lInl ⟨rfl, rfl, rfl, rfl, rfl, Wc21, F126, by (try dsimp only); omega, by (try dsimp only); omega, by (try dsimp only); omega, by (try dsimp only); omega, by (try dsimp only); omega, by (try dsimp only); omega, by (try dsimp only); omega, by (try dsimp only); omega, by (try dsimp only); omega⟩ (by (try dsimp only); omega)
                                  · have hq129 := i_ne hq129
                                    unfold f_Mo_sortRows_203
                                    have := i_add (a := x5_80) (b := 1) (by omega) (by omega)
                                    have := i_add (a := x6_80) (b := 0) (by omega) (by omega)
                                    have := i_add (a := x7_80) (b := 1) (by omega) (by omega)
                                    exact lInl ⟨rfl, rfl, rfl, rfl, rfl, Wc21, F126, by (try dsimp only); omega, by (try dsimp only); omega, by (try dsimp only); omega, by (try dsimp only); omega, by (try dsimp only); omega, by (try dsimp only); omega, by (try dsimp only); omega, by (try dsimp only); omega, by (try dsimp only); omega⟩ (by (try dsimp only); omega)
                              · have hq125 := i_ne hq125
                                refine wb e111 ?_
                                refine wb e112 ?_
                                unfold f_Mo_sortRows_175
                                obtain ⟨c21, ec21, Wc21, fc21, gc21⟩ := pa_127 Wq31 tv17 (i := x7_80) (by omega) (by omega) (x := v28) (rgi (by omega) (by omega))
                                refine wb ec21 ?_
                                have F130 := Zfr.tr F114 fc21 (by decide)
                                refine wi (fun hq131 => ?_) (fun hq131 => ?_)
                                · have hq131 := i_eq hq131
                                  unfold f_Mo_sortRows_188
                                  refine wi (fun hq132 => ?_) (fun hq132 => ?_)
                                  · have hq132 := i_eq hq132
                                    unfold f_Mo_sortRows_203
                                    have := i_add (a := x5_80) (b := 0) (by omega) (by omega)
                                    have := i_add (a := x6_80) (b := 1) (by omega) (by omega)
                                    have := i_add (a := x7_80) (b := 1) (by omega) (by omega)
                                    exact lInl ⟨rfl, rfl, rfl, rfl, rfl, Wc21, F130, by (try dsimp only); omega, by (try dsimp only); omega, by (try dsimp only); omega, by (try dsimp only); omega, by (try dsimp only); omega, by (try dsimp only); omega, by (try dsimp only); omega, by (try dsimp only); omega, by (try dsimp only); omega⟩ (by (try dsimp only); omega)
                                  · have hq132 := i_ne hq132
                                    unfold f_Mo_sortRows_203
                                    have := i_add (a := x5_80) (b := 0) (by omega) (by omega)
                                    have := i_add (a := x6_80) (b := 0) (by omega) (by omega)
                                    have := i_add (a := x7_80) (b := 1) (by omega) (by omega)
                                    exact lInl ⟨rfl, rfl, rfl, rfl, rfl, Wc21, F130, by (try dsimp only); omega, by (try dsimp only); omega, by (try dsimp only); omega, by (try dsimp only); omega, by (try dsimp only); omega, by (try dsimp only); omega, by (try dsimp only); omega, by (try dsimp only); omega, by (try dsimp only); omega⟩ (by (try dsimp only); omega)
                                · have hq131 := i_ne hq131
                                  unfold f_Mo_sortRows_188
                                  refine wi (fun hq133 => ?_) (fun hq133 => ?_)
                                  · have hq133 := i_eq hq133
                                    unfold f_Mo_sortRows_203
                                    have := i_add (a := x5_80) (b := 1) (by omega) (by omega)
                                    have := i_add (a := x6_80) (b := 1) (by omega) (by omega)
                                    have := i_add (a := x7_80) (b := 1) (by omega) (by omega)
                                    exact lInl ⟨rfl, rfl, rfl, rfl, rfl, Wc21, F130, by (try dsimp only); omega, by (try dsimp only); omega, by (try dsimp only); omega, by (try dsimp only); omega, by (try dsimp only); omega, by (try dsimp only); omega, by (try dsimp only); omega, by (try dsimp only); omega, by (try dsimp only); omega⟩ (by (try dsimp only); omega)
                                  · have hq133 := i_ne hq133
                                    unfold f_Mo_sortRows_203
                                    have := i_add (a := x5_80) (b := 1) (by omega) (by omega)
                                    have := i_add (a := x6_80) (b := 0) (by omega) (by omega)
                                    have := i_add (a := x7_80) (b := 1) (by omega) (by omega)
                                    exact lInl ⟨rfl, rfl, rfl, rfl, rfl, Wc21, F130, by (try dsimp only); omega, by (try dsimp only); omega, by (try dsimp only); omega, by (try dsimp only); omega, by (try dsimp only); omega, by (try dsimp only); omega, by (try dsimp only); omega, by (try dsimp only); omega, by (try dsimp only); omega⟩ (by (try dsimp only); omega)
                    · exact ⟨rfl, rfl, rfl, rfl, rfl, WLc_15, Zfr.rf, by (try dsimp only); omega, by (try dsimp only); omega, by (try dsimp only); omega, by (try dsimp only); omega, by (try dsimp only); omega, by (try dsimp only); omega, by (try dsimp only); omega, by (try dsimp only); omega, by (try dsimp only); omega⟩
                    · (try dsimp only); omega
                  obtain ⟨b, eb, hb⟩ := L79
                  refine wb eb ?_
                  clear eb
                  obtain ⟨z0_134, z1_134, z2_134, c_134⟩ := b
                  try dsimp only at hb ⊢
                  obtain ⟨rfl, rfl, rfl, WXc_134, FXc_134⟩ := hb
                  have F135 := Zfr.tr FLc_15 FXc_134 (by decide)
                  exact lInl ⟨rfl, rfl, WXc_134, F135, by (try dsimp only); omega, by (try dsimp only); omega⟩ (by (try dsimp only); omega)
              · have := i_add (a := x2_15) (b := x1_10) (by omega) (by omega)
                have hq20 := i_nle hq20
                unfold f_Mo_sortRows_63
                refine wb e18 ?_
                refine wi (fun hq136 => ?_) (fun hq136 => ?_)
                · have := li_2
                  have := i_mull (a := 2) (b := x1_10) (n := 2) li_2 (by omega) (by omega)
                  have := i_add (a := x2_15) (b := (2 * x1_10)) (by omega) (by omega)
                  have hq136 := i_le hq136
                  refine wb e18 ?_
                  unfold f_Mo_sortRows_88
                  unfold f_Mo_sortRows_99
                  have L137 : ∃ b, zlp (fun a : Nat × Int32 × Int32 × Int32 × Int32 × Int32 × Int32 × Int32 × Zc => g_Mo_sortRows_99 nf a.1 a.2.1 a.2.2.1 a.2.2.2.1 a.2.2.2.2.1 a.2.2.2.2.2.1 a.2.2.2.2.2.2.1 a.2.2.2.2.2.2.2.1 a.2.2.2.2.2.2.2.2) nf (a0, x1_10, x2_15, (x2_15 + x1_10), v5, x2_15, (x2_15 + x1_10), x2_15, c_15) = some b ∧ (fun b : (Nat × Int32 × Int32 × Zc) => a0 = b.1 ∧ x1_10 = b.2.1 ∧ x2_15 = b.2.2.1 ∧ Zwt zty G b.2.2.2 ∧ Zfr G ([(127, 0)] : List (Nat × Nat)) c_15 b.2.2.2) b := by
                    refine wlp (fun a : Nat × Int32 × Int32 × Int32 × Int32 × Int32 × Int32 × Int32 × Zc => a0 = a.1 ∧ x1_10 = a.2.1 ∧ x2_15 = a.2.2.1 ∧ (x2_15 + x1_10) = a.2.2.2.1 ∧ v5 = a.2.2.2.2.1 ∧ Zwt zty G a.2.2.2.2.2.2.2.2 ∧ Zfr G ([(127, 0)] : List (Nat × Nat)) c_15 a.2.2.2.2.2.2.2.2 ∧ 0 ≤ a.2.2.2.2.2.1.toInt ∧ a.2.2.2.2.2.1.toInt ≤ 20000 ∧ 0 ≤ a.2.2.2.2.2.2.1.toInt ∧ a.2.2.2.2.2.2.1.toInt ≤ 20000 ∧ 0 ≤ a.2.2.2.2.2.2.2.1.toInt ∧ a.2.2.2.2.2.2.2.1.toInt ≤ 20000 ∧ a.2.2.2.2.2.1.toInt ≤ a.2.2.2.2.2.2.2.1.toInt ∧ a.2.2.2.2.2.2.1.toInt ≤ v5.toInt ∧ a.2.2.2.2.2.2.2.1.toInt ≤ v5.toInt) (fun a => (20000 - a.2.2.2.2.2.2.2.1.toInt).toNat) (fun b : (Nat × Int32 × Int32 × Zc) => a0 = b.1 ∧ x1_10 = b.2.1 ∧ x2_15 = b.2.2.1 ∧ Zwt zty G b.2.2.2 ∧ Zfr G ([(127, 0)] : List (Nat × Nat)) c_15 b.2.2.2) ?_ ?_ ?_
                    · rintro ⟨x0_138, x1_138, x2_138, x3_138, x4_138, x5_138, x6_138, x7_138, c_138⟩ hI
                      try dsimp only at hI ⊢
                      obtain ⟨rfl, rfl, rfl, rfl, rfl, WLc_138, FLc_138, j139, j140, j141, j142, j143, j144, j145, j146, j147⟩ := hI
                      unfold g_Mo_sortRows_99
                      refine wi (fun hq148 => ?_) (fun hq148 => ?_)
                      · have hq148 := i_le hq148
                        exact lInr ⟨rfl, rfl, rfl, WLc_138, FLc_138⟩
                      · have hq148 := i_nle hq148
                        refine wi (fun hq149 => ?_) (fun hq149 => ?_)
                        · have hq149 := i_eq hq149
                          unfold f_Mo_sortRows_140
                          unfold f_Mo_sortRows_145
                          obtain ⟨v17, ev17, tv17⟩ := gf_64_80 WLc_138 t_a0
                          refine wb ev17 ?_
                          refine wi (fun hq150 => ?_) (fun hq150 => ?_)
                          · have hq150 := i_eq hq150
                            obtain ⟨v19, ev19, tv19⟩ := gf_64_79 WLc_138 t_a0
                            refine wb ev19 ?_
                            obtain ⟨v20, ev20, lv20, uv20⟩ := ga_126 WLc_138 tv19 (i := x6_138) (by omega) (by omega)
                            refine wb ev20 ?_
                            unfold f_Mo_sortRows_175
                            obtain ⟨c21, ec21, Wc21, fc21, gc21⟩ := pa_127 WLc_138 tv17 (i := x7_138) (by omega) (by omega) (x := v20) (rgi (by omega) (by omega))
                            refine wb ec21 ?_
                            have F151 := Zfr.tr FLc_138 fc21 (by decide)
                            refine wi (fun hq152 => ?_) (fun hq152 => ?_)
                            · have hq152 := i_eq hq152
                              unfold f_Mo_sortRows_188
                              refine wi (fun hq153 => ?_) (fun hq153 => ?_)
                              · have hq153 := i_eq hq153
                                unfold f_Mo_sortRows_203
                                have := i_add (a := x5_138) (b := 0) (by omega) (by omega)
                                have := i_add (a := x6_138) (b := 1) (by omega) (by omega)
                                have := i_add (a := x7_138) (b := 1) (by omega) (by omega)
                                exact lInl ⟨rfl, rfl, rfl, rfl, rfl, Wc21, F151, by (try dsimp only); omega, by (try dsimp only); omega, by (try dsimp only); omega, by (try dsimp only); omega, by (try dsimp only); omega, by (try dsimp only); omega, by (try dsimp only); omega, by (try dsimp only); omega, by (try dsimp only); omega⟩ (by (try dsimp only); omega)
                              · have hq153 := i_ne hq153
                                unfold f_Mo_sortRows_203
                                have := i_add (a := x5_138) (b := 0) (by omega) (by omega)
                                have := i_add (a := x6_138) (b := 0) (by omega) (by omega)
                                have := i_add (a := x7_138) (b := 1) (by omega) (by omega)
                                exact lInl ⟨rfl, rfl, rfl, rfl, rfl, Wc21, F151, by (try dsimp only); omega, by (try dsimp only); omega, by (try dsimp only); omega, by (try dsimp only); omega, by (try dsimp only); omega, by (try dsimp only); omega, by (try dsimp only); omega, by (try dsimp only); omega, by (try dsimp only); omega⟩ (by (try dsimp only); omega)
                            · have hq152 := i_ne hq152
                              unfold f_Mo_sortRows_188
                              refine wi (fun hq154 => ?_) (fun hq154 => ?_)
                              · have hq154 := i_eq hq154
                                unfold f_Mo_sortRows_203
                                have := i_add (a := x5_138) (b := 1) (by omega) (by omega)
                                have := i_add (a := x6_138) (b := 1) (by omega) (by omega)
                                have := i_add (a := x7_138) (b := 1) (by omega) (by omega)
                                exact lInl ⟨rfl, rfl, rfl, rfl, rfl, Wc21, F151, by (try dsimp only); omega, by (try dsimp only); omega, by (try dsimp only); omega, by (try dsimp only); omega, by (try dsimp only); omega, by (try dsimp only); omega, by (try dsimp only); omega, by (try dsimp only); omega, by (try dsimp only); omega⟩ (by (try dsimp only); omega)
                              · have hq154 := i_ne hq154
                                unfold f_Mo_sortRows_203
                                have := i_add (a := x5_138) (b := 1) (by omega) (by omega)
                                have := i_add (a := x6_138) (b := 0) (by omega) (by omega)
                                have := i_add (a := x7_138) (b := 1) (by omega) (by omega)
                                exact lInl ⟨rfl, rfl, rfl, rfl, rfl, Wc21, F151, by (try dsimp only); omega, by (try dsimp only); omega, by (try dsimp only); omega, by (try dsimp only); omega, by (try dsimp only); omega, by (try dsimp only); omega, by (try dsimp only); omega, by (try dsimp only); omega, by (try dsimp only); omega⟩ (by (try dsimp only); omega)
                          · have hq150 := i_ne hq150
                            obtain ⟨v24, ev24, tv24⟩ := gf_64_79 WLc_138 t_a0
                            refine wb ev24 ?_
                            obtain ⟨v25, ev25, lv25, uv25⟩ := ga_126 WLc_138 tv24 (i := x5_138) (by omega) (by omega)
                            refine wb ev25 ?_
                            unfold f_Mo_sortRows_175
                            obtain ⟨c21, ec21, Wc21, fc21, gc21⟩ := pa_127 WLc_138 tv17 (i := x7_138) (by omega) (by omega) (x := v25) (rgi (by omega) (by omega))
                            refine wb ec21 ?_
                            have F155 := Zfr.tr FLc_138 fc21 (by decide)
                            refine wi (fun hq156 => ?_) (fun hq156 => ?_)
                            · have hq156 := i_eq hq156
                              unfold f_Mo_sortRows_188
                              refine wi (fun hq157 => ?_) (fun hq157 => ?_)
                              · have hq157 := i_eq hq157
                                unfold f_Mo_sortRows_203
                                have := i_add (a := x5_138) (b := 0) (by omega) (by omega)
                                have := i_add (a := x6_138) (b := 1) (by omega) (by omega)
                                have := i_add (a := x7_138) (b := 1) (by omega) (by omega)
                                exact lInl ⟨rfl, rfl, rfl, rfl, rfl, Wc21, F155, by (try dsimp only); omega, by (try dsimp only); omega, by (try dsimp only); omega, by (try dsimp only); omega, by (try dsimp only); omega, by (try dsimp only); omega, by (try dsimp only); omega, by (try dsimp only); omega, by (try dsimp only); omega⟩ (by (try dsimp only); omega)
                              · have hq157 := i_ne hq157
                                unfold f_Mo_sortRows_203
                                have := i_add (a := x5_138) (b := 0) (by omega) (by omega)
                                have := i_add (a := x6_138) (b := 0) (by omega) (by omega)
                                have := i_add (a := x7_138) (b := 1) (by omega) (by omega)
                                exact lInl ⟨rfl, rfl, rfl, rfl, rfl, Wc21, F155, by (try dsimp only); omega, by (try dsimp only); omega, by (try dsimp only); omega, by (try dsimp only); omega, by (try dsimp only); omega, by (try dsimp only); omega, by (try dsimp only); omega, by (try dsimp only); omega, by (try dsimp only); omega⟩ (by (try dsimp only); omega)
                            · have hq156 := i_ne hq156
                              unfold f_Mo_sortRows_188
                              refine wi (fun hq158 => ?_) (fun hq158 => ?_)
                              · have hq158 := i_eq hq158
                                unfold f_Mo_sortRows_203
                                have := i_add (a := x5_138) (b := 1) (by omega) (by omega)
                                have := i_add (a := x6_138) (b := 1) (by omega) (by omega)
                                have := i_add (a := x7_138) (b := 1) (by omega) (by omega)
                                exact lInl ⟨rfl, rfl, rfl, rfl, rfl, Wc21, F155, by (try dsimp only); omega, by (try dsimp only); omega, by (try dsimp only); omega, by (try dsimp only); omega, by (try dsimp only); omega, by (try dsimp only); omega, by (try dsimp only); omega, by (try dsimp only); omega, by (try dsimp only); omega⟩ (by (try dsimp only); omega)
                              · have hq158 := i_ne hq158
                                unfold f_Mo_sortRows_203
                                have := i_add (a := x5_138) (b := 1) (by omega) (by omega)
                                have := i_add (a := x6_138) (b := 0) (by omega) (by omega)
                                have := i_add (a := x7_138) (b := 1) (by omega) (by omega)
                                exact lInl ⟨rfl, rfl, rfl, rfl, rfl, Wc21, F155, by (try dsimp only); omega, by (try dsimp only); omega, by (try dsimp only); omega, by (try dsimp only); omega, by (try dsimp only); omega, by (try dsimp only); omega, by (try dsimp only); omega, by (try dsimp only); omega, by (try dsimp only); omega⟩ (by (try dsimp only); omega)
                        · have hq149 := i_ne hq149
                          refine wi (fun hq159 => ?_) (fun hq159 => ?_)
                          · have hq159 := i_le hq159
                            unfold f_Mo_sortRows_144
                            unfold f_Mo_sortRows_145
                            obtain ⟨v17, ev17, tv17⟩ := gf_64_80 WLc_138 t_a0
                            refine wb ev17 ?_
                            refine wi (fun hq160 => ?_) (fun hq160 => ?_)
                            · have hq160 := i_eq hq160
                              obtain ⟨v19, ev19, tv19⟩ := gf_64_79 WLc_138 t_a0
                              refine wb ev19 ?_
                              obtain ⟨v20, ev20, lv20, uv20⟩ := ga_126 WLc_138 tv19 (i := x6_138) (by omega) (by omega)
                              refine wb ev20 ?_
                              unfold f_Mo_sortRows_175
                              obtain ⟨c21, ec21, Wc21, fc21, gc21⟩ := pa_127 WLc_138 tv17 (i := x7_138) (by omega) (by omega) (x := v20) (rgi (by omega) (by omega))
                              refine wb ec21 ?_
                              have F161 := Zfr.tr FLc_138 fc21 (by decide)
                              refine wi (fun hq162 => ?_) (fun hq162 => ?_)
                              · have hq162 := i_eq hq162
                                unfold f_Mo_sortRows_188
                                refine wi (fun hq163 => ?_) (fun hq163 => ?_)
                                · have hq163 := i_eq hq163
                                  unfold f_Mo_sortRows_203
                                  have := i_add (a := x5_138) (b := 0) (by omega) (by omega)
                                  have := i_add (a := x6_138) (b := 1) (by omega) (by omega)
                                  have := i_add (a := x7_138) (b := 1) (by omega) (by omega)
                                  exact lInl ⟨rfl, rfl, rfl, rfl, rfl, Wc21, F161, by (try dsimp only); omega, by (try dsimp only); omega, by (try dsimp only); omega, by (try dsimp only); omega, by (try dsimp only); omega, by (try dsimp only); omega, by (try dsimp only); omega, by (try dsimp only); omega, by (try dsimp only); omega⟩ (by (try dsimp only); omega)
                                · have hq163 := i_ne hq163
                                  unfold f_Mo_sortRows_203
                                  have := i_add (a := x5_138) (b := 0) (by omega) (by omega)
                                  have := i_add (a := x6_138) (b := 0) (by omega) (by omega)
                                  have := i_add (a := x7_138) (b := 1) (by omega) (by omega)
                                  exact lInl ⟨rfl, rfl, rfl, rfl, rfl, Wc21, F161, by (try dsimp only); omega, by (try dsimp only); omega, by (try dsimp only); omega, by (try dsimp only); omega, by (try dsimp only); omega, by (try dsimp only); omega, by (try dsimp only); omega, by (try dsimp only); omega, by (try dsimp only); omega⟩ (by (try dsimp only); omega)
                              · have hq162 := i_ne hq162
                                unfold f_Mo_sortRows_188
                                refine wi (fun hq164 => ?_) (fun hq164 => ?_)
                                · have hq164 := i_eq hq164
                                  unfold f_Mo_sortRows_203
                                  have := i_add (a := x5_138) (b := 1) (by omega) (by omega)
                                  have := i_add (a := x6_138) (b := 1) (by omega) (by omega)
                                  have := i_add (a := x7_138) (b := 1) (by omega) (by omega)
                                  exact lInl ⟨rfl, rfl, rfl, rfl, rfl, Wc21, F161, by (try dsimp only); omega, by (try dsimp only); omega, by (try dsimp only); omega, by (try dsimp only); omega, by (try dsimp only); omega, by (try dsimp only); omega, by (try dsimp only); omega, by (try dsimp only); omega, by (try dsimp only); omega⟩ (by (try dsimp only); omega)
                                · have hq164 := i_ne hq164
                                  unfold f_Mo_sortRows_203
                                  have := i_add (a := x5_138) (b := 1) (by omega) (by omega)
                                  have := i_add (a := x6_138) (b := 0) (by omega) (by omega)
                                  have := i_add (a := x7_138) (b := 1) (by omega) (by omega)
                                  exact lInl ⟨rfl, rfl, rfl, rfl, rfl, Wc21, F161, by (try dsimp only); omega, by (try dsimp only); omega, by (try dsimp only); omega, by (try dsimp only); omega, by (try dsimp only); omega, by (try dsimp only); omega, by (try dsimp only); omega, by (try dsimp only); omega, by (try dsimp only); omega⟩ (by (try dsimp only); omega)
                            · have hq160 := i_ne hq160
                              obtain ⟨v24, ev24, tv24⟩ := gf_64_79 WLc_138 t_a0
                              refine wb ev24 ?_
                              obtain ⟨v25, ev25, lv25, uv25⟩ := ga_126 WLc_138 tv24 (i := x5_138) (by omega) (by omega)
                              refine wb ev25 ?_
                              unfold f_Mo_sortRows_175
                              obtain ⟨c21, ec21, Wc21, fc21, gc21⟩ := pa_127 WLc_138 tv17 (i := x7_138) (by omega) (by omega) (x := v25) (rgi (by omega) (by omega))
                              refine wb ec21 ?_
                              have F165 := Zfr.tr FLc_138 fc21 (by decide)
                              refine wi (fun hq166 => ?_) (fun hq166 => ?_)
                              · have hq166 := i_eq hq166
                                unfold f_Mo_sortRows_188
                                refine wi (fun hq167 => ?_) (fun hq167 => ?_)
                                · have hq167 := i_eq hq167
                                  unfold f_Mo_sortRows_203
                                  have := i_add (a := x5_138) (b := 0) (by omega) (by omega)
                                  have := i_add (a := x6_138) (b := 1) (by omega) (by omega)
                                  have := i_add (a := x7_138) (b := 1) (by omega) (by omega)
                                  exact lInl ⟨rfl, rfl, rfl, rfl, rfl, Wc21, F165, by (try dsimp only); omega, by (try dsimp only); omega, by (try dsimp only); omega, by (try dsimp only); omega, by (try dsimp only); omega, by (try dsimp only); omega, by (try dsimp only); omega, by (try dsimp only); omega, by (try dsimp only); omega⟩ (by (try dsimp only); omega)
                                · have hq167 := i_ne hq167
                                  unfold f_Mo_sortRows_203
                                  have := i_add (a := x5_138) (b := 0) (by omega) (by omega)
                                  have := i_add (a := x6_138) (b := 0) (by omega) (by omega)
                                  have := i_add (a := x7_138) (b := 1) (by omega) (by omega)
                                  exact lInl ⟨rfl, rfl, rfl, rfl, rfl, Wc21, F165, by (try dsimp only); omega, by (try dsimp only); omega, by (try dsimp only); omega, by (try dsimp only); omega, by (try dsimp only); omega, by (try dsimp only); omega, by (try dsimp only); omega, by (try dsimp only); omega, by (try dsimp only); omega⟩ (by (try dsimp only); omega)
                              · have hq166 := i_ne hq166
                                unfold f_Mo_sortRows_188
                                refine wi (fun hq168 => ?_) (fun hq168 => ?_)
                                · have hq168 := i_eq hq168
                                  unfold f_Mo_sortRows_203
                                  have := i_add (a := x5_138) (b := 1) (by omega) (by omega)
                                  have := i_add (a := x6_138) (b := 1) (by omega) (by omega)
                                  have := i_add (a := x7_138) (b := 1) (by omega) (by omega)
                                  exact lInl ⟨rfl, rfl, rfl, rfl, rfl, Wc21, F165, by (try dsimp only); omega, by (try dsimp only); omega, by (try dsimp only); omega, by (try dsimp only); omega, by (try dsimp only); omega, by (try dsimp only); omega, by (try dsimp only); omega, by (try dsimp only); omega, by (try dsimp only); omega⟩ (by (try dsimp only); omega)
                                · have hq168 := i_ne hq168
                                  unfold f_Mo_sortRows_203
                                  have := i_add (a := x5_138) (b := 1) (by omega) (by omega)
                                  have := i_add (a := x6_138) (b := 0) (by omega) (by omega)
                                  have := i_add (a := x7_138) (b := 1) (by omega) (by omega)
                                  exact lInl ⟨rfl, rfl, rfl, rfl, rfl, Wc21, F165, by (try dsimp only); omega, by (try dsimp only); omega, by (try dsimp only); omega, by (try dsimp only); omega, by (try dsimp only); omega, by (try dsimp only); omega, by (try dsimp only); omega, by (try dsimp only); omega, by (try dsimp only); omega⟩ (by (try dsimp only); omega)
                          · have hq159 := i_nle hq159
                            obtain ⟨v27, ev27, tv27⟩ := gf_64_79 WLc_138 t_a0
                            refine wb ev27 ?_
                            obtain ⟨v28, ev28, lv28, uv28⟩ := ga_126 WLc_138 tv27 (i := x5_138) (by omega) (by omega)
                            refine wb ev28 ?_
                            refine wb ev27 ?_
                            obtain ⟨v30, ev30, lv30, uv30⟩ := ga_126 WLc_138 tv27 (i := x6_138) (by omega) (by omega)
                            refine wb ev30 ?_
                            obtain ⟨w32, ew32⟩ := go_64 WLc_138 t_a0
                            refine wb ew32 ?_
                            obtain ⟨q31, eq31, Wq31, fq31, po0q31⟩ := p_Mo_compareRows hn WLc_138 (a1 := v28) (a2 := v30) t_a0 (by omega) (by omega) (by omega) (by omega)
                            refine wb eq31 ?_
                            have e169 := (Zfr.gr fq31 t_a0 (by decide)).trans ev27
                            have e170 := (Zfr.ai fq31 tv27 (by decide)).trans ev28
                            have e171 := (Zfr.ai fq31 tv27 (by decide)).trans ev30
                            have F172 := Zfr.tr FLc_138 fq31 (by decide)
                            refine wi (fun hq173 => ?_) (fun hq173 => ?_)
                            · have := i_ge q31.1
                              have := i_up q31.1
                              have hq173 := i_lt hq173
                              unfold f_Mo_sortRows_144
                              unfold f_Mo_sortRows_145
                              obtain ⟨v17, ev17, tv17⟩ := gf_64_80 Wq31 t_a0
                              refine wb ev17 ?_
                              refine wi (fun hq174 => ?_) (fun hq174 => ?_)
                              · have hq174 := i_eq hq174
                                refine wb e169 ?_
                                refine wb e171 ?_
                                unfold f_Mo_sortRows_175
                                obtain ⟨c21, ec21, Wc21, fc21, gc21⟩ := pa_127 Wq31 tv17 (i := x7_138) (by omega) (by omega) (x := v30) (rgi (by omega) (by omega))
                                refine wb ec21 ?_
                                have F175 := Zfr.tr F172 fc21 (by decide)
                                refine wi (fun hq176 => ?_) (fun hq176 => ?_)
                                · have hq176 := i_eq hq176
                                  unfold f_Mo_sortRows_188
                                  refine wi (fun hq177 => ?_) (fun hq177 => ?_)
                                  · have hq177 := i_eq hq177
                                    unfold f_Mo_sortRows_203
                                    have := i_add (a := x5_138) (b := 0) (by omega) (by omega)
                                    have := i_add (a := x6_138) (b := 1) (by omega) (by omega)
                                    have := i_add (a := x7_138) (b := 1) (by omega) (by omega)
                                    exact lInl ⟨rfl, rfl, rfl, rfl, rfl, Wc21, F175, by (try dsimp only); omega, by (try dsimp only); omega, by (try dsimp only); omega, by (try dsimp only); omega, by (try dsimp only); omega, by (try dsimp only); omega, by (try dsimp only); omega, by (try dsimp only); omega, by (try dsimp only); omega⟩ (by (try dsimp only); omega)
                                  · have hq177 := i_ne hq177
                                    unfold f_Mo_sortRows_203
                                    have := i_add (a := x5_138) (b := 0) (by omega) (by omega)
                                    have := i_add (a := x6_138) (b := 0) (by omega) (by omega)
                                    have := i_add (a := x7_138) (b := 1) (by omega) (by omega)
                                    exact lInl ⟨rfl, rfl, rfl, rfl, rfl, Wc21, F175, by (try dsimp only); omega, by (try dsimp only); omega, by (try dsimp only); omega, by (try dsimp only); omega, by (try dsimp only); omega, by (try dsimp only); omega, by (try dsimp only); omega, by (try dsimp only); omega, by (try dsimp only); omega⟩ (by (try dsimp only); omega)
                                · have hq176 := i_ne hq176
                                  unfold f_Mo_sortRows_188
                                  refine wi (fun hq178 => ?_) (fun hq178 => ?_)
                                  · have hq178 := i_eq hq178
                                    unfold f_Mo_sortRows_203
                                    have := i_add (a := x5_138) (b := 1) (by omega) (by omega)
                                    have := i_add (a := x6_138) (b := 1) (by omega) (by omega)
                                    have := i_add (a := x7_138) (b := 1) (by omega) (by omega)
                                    exact lInl ⟨rfl, rfl, rfl, rfl, rfl, Wc21, F175, by (try dsimp only); omega, by (try dsimp only); omega, by (try dsimp only); omega, by (try dsimp only); omega, by (try dsimp only); omega, by (try dsimp only); omega, by (try dsimp only); omega, by (try dsimp only); omega, by (try dsimp only); omega⟩ (by (try dsimp only); omega)
                                  · have hq178 := i_ne hq178
                                    unfold f_Mo_sortRows_203
                                    have := i_add (a := x5_138) (b := 1) (by omega) (by omega)
                                    have := i_add (a := x6_138) (b := 0) (by omega) (by omega)
                                    have := i_add (a := x7_138) (b := 1) (by omega) (by omega)
                                    exact lInl ⟨rfl, rfl, rfl, rfl, rfl, Wc21, F175, by (try dsimp only); omega, by (try dsimp only); omega, by (try dsimp only); omega, by (try dsimp only); omega, by (try dsimp only); omega, by (try dsimp only); omega, by (try dsimp only); omega, by (try dsimp only); omega, by (try dsimp only); omega⟩ (by (try dsimp only); omega)
                              · have hq174 := i_ne hq174
                                refine wb e169 ?_
                                refine wb e170 ?_
                                unfold f_Mo_sortRows_175
                                obtain ⟨c21, ec21, Wc21, fc21, gc21⟩ := pa_127 Wq31 tv17 (i := x7_138) (by omega) (by omega) (x := v28) (rgi (by omega) (by omega))
                                refine wb ec21 ?_
                                have F179 := Zfr.tr F172 fc21 (by decide)
                                refine wi (fun hq180 => ?_) (fun hq180 => ?_)
                                · have hq180 := i_eq hq180
                                  unfold f_Mo_sortRows_188
                                  refine wi (fun hq181 => ?_) (fun hq181 => ?_)
                                  · have hq181 := i_eq hq181
                                    unfold f_Mo_sortRows_203
                                    have := i_add (a := x5_138) (b := 0) (by omega) (by omega)
                                    have := i_add (a := x6_138) (b := 1) (by omega) (by omega)
                                    have := i_add (a := x7_138) (b := 1) (by omega) (by omega)
                                    exact lInl ⟨rfl, rfl, rfl, rfl, rfl, Wc21, F179, by (try dsimp only); omega, by (try dsimp only); omega, by (try dsimp only); omega, by (try dsimp only); omega, by (try dsimp only); omega, by (try dsimp only); omega, by (try dsimp only); omega, by (try dsimp only); omega, by (try dsimp only); omega⟩ (by (try dsimp only); omega)
                                  · have hq181 := i_ne hq181
                                    unfold f_Mo_sortRows_203
                                    have := i_add (a := x5_138) (b := 0) (by omega) (by omega)
                                    have := i_add (a := x6_138) (b := 0) (by omega) (by omega)
                                    have := i_add (a := x7_138) (b := 1) (by omega) (by omega)
                                    exact lInl ⟨rfl, rfl, rfl, rfl, rfl, Wc21, F179, by (try dsimp only); omega, by (try dsimp only); omega, by (try dsimp only); omega, by (try dsimp only); omega, by (try dsimp only); omega, by (try dsimp only); omega, by (try dsimp only); omega, by (try dsimp only); omega, by (try dsimp only); omega⟩ (by (try dsimp only); omega)
                                · have hq180 := i_ne hq180
                                  unfold f_Mo_sortRows_188
                                  refine wi (fun hq182 => ?_) (fun hq182 => ?_)
                                  · have hq182 := i_eq hq182
                                    unfold f_Mo_sortRows_203
                                    have := i_add (a := x5_138) (b := 1) (by omega) (by omega)
                                    have := i_add (a := x6_138) (b := 1) (by omega) (by omega)
                                    have := i_add (a := x7_138) (b := 1) (by omega) (by omega)
                                    exact lInl ⟨rfl, rfl, rfl, rfl, rfl, Wc21, F179, by (try dsimp only); omega, by (try dsimp only); omega, by (try dsimp only); omega, by (try dsimp only); omega, by (try dsimp only); omega, by (try dsimp only); omega, by (try dsimp only); omega, by (try dsimp only); omega, by (try dsimp only); omega⟩ (by (try dsimp only); omega)
                                  · have hq182 := i_ne hq182
                                    unfold f_Mo_sortRows_203
                                    have := i_add (a := x5_138) (b := 1) (by omega) (by omega)
                                    have := i_add (a := x6_138) (b := 0) (by omega) (by omega)
                                    have := i_add (a := x7_138) (b := 1) (by omega) (by omega)
                                    exact lInl ⟨rfl, rfl, rfl, rfl, rfl, Wc21, F179, by (try dsimp only); omega, by (try dsimp only); omega, by (try dsimp only); omega, by (try dsimp only); omega, by (try dsimp only); omega, by (try dsimp only); omega, by (try dsimp only); omega, by (try dsimp only); omega, by (try dsimp only); omega⟩ (by (try dsimp only); omega)
                            · have := i_ge q31.1
                              have := i_up q31.1
                              have hq173 := i_nlt hq173
                              unfold f_Mo_sortRows_140
                              unfold f_Mo_sortRows_145
                              obtain ⟨v17, ev17, tv17⟩ := gf_64_80 Wq31 t_a0
                              refine wb ev17 ?_
                              refine wi (fun hq183 => ?_) (fun hq183 => ?_)
                              · have hq183 := i_eq hq183
                                refine wb e169 ?_
                                refine wb e171 ?_
                                unfold f_Mo_sortRows_175
                                obtain ⟨c21, ec21, Wc21, fc21, gc21⟩ := pa_127 Wq31 tv17 (i := x7_138) (by omega) (by omega) (x := v30) (rgi (by omega) (by omega))
                                refine wb ec21 ?_
                                have F184 := Zfr.tr F172 fc21 (by decide)
                                refine wi (fun hq185 => ?_) (fun hq185 => ?_)
                                · have hq185 := i_eq hq185
                                  unfold f_Mo_sortRows_188
                                  refine wi (fun hq186 => ?_) (fun hq186 => ?_)
                                  · have hq186 := i_eq hq186
                                    unfold f_Mo_sortRows_203
                                    have := i_add (a := x5_138) (b := 0) (by omega) (by omega)
                                    have := i_add (a := x6_138) (b := 1) (by omega) (by omega)
                                    have := i_add (a := x7_138) (b := 1) (by omega) (by omega)
                                    exact lInl ⟨rfl, rfl, rfl, rfl, rfl, Wc21, F184, by (try dsimp only); omega, by (try dsimp only); omega, by (try dsimp only); omega, by (try dsimp only); omega, by (try dsimp only); omega, by (try dsimp only); omega, by (try dsimp only); omega, by (try dsimp only); omega, by (try dsimp only); omega⟩ (by (try dsimp only); omega)
                                  · have hq186 := i_ne hq186
                                    unfold f_Mo_sortRows_203
                                    have := i_add (a := x5_138) (b := 0) (by omega) (by omega)
                                    have := i_add (a := x6_138) (b := 0) (by omega) (by omega)
                                    have := i_add (a := x7_138) (b := 1) (by omega) (by omega)
                                    exact lInl ⟨rfl, rfl, rfl, rfl, rfl, Wc21, F184, by (try dsimp only); omega, by (try dsimp only); omega, by (try dsimp only); omega, by (try dsimp only); omega, by (try dsimp only); omega, by (try dsimp only); omega, by (try dsimp only); omega, by (try dsimp only); omega, by (try dsimp only); omega⟩ (by (try dsimp only); omega)
                                · have hq185 := i_ne hq185
                                  unfold f_Mo_sortRows_188
                                  refine wi (fun hq187 => ?_) (fun hq187 => ?_)
                                  · have hq187 := i_eq hq187
                                    unfold f_Mo_sortRows_203
                                    have := i_add (a := x5_138) (b := 1) (by omega) (by omega)
                                    have := i_add (a := x6_138) (b := 1) (by omega) (by omega)
                                    have := i_add (a := x7_138) (b := 1) (by omega) (by omega)
                                    exact lInl ⟨rfl, rfl, rfl, rfl, rfl, Wc21, F184, by (try dsimp only); omega, by (try dsimp only); omega, by (try dsimp only); omega, by (try dsimp only); omega, by (try dsimp only); omega, by (try dsimp only); omega, by (try dsimp only); omega, by (try dsimp only); omega, by (try dsimp only); omega⟩ (by (try dsimp only); omega)
                                  · have hq187 := i_ne hq187
                                    unfold f_Mo_sortRows_203
                                    have := i_add (a := x5_138) (b := 1) (by omega) (by omega)
                                    have := i_add (a := x6_138) (b := 0) (by omega) (by omega)
                                    have := i_add (a := x7_138) (b := 1) (by omega) (by omega)
                                    exact lInl ⟨rfl, rfl, rfl, rfl, rfl, Wc21, F184, by (try dsimp only); omega, by (try dsimp only); omega, by (try dsimp only); omega, by (try dsimp only); omega, by (try dsimp only); omega, by (try dsimp only); omega, by (try dsimp only); omega, by (try dsimp only); omega, by (try dsimp only); omega⟩ (by (try dsimp only); omega)
                              · have hq183 := i_ne hq183
                                refine wb e169 ?_
                                refine wb e170 ?_
                                unfold f_Mo_sortRows_175
                                obtain ⟨c21, ec21, Wc21, fc21, gc21⟩ := pa_127 Wq31 tv17 (i := x7_138) (by omega) (by omega) (x := v28) (rgi (by omega) (by omega))
                                refine wb ec21 ?_
                                have F188 := Zfr.tr F172 fc21 (by decide)
                                refine wi (fun hq189 => ?_) (fun hq189 => ?_)
                                · have hq189 := i_eq hq189
                                  unfold f_Mo_sortRows_188
                                  refine wi (fun hq190 => ?_) (fun hq190 => ?_)
                                  · have hq190 := i_eq hq190
                                    unfold f_Mo_sortRows_203
                                    have := i_add (a := x5_138) (b := 0) (by omega) (by omega)
                                    have := i_add (a := x6_138) (b := 1) (by omega) (by omega)
                                    have := i_add (a := x7_138) (b := 1) (by omega) (by omega)
                                    exact lInl ⟨rfl, rfl, rfl, rfl, rfl, Wc21, F188, by (try dsimp only); omega, by (try dsimp only); omega, by (try dsimp only); omega, by (try dsimp only); omega, by (try dsimp only); omega, by (try dsimp only); omega, by (try dsimp only); omega, by (try dsimp only); omega, by (try dsimp only); omega⟩ (by (try dsimp only); omega)
                                  · have hq190 := i_ne hq190
                                    unfold f_Mo_sortRows_203
                                    have := i_add (a := x5_138) (b := 0) (by omega) (by omega)
                                    have := i_add (a := x6_138) (b := 0) (by omega) (by omega)
                                    have := i_add (a := x7_138) (b := 1) (by omega) (by omega)
                                    exact lInl ⟨rfl, rfl, rfl, rfl, rfl, Wc21, F188, by (try dsimp only); omega, by (try dsimp only); omega, by (try dsimp only); omega, by (try dsimp only); omega, by (try dsimp only); omega, by (try dsimp only); omega, by (try dsimp only); omega, by (try dsimp only); omega, by (try dsimp only); omega⟩ (by (try dsimp only); omega)
                                · have hq189 := i_ne hq189
                                  unfold f_Mo_sortRows_188
                                  refine wi (fun hq191 => ?_) (fun hq191 => ?_)
                                  · have hq191 := i_eq hq191
                                    unfold f_Mo_sortRows_203
                                    have := i_add (a := x5_138) (b := 1) (by omega) (by omega)
                                    have := i_add (a := x6_138) (b := 1) (by omega) (by omega)
                                    have := i_add (a := x7_138) (b := 1) (by omega) (by omega)
                                    exact lInl ⟨rfl, rfl, rfl, rfl, rfl, Wc21, F188, by (try dsimp only); omega, by (try dsimp only); omega, by (try dsimp only); omega, by (try dsimp only); omega, by (try dsimp only); omega, by (try dsimp only); omega, by (try dsimp only); omega, by (try dsimp only); omega, by (try dsimp only); omega⟩ (by (try dsimp only); omega)
                                  · have hq191 := i_ne hq191
                                    unfold f_Mo_sortRows_203
                                    have := i_add (a := x5_138) (b := 1) (by omega) (by omega)
                                    have := i_add (a := x6_138) (b := 0) (by omega) (by omega)
                                    have := i_add (a := x7_138) (b := 1) (by omega) (by omega)
                                    exact lInl ⟨rfl, rfl, rfl, rfl, rfl, Wc21, F188, by (try dsimp only); omega, by (try dsimp only); omega, by (try dsimp only); omega, by (try dsimp only); omega, by (try dsimp only); omega, by (try dsimp only); omega, by (try dsimp only); omega, by (try dsimp only); omega, by (try dsimp only); omega⟩ (by (try dsimp only); omega)
                    · exact ⟨rfl, rfl, rfl, rfl, rfl, WLc_15, Zfr.rf, by (try dsimp only); omega, by (try dsimp only); omega, by (try dsimp only); omega, by (try dsimp only); omega, by (try dsimp only); omega, by (try dsimp only); omega, by (try dsimp only); omega, by (try dsimp only); omega, by (try dsimp only); omega⟩
                    · (try dsimp only); omega
                  obtain ⟨b, eb, hb⟩ := L137
                  refine wb eb ?_
                  clear eb
                  obtain ⟨z0_192, z1_192, z2_192, c_192⟩ := b
                  try dsimp only at hb ⊢
                  obtain ⟨rfl, rfl, rfl, WXc_192, FXc_192⟩ := hb
                  have F193 := Zfr.tr FLc_15 FXc_192 (by decide)
                  exact lInl ⟨rfl, rfl, WXc_192, F193, by (try dsimp only); omega, by (try dsimp only); omega⟩ (by (try dsimp only); omega)
                · have := li_2
                  have := i_mull (a := 2) (b := x1_10) (n := 2) li_2 (by omega) (by omega)
                  have := i_add (a := x2_15) (b := (2 * x1_10)) (by omega) (by omega)
                  have hq136 := i_nle hq136
                  unfold f_Mo_sortRows_88
                  unfold f_Mo_sortRows_99
                  have L194 : ∃ b, zlp (fun a : Nat × Int32 × Int32 × Int32 × Int32 × Int32 × Int32 × Int32 × Zc => g_Mo_sortRows_99 nf a.1 a.2.1 a.2.2.1 a.2.2.2.1 a.2.2.2.2.1 a.2.2.2.2.2.1 a.2.2.2.2.2.2.1 a.2.2.2.2.2.2.2.1 a.2.2.2.2.2.2.2.2) nf (a0, x1_10, x2_15, (x2_15 + x1_10), (x2_15 + (2 * x1_10)), x2_15, (x2_15 + x1_10), x2_15, c_15) = some b ∧ (fun b : (Nat × Int32 × Int32 × Zc) => a0 = b.1 ∧ x1_10 = b.2.1 ∧ x2_15 = b.2.2.1 ∧ Zwt zty G b.2.2.2 ∧ Zfr G ([(127, 0)] : List (Nat × Nat)) c_15 b.2.2.2) b := by
                    refine wlp (fun a : Nat × Int32 × Int32 × Int32 × Int32 × Int32 × Int32 × Int32 × Zc => a0 = a.1 ∧ x1_10 = a.2.1 ∧ x2_15 = a.2.2.1 ∧ (x2_15 + x1_10) = a.2.2.2.1 ∧ (x2_15 + (2 * x1_10)) = a.2.2.2.2.1 ∧ Zwt zty G a.2.2.2.2.2.2.2.2 ∧ Zfr G ([(127, 0)] : List (Nat × Nat)) c_15 a.2.2.2.2.2.2.2.2 ∧ 0 ≤ a.2.2.2.2.2.1.toInt ∧ a.2.2.2.2.2.1.toInt ≤ 20000 ∧ 0 ≤ a.2.2.2.2.2.2.1.toInt ∧ a.2.2.2.2.2.2.1.toInt ≤ 20000 ∧ 0 ≤ a.2.2.2.2.2.2.2.1.toInt ∧ a.2.2.2.2.2.2.2.1.toInt ≤ 20000 ∧ a.2.2.2.2.2.1.toInt ≤ a.2.2.2.2.2.2.2.1.toInt ∧ a.2.2.2.2.2.2.1.toInt ≤ (x2_15 + (2 * x1_10)).toInt ∧ a.2.2.2.2.2.2.2.1.toInt ≤ (x2_15 + (2 * x1_10)).toInt) (fun a => (20000 - a.2.2.2.2.2.2.2.1.toInt).toNat) (fun b : (Nat × Int32 × Int32 × Zc) => a0 = b.1 ∧ x1_10 = b.2.1 ∧ x2_15 = b.2.2.1 ∧ Zwt zty G b.2.2.2 ∧ Zfr G ([(127, 0)] : List (Nat × Nat)) c_15 b.2.2.2) ?_ ?_ ?_
                    · rintro ⟨x0_195, x1_195, x2_195, x3_195, x4_195, x5_195, x6_195, x7_195, c_195⟩ hI
                      try dsimp only at hI ⊢
                      obtain ⟨rfl, rfl, rfl, rfl, rfl, WLc_195, FLc_195, j196, j197, j198, j199, j200, j201, j202, j203, j204⟩ := hI
                      unfold g_Mo_sortRows_99
                      refine wi (fun hq205 => ?_) (fun hq205 => ?_)
                      · have hq205 := i_le hq205
                        exact lInr ⟨rfl, rfl, rfl, WLc_195, FLc_195⟩
                      · have hq205 := i_nle hq205
                        refine wi (fun hq206 => ?_) (fun hq206 => ?_)
                        · have hq206 := i_eq hq206
                          unfold f_Mo_sortRows_140
                          unfold f_Mo_sortRows_145
                          obtain ⟨v17, ev17, tv17⟩ := gf_64_80 WLc_195 t_a0
                          refine wb ev17 ?_
                          refine wi (fun hq207 => ?_) (fun hq207 => ?_)
                          · have hq207 := i_eq hq207
                            obtain ⟨v19, ev19, tv19⟩ := gf_64_79 WLc_195 t_a0
                            refine wb ev19 ?_
                            obtain ⟨v20, ev20, lv20, uv20⟩ := ga_126 WLc_195 tv19 (i := x6_195) (by omega) (by omega)
                            refine wb ev20 ?_
                            unfold f_Mo_sortRows_175
                            obtain ⟨c21, ec21, Wc21, fc21, gc21⟩ := pa_127 WLc_195 tv17 (i := x7_195) (by omega) (by omega) (x := v20) (rgi (by omega) (by omega))
                            refine wb ec21 ?_
                            have F208 := Zfr.tr FLc_195 fc21 (by decide)
                            refine wi (fun hq209 => ?_) (fun hq209 => ?_)
                            · have hq209 := i_eq hq209
                              unfold f_Mo_sortRows_188
                              refine wi (fun hq210 => ?_) (fun hq210 => ?_)
                              · have hq210 := i_eq hq210
                                unfold f_Mo_sortRows_203
                                have := i_add (a := x5_195) (b := 0) (by omega) (by omega)
                                have := i_add (a := x6_195) (b := 1) (by omega) (by omega)
                                have := i_add (a := x7_195) (b := 1) (by omega) (by omega)
                                exact lInl ⟨rfl, rfl, rfl, rfl, rfl, Wc21, F208, by (try dsimp only); omega, by (try dsimp only); omega, by (try dsimp only); omega, by (try dsimp only); omega, by (try dsimp only); omega, by (try dsimp only); omega, by (try dsimp only); omega, by (try dsimp only); omega, by (try dsimp only); omega⟩ (by (try dsimp only); omega)
                              · have hq210 := i_ne hq210
                                unfold f_Mo_sortRows_203
                                have := i_add (a := x5_195) (b := 0) (by omega) (by omega)
                                have := i_add (a := x6_195) (b := 0) (by omega) (by omega)
                                have := i_add (a := x7_195) (b := 1) (by omega) (by omega)
                                exact lInl ⟨rfl, rfl, rfl, rfl, rfl, Wc21, F208, by (try dsimp only); omega, by (try dsimp only); omega, by (try dsimp only); omega, by (try dsimp only); omega, by (try dsimp only); omega, by (try dsimp only); omega, by (try dsimp only); omega, by (try dsimp only); omega, by (try dsimp only); omega⟩ (by (try dsimp only); omega)
                            · have hq209 := i_ne hq209
                              unfold f_Mo_sortRows_188
                              refine wi (fun hq211 => ?_) (fun hq211 => ?_)
                              · have hq211 := i_eq hq211
                                unfold f_Mo_sortRows_203
                                have := i_add (a := x5_195) (b := 1) (by omega) (by omega)
                                have := i_add (a := x6_195) (b := 1) (by omega) (by omega)
                                have := i_add (a := x7_195) (b := 1) (by omega) (by omega)
                                exact lInl ⟨rfl, rfl, rfl, rfl, rfl, Wc21, F208, by (try dsimp only); omega, by (try dsimp only); omega, by (try dsimp only); omega, by (try dsimp only); omega, by (try dsimp only); omega, by (try dsimp only); omega, by (try dsimp only); omega, by (try dsimp only); omega, by (try dsimp only); omega⟩ (by (try dsimp only); omega)
                              · have hq211 := i_ne hq211
                                unfold f_Mo_sortRows_203
                                have := i_add (a := x5_195) (b := 1) (by omega) (by omega)
                                have := i_add (a := x6_195) (b := 0) (by omega) (by omega)
                                have := i_add (a := x7_195) (b := 1) (by omega) (by omega)
                                exact lInl ⟨rfl, rfl, rfl, rfl, rfl, Wc21, F208, by (try dsimp only); omega, by (try dsimp only); omega, by (try dsimp only); omega, by (try dsimp only); omega, by (try dsimp only); omega, by (try dsimp only); omega, by (try dsimp only); omega, by (try dsimp only); omega, by (try dsimp only); omega⟩ (by (try dsimp only); omega)
                          · have hq207 := i_ne hq207
                            obtain ⟨v24, ev24, tv24⟩ := gf_64_79 WLc_195 t_a0
                            refine wb ev24 ?_
                            obtain ⟨v25, ev25, lv25, uv25⟩ := ga_126 WLc_195 tv24 (i := x5_195) (by omega) (by omega)
                            refine wb ev25 ?_
                            unfold f_Mo_sortRows_175
                            obtain ⟨c21, ec21, Wc21, fc21, gc21⟩ := pa_127 WLc_195 tv17 (i := x7_195) (by omega) (by omega) (x := v25) (rgi (by omega) (by omega))
                            refine wb ec21 ?_
                            have F212 := Zfr.tr FLc_195 fc21 (by decide)
                            refine wi (fun hq213 => ?_) (fun hq213 => ?_)
                            · have hq213 := i_eq hq213
                              unfold f_Mo_sortRows_188
                              refine wi (fun hq214 => ?_) (fun hq214 => ?_)
                              · have hq214 := i_eq hq214
                                unfold f_Mo_sortRows_203
                                have := i_add (a := x5_195) (b := 0) (by omega) (by omega)
                                have := i_add (a := x6_195) (b := 1) (by omega) (by omega)
                                have := i_add (a := x7_195) (b := 1) (by omega) (by omega)
                                exact lInl ⟨rfl, rfl, rfl, rfl, rfl, Wc21, F212, by (try dsimp only); omega, by (try dsimp only); omega, by (try dsimp only); omega, by (try dsimp only); omega, by (try dsimp only); omega, by (try dsimp only); omega, by (try dsimp only); omega, by (try dsimp only); omega, by (try dsimp only); omega⟩ (by (try dsimp only); omega)
                              · have hq214 := i_ne hq214
                                unfold f_Mo_sortRows_203
                                have := i_add (a := x5_195) (b := 0) (by omega) (by omega)
                                have := i_add (a := x6_195) (b := 0) (by omega) (by omega)
                                have := i_add (a := x7_195) (b := 1) (by omega) (by omega)
                                exact lInl ⟨rfl, rfl, rfl, rfl, rfl, Wc21, F212, by (try dsimp only); omega, by (try dsimp only); omega, by (try dsimp only); omega, by (try dsimp only); omega, by (try dsimp only); omega, by (try dsimp only); omega, by (try dsimp only); omega, by (try dsimp only); omega, by (try dsimp only); omega⟩ (by (try dsimp only); omega)
                            · have hq213 := i_ne hq213
                              unfold f_Mo_sortRows_188
                              refine wi (fun hq215 => ?_) (fun hq215 => ?_)
                              · have hq215 := i_eq hq215
                                unfold f_Mo_sortRows_203
                                have := i_add (a := x5_195) (b := 1) (by omega) (by omega)
                                have := i_add (a := x6_195) (b := 1) (by omega) (by omega)
                                have := i_add (a := x7_195) (b := 1) (by omega) (by omega)
                                exact lInl ⟨rfl, rfl, rfl, rfl, rfl, Wc21, F212, by (try dsimp only); omega, by (try dsimp only); omega, by (try dsimp only); omega, by (try dsimp only); omega, by (try dsimp only); omega, by (try dsimp only); omega, by (try dsimp only); omega, by (try dsimp only); omega, by (try dsimp only); omega⟩ (by (try dsimp only); omega)
                              · have hq215 := i_ne hq215
                                unfold f_Mo_sortRows_203
                                have := i_add (a := x5_195) (b := 1) (by omega) (by omega)
                                have := i_add (a := x6_195) (b := 0) (by omega) (by omega)
                                have := i_add (a := x7_195) (b := 1) (by omega) (by omega)
                                exact lInl ⟨rfl, rfl, rfl, rfl, rfl, Wc21, F212, by (try dsimp only); omega, by (try dsimp only); omega, by (try dsimp only); omega, by (try dsimp only); omega, by (try dsimp only); omega, by (try dsimp only); omega, by (try dsimp only); omega, by (try dsimp only); omega, by (try dsimp only); omega⟩ (by (try dsimp only); omega)
                        · have hq206 := i_ne hq206
                          refine wi (fun hq216 => ?_) (fun hq216 => ?_)
                          · have hq216 := i_le hq216
                            unfold f_Mo_sortRows_144
                            unfold f_Mo_sortRows_145
                            obtain ⟨v17, ev17, tv17⟩ := gf_64_80 WLc_195 t_a0
                            refine wb ev17 ?_
                            refine wi (fun hq217 => ?_) (fun hq217 => ?_)
                            · have hq217 := i_eq hq217
                              obtain ⟨v19, ev19, tv19⟩ := gf_64_79 WLc_195 t_a0
                              refine wb ev19 ?_
                              obtain ⟨v20, ev20, lv20, uv20⟩ := ga_126 WLc_195 tv19 (i := x6_195) (by omega) (by omega)
                              refine wb ev20 ?_
                              unfold f_Mo_sortRows_175
                              obtain ⟨c21, ec21, Wc21, fc21, gc21⟩ := pa_127 WLc_195 tv17 (i := x7_195) (by omega) (by omega) (x := v20) (rgi (by omega) (by omega))
                              refine wb ec21 ?_
                              have F218 := Zfr.tr FLc_195 fc21 (by decide)
                              refine wi (fun hq219 => ?_) (fun hq219 => ?_)
                              · have hq219 := i_eq hq219
                                unfold f_Mo_sortRows_188
                                refine wi (fun hq220 => ?_) (fun hq220 => ?_)
                                · have hq220 := i_eq hq220
                                  unfold f_Mo_sortRows_203
                                  have := i_add (a := x5_195) (b := 0) (by omega) (by omega)
                                  have := i_add (a := x6_195) (b := 1) (by omega) (by omega)
                                  have := i_add (a := x7_195) (b := 1) (by omega) (by omega)
                                  exact lInl ⟨rfl, rfl, rfl, rfl, rfl, Wc21, F218, by (try dsimp only); omega, by (try dsimp only); omega, by (try dsimp only); omega, by (try dsimp only); omega, by (try dsimp only); omega, by (try dsimp only); omega, by (try dsimp only); omega, by (try dsimp only); omega, by (try dsimp only); omega⟩ (by (try dsimp only); omega)
                                · have hq220 := i_ne hq220
                                  unfold f_Mo_sortRows_203
                                  have := i_add (a := x5_195) (b := 0) (by omega) (by omega)
                                  have := i_add (a := x6_195) (b := 0) (by omega) (by omega)
                                  have := i_add (a := x7_195) (b := 1) (by omega) (by omega)
                                  exact lInl ⟨rfl, rfl, rfl, rfl, rfl, Wc21, F218, by (try dsimp only); omega, by (try dsimp only); omega, by (try dsimp only); omega, by (try dsimp only); omega, by (try dsimp only); omega, by (try dsimp only); omega, by (try dsimp only); omega, by (try dsimp only); omega, by (try dsimp only); omega⟩ (by (try dsimp only); omega)
                              · have hq219 := i_ne hq219
                                unfold f_Mo_sortRows_188
                                refine wi (fun hq221 => ?_) (fun hq221 => ?_)
                                · have hq221 := i_eq hq221
                                  unfold f_Mo_sortRows_203
                                  have := i_add (a := x5_195) (b := 1) (by omega) (by omega)
                                  have := i_add (a := x6_195) (b := 1) (by omega) (by omega)
                                  have := i_add (a := x7_195) (b := 1) (by omega) (by omega)
                                  exact lInl ⟨rfl, rfl, rfl, rfl, rfl, Wc21, F218, by (try dsimp only); omega, by (try dsimp only); omega, by (try dsimp only); omega, by (try dsimp only); omega, by (try dsimp only); omega, by (try dsimp only); omega, by (try dsimp only); omega, by (try dsimp only); omega, by (try dsimp only); omega⟩ (by (try dsimp only); omega)
                                · have hq221 := i_ne hq221
                                  unfold f_Mo_sortRows_203
                                  have := i_add (a := x5_195) (b := 1) (by omega) (by omega)
                                  have := i_add (a := x6_195) (b := 0) (by omega) (by omega)
                                  have := i_add (a := x7_195) (b := 1) (by omega) (by omega)
                                  exact lInl ⟨rfl, rfl, rfl, rfl, rfl, Wc21, F218, by (try dsimp only); omega, by (try dsimp only); omega, by (try dsimp only); omega, by (try dsimp only); omega, by (try dsimp only); omega, by (try dsimp only); omega, by (try dsimp only); omega, by (try dsimp only); omega, by (try dsimp only); omega⟩ (by (try dsimp only); omega)
                            · have hq217 := i_ne hq217
                              obtain ⟨v24, ev24, tv24⟩ := gf_64_79 WLc_195 t_a0
                              refine wb ev24 ?_
                              obtain ⟨v25, ev25, lv25, uv25⟩ := ga_126 WLc_195 tv24 (i := x5_195) (by omega) (by omega)
                              refine wb ev25 ?_
                              unfold f_Mo_sortRows_175
                              obtain ⟨c21, ec21, Wc21, fc21, gc21⟩ := pa_127 WLc_195 tv17 (i := x7_195) (by omega) (by omega) (x := v25) (rgi (by omega) (by omega))
                              refine wb ec21 ?_
                              have F222 := Zfr.tr FLc_195 fc21 (by decide)
                              refine wi (fun hq223 => ?_) (fun hq223 => ?_)
                              · have hq223 := i_eq hq223
                                unfold f_Mo_sortRows_188
                                refine wi (fun hq224 => ?_) (fun hq224 => ?_)
                                · have hq224 := i_eq hq224
                                  unfold f_Mo_sortRows_203
                                  have := i_add (a := x5_195) (b := 0) (by omega) (by omega)
                                  have := i_add (a := x6_195) (b := 1) (by omega) (by omega)
                                  have := i_add (a := x7_195) (b := 1) (by omega) (by omega)
                                  exact lInl ⟨rfl, rfl, rfl, rfl, rfl, Wc21, F222, by (try dsimp only); omega, by (try dsimp only); omega, by (try dsimp only); omega, by (try dsimp only); omega, by (try dsimp only); omega, by (try dsimp only); omega, by (try dsimp only); omega, by (try dsimp only); omega, by (try dsimp only); omega⟩ (by (try dsimp only); omega)
                                · have hq224 := i_ne hq224
                                  unfold f_Mo_sortRows_203
                                  have := i_add (a := x5_195) (b := 0) (by omega) (by omega)
                                  have := i_add (a := x6_195) (b := 0) (by omega) (by omega)
                                  have := i_add (a := x7_195) (b := 1) (by omega) (by omega)
                                  exact lInl ⟨rfl, rfl, rfl, rfl, rfl, Wc21, F222, by (try dsimp only); omega, by (try dsimp only); omega, by (try dsimp only); omega, by (try dsimp only); omega, by (try dsimp only); omega, by (try dsimp only); omega, by (try dsimp only); omega, by (try dsimp only); omega, by (try dsimp only); omega⟩ (by (try dsimp only); omega)
                              · have hq223 := i_ne hq223
                                unfold f_Mo_sortRows_188
                                refine wi (fun hq225 => ?_) (fun hq225 => ?_)
                                · have hq225 := i_eq hq225
                                  unfold f_Mo_sortRows_203
                                  have := i_add (a := x5_195) (b := 1) (by omega) (by omega)
                                  have := i_add (a := x6_195) (b := 1) (by omega) (by omega)
                                  have := i_add (a := x7_195) (b := 1) (by omega) (by omega)
                                  exact lInl ⟨rfl, rfl, rfl, rfl, rfl, Wc21, F222, by (try dsimp only); omega, by (try dsimp only); omega, by (try dsimp only); omega, by (try dsimp only); omega, by (try dsimp only); omega, by (try dsimp only); omega, by (try dsimp only); omega, by (try dsimp only); omega, by (try dsimp only); omega⟩ (by (try dsimp only); omega)
                                · have hq225 := i_ne hq225
                                  unfold f_Mo_sortRows_203
                                  have := i_add (a := x5_195) (b := 1) (by omega) (by omega)
                                  have := i_add (a := x6_195) (b := 0) (by omega) (by omega)
                                  have := i_add (a := x7_195) (b := 1) (by omega) (by omega)
                                  exact lInl ⟨rfl, rfl, rfl, rfl, rfl, Wc21, F222, by (try dsimp only); omega, by (try dsimp only); omega, by (try dsimp only); omega, by (try dsimp only); omega, by (try dsimp only); omega, by (try dsimp only); omega, by (try dsimp only); omega, by (try dsimp only); omega, by (try dsimp only); omega⟩ (by (try dsimp only); omega)
                          · have hq216 := i_nle hq216
                            obtain ⟨v27, ev27, tv27⟩ := gf_64_79 WLc_195 t_a0
                            refine wb ev27 ?_
                            obtain ⟨v28, ev28, lv28, uv28⟩ := ga_126 WLc_195 tv27 (i := x5_195) (by omega) (by omega)
                            refine wb ev28 ?_
                            refine wb ev27 ?_
                            obtain ⟨v30, ev30, lv30, uv30⟩ := ga_126 WLc_195 tv27 (i := x6_195) (by omega) (by omega)
                            refine wb ev30 ?_
                            obtain ⟨w32, ew32⟩ := go_64 WLc_195 t_a0
                            refine wb ew32 ?_
                            obtain ⟨q31, eq31, Wq31, fq31, po0q31⟩ := p_Mo_compareRows hn WLc_195 (a1 := v28) (a2 := v30) t_a0 (by omega) (by omega) (by omega) (by omega)
                            refine wb eq31 ?_
                            have e226 := (Zfr.gr fq31 t_a0 (by decide)).trans ev27
                            have e227 := (Zfr.ai fq31 tv27 (by decide)).trans ev28
                            have e228 := (Zfr.ai fq31 tv27 (by decide)).trans ev30
                            have F229 := Zfr.tr FLc_195 fq31 (by decide)
                            refine wi (fun hq230 => ?_) (fun hq230 => ?_)
                            · have := i_ge q31.1
                              have := i_up q31.1
                              have hq230 := i_lt hq230
                              unfold f_Mo_sortRows_144
                              unfold f_Mo_sortRows_145
                              obtain ⟨v17, ev17, tv17⟩ := gf_64_80 Wq31 t_a0
                              refine wb ev17 ?_
                              refine wi (fun hq231 => ?_) (fun hq231 => ?_)
                              · have hq231 := i_eq hq231
                                refine wb e226 ?_
                                refine wb e228 ?_
                                unfold f_Mo_sortRows_175
                                obtain ⟨c21, ec21, Wc21, fc21, gc21⟩ := pa_127 Wq31 tv17 (i := x7_195) (by omega) (by omega) (x := v30) (rgi (by omega) (by omega))
                                refine wb ec21 ?_
                                have F232 := Zfr.tr F229 fc21 (by decide)
                                refine wi (fun hq233 => ?_) (fun hq233 => ?_)
                                · have hq233 := i_eq hq233
                                  unfold f_Mo_sortRows_188
                                  refine wi (fun hq234 => ?_) (fun hq234 => ?_)
                                  · have hq234 := i_eq hq234
                                    unfold f_Mo_sortRows_203
                                    have := i_add (a := x5_195) (b := 0) (by omega) (by omega)
                                    have := i_add (a := x6_195) (b := 1) (by omega) (by omega)
                                    have := i_add (a := x7_195) (b := 1) (by omega) (by omega)
                                    exact lInl ⟨rfl, rfl, rfl, rfl, rfl, Wc21, F232, by (try dsimp only); omega, by (try dsimp only); omega, by (try dsimp only); omega, by (try dsimp only); omega, by (try dsimp only); omega, by (try dsimp only); omega, by (try dsimp only); omega, by (try dsimp only); omega, by (try dsimp only); omega⟩ (by (try dsimp only); omega)
                                  · have hq234 := i_ne hq234
                                    unfold f_Mo_sortRows_203
                                    have := i_add (a := x5_195) (b := 0) (by omega) (by omega)
                                    have := i_add (a := x6_195) (b := 0) (by omega) (by omega)
                                    have := i_add (a := x7_195) (b := 1) (by omega) (by omega)
                                    exact lInl ⟨rfl, rfl, rfl, rfl, rfl, Wc21, F232, by (try dsimp only); omega, by (try dsimp only); omega, by (try dsimp only); omega, by (try dsimp only); omega, by (try dsimp only); omega, by (try dsimp only); omega, by (try dsimp only); omega, by (try dsimp only); omega, by (try dsimp only); omega⟩ (by (try dsimp only); omega)
                                · have hq233 := i_ne hq233
                                  unfold f_Mo_sortRows_188
                                  refine wi (fun hq235 => ?_) (fun hq235 => ?_)
                                  · have hq235 := i_eq hq235
                                    unfold f_Mo_sortRows_203
                                    have := i_add (a := x5_195) (b := 1) (by omega) (by omega)
                                    have := i_add (a := x6_195) (b := 1) (by omega) (by omega)
                                    have := i_add (a := x7_195) (b := 1) (by omega) (by omega)
                                    exact lInl ⟨rfl, rfl, rfl, rfl, rfl, Wc21, F232, by (try dsimp only); omega, by (try dsimp only); omega, by (try dsimp only); omega, by (try dsimp only); omega, by (try dsimp only); omega, by (try dsimp only); omega, by (try dsimp only); omega, by (try dsimp only); omega, by (try dsimp only); omega⟩ (by (try dsimp only); omega)
                                  · have hq235 := i_ne hq235
                                    unfold f_Mo_sortRows_203
                                    have := i_add (a := x5_195) (b := 1) (by omega) (by omega)
                                    have := i_add (a := x6_195) (b := 0) (by omega) (by omega)
                                    have := i_add (a := x7_195) (b := 1) (by omega) (by omega)
                                    exact lInl ⟨rfl, rfl, rfl, rfl, rfl, Wc21, F232, by (try dsimp only); omega, by (try dsimp only); omega, by (try dsimp only); omega, by (try dsimp only); omega, by (try dsimp only); omega, by (try dsimp only); omega, by (try dsimp only); omega, by (try dsimp only); omega, by (try dsimp only); omega⟩ (by (try dsimp only); omega)
                              · have hq231 := i_ne hq231
                                refine wb e226 ?_
                                refine wb e227 ?_
                                unfold f_Mo_sortRows_175
                                obtain ⟨c21, ec21, Wc21, fc21, gc21⟩ := pa_127 Wq31 tv17 (i := x7_195) (by omega) (by omega) (x := v28) (rgi (by omega) (by omega))
                                refine wb ec21 ?_
                                have F236 := Zfr.tr F229 fc21 (by decide)
                                refine wi (fun hq237 => ?_) (fun hq237 => ?_)
                                · have hq237 := i_eq hq237
                                  unfold f_Mo_sortRows_188
                                  refine wi (fun hq238 => ?_) (fun hq238 => ?_)
                                  · have hq238 := i_eq hq238
                                    unfold f_Mo_sortRows_203
                                    have := i_add (a := x5_195) (b := 0) (by omega) (by omega)
                                    have := i_add (a := x6_195) (b := 1) (by omega) (by omega)
                                    have := i_add (a := x7_195) (b := 1) (by omega) (by omega)
                                    exact lInl ⟨rfl, rfl, rfl, rfl, rfl, Wc21, F236, by (try dsimp only); omega, by (try dsimp only); omega, by (try dsimp only); omega, by (try dsimp only); omega, by (try dsimp only); omega, by (try dsimp only); omega, by (try dsimp only); omega, by (try dsimp only); omega, by (try dsimp only); omega⟩ (by (try dsimp only); omega)
                                  · have hq238 := i_ne hq238
                                    unfold f_Mo_sortRows_203
                                    have := i_add (a := x5_195) (b := 0) (by omega) (by omega)
                                    have := i_add (a := x6_195) (b := 0) (by omega) (by omega)
                                    have := i_add (a := x7_195) (b := 1) (by omega) (by omega)
                                    exact lInl ⟨rfl, rfl, rfl, rfl, rfl, Wc21, F236, by (try dsimp only); omega, by (try dsimp only); omega, by (try dsimp only); omega, by (try dsimp only); omega, by (try dsimp only); omega, by (try dsimp only); omega, by (try dsimp only); omega, by (try dsimp only); omega, by (try dsimp only); omega⟩ (by (try dsimp only); omega)
                                · have hq237 := i_ne hq237
                                  unfold f_Mo_sortRows_188
                                  refine wi (fun hq239 => ?_) (fun hq239 => ?_)
                                  · have hq239 := i_eq hq239
                                    unfold f_Mo_sortRows_203
                                    have := i_add (a := x5_195) (b := 1) (by omega) (by omega)
                                    have := i_add (a := x6_195) (b := 1) (by omega) (by omega)
                                    have := i_add (a := x7_195) (b := 1) (by omega) (by omega)
                                    exact lInl ⟨rfl, rfl, rfl, rfl, rfl, Wc21, F236, by (try dsimp only); omega, by (try dsimp only); omega, by (try dsimp only); omega, by (try dsimp only); omega, by (try dsimp only); omega, by (try dsimp only); omega, by (try dsimp only); omega, by (try dsimp only); omega, by (try dsimp only); omega⟩ (by (try dsimp only); omega)
                                  · have hq239 := i_ne hq239
                                    unfold f_Mo_sortRows_203
                                    have := i_add (a := x5_195) (b := 1) (by omega) (by omega)
                                    have := i_add (a := x6_195) (b := 0) (by omega) (by omega)
                                    have := i_add (a := x7_195) (b := 1) (by omega) (by omega)
                                    exact lInl ⟨rfl, rfl, rfl, rfl, rfl, Wc21, F236, by (try dsimp only); omega, by (try dsimp only); omega, by (try dsimp only); omega, by (try dsimp only); omega, by (try dsimp only); omega, by (try dsimp only); omega, by (try dsimp only); omega, by (try dsimp only); omega, by (try dsimp only); omega⟩ (by (try dsimp only); omega)
                            · have := i_ge q31.1
                              have := i_up q31.1
                              have hq230 := i_nlt hq230
                              unfold f_Mo_sortRows_140
                              unfold f_Mo_sortRows_145
                              obtain ⟨v17, ev17, tv17⟩ := gf_64_80 Wq31 t_a0
                              refine wb ev17 ?_
                              refine wi (fun hq240 => ?_) (fun hq240 => ?_)
                              · have hq240 := i_eq hq240
                                refine wb e226 ?_
                                refine wb e228 ?_
                                unfold f_Mo_sortRows_175
                                obtain ⟨c21, ec21, Wc21, fc21, gc21⟩ := pa_127 Wq31 tv17 (i := x7_195) (by omega) (by omega) (x := v30) (rgi (by omega) (by omega))
                                refine wb ec21 ?_
                                have F241 := Zfr.tr F229 fc21 (by decide)
                                refine wi (fun hq242 => ?_) (fun hq242 => ?_)
                                · have hq242 := i_eq hq242
                                  unfold f_Mo_sortRows_188
                                  refine wi (fun hq243 => ?_) (fun hq243 => ?_)
                                  · have hq243 := i_eq hq243
                                    unfold f_Mo_sortRows_203
                                    have := i_add (a := x5_195) (b := 0) (by omega) (by omega)
                                    have := i_add (a := x6_195) (b := 1) (by omega) (by omega)
                                    have := i_add (a := x7_195) (b := 1) (by omega) (by omega)
                                    exact lInl ⟨rfl, rfl, rfl, rfl, rfl, Wc21, F241, by (try dsimp only); omega, by (try dsimp only); omega, by (try dsimp only); omega, by (try dsimp only); omega, by (try dsimp only); omega, by (try dsimp only); omega, by (try dsimp only); omega, by (try dsimp only); omega, by (try dsimp only); omega⟩ (by (try dsimp only); omega)
                                  · have hq243 := i_ne hq243
                                    unfold f_Mo_sortRows_203
                                    have := i_add (a := x5_195) (b := 0) (by omega) (by omega)
                                    have := i_add (a := x6_195) (b := 0) (by omega) (by omega)
                                    have := i_add (a := x7_195) (b := 1) (by omega) (by omega)
                                    exact lInl ⟨rfl, rfl, rfl, rfl, rfl, Wc21, F241, by (try dsimp only); omega, by (try dsimp only); omega, by (try dsimp only); omega, by (try dsimp only); omega, by (try dsimp only); omega, by (try dsimp only); omega, by (try dsimp only); omega, by (try dsimp only); omega, by (try dsimp only); omega⟩ (by (try dsimp only); omega)
                                · have hq242 := i_ne hq242
                                  unfold f_Mo_sortRows_188
                                  refine wi (fun hq244 => ?_) (fun hq244 => ?_)
                                  · have hq244 := i_eq hq244
                                    unfold f_Mo_sortRows_203
                                    have := i_add (a := x5_195) (b := 1) (by omega) (by omega)
                                    have := i_add (a := x6_195) (b := 1) (by omega) (by omega)
                                    have := i_add (a := x7_195) (b := 1) (by omega) (by omega)
                                    exact lInl ⟨rfl, rfl, rfl, rfl, rfl, Wc21, F241, by (try dsimp only); omega, by (try dsimp only); omega, by (try dsimp only); omega, by (try dsimp only); omega, by (try dsimp only); omega, by (try dsimp only); omega, by (try dsimp only); omega, by (try dsimp only); omega, by (try dsimp only); omega⟩ (by (try dsimp only); omega)
                                  · have hq244 := i_ne hq244
                                    unfold f_Mo_sortRows_203
                                    have := i_add (a := x5_195) (b := 1) (by omega) (by omega)
                                    have := i_add (a := x6_195) (b := 0) (by omega) (by omega)
                                    have := i_add (a := x7_195) (b := 1) (by omega) (by omega)
                                    exact lInl ⟨rfl, rfl, rfl, rfl, rfl, Wc21, F241, by (try dsimp only); omega, by (try dsimp only); omega, by (try dsimp only); omega, by (try dsimp only); omega, by (try dsimp only); omega, by (try dsimp only); omega, by (try dsimp only); omega, by (try dsimp only); omega, by (try dsimp only); omega⟩ (by (try dsimp only); omega)
                              · have hq240 := i_ne hq240
                                refine wb e226 ?_
                                refine wb e227 ?_
                                unfold f_Mo_sortRows_175
                                obtain ⟨c21, ec21, Wc21, fc21, gc21⟩ := pa_127 Wq31 tv17 (i := x7_195) (by omega) (by omega) (x := v28) (rgi (by omega) (by omega))
                                refine wb ec21 ?_
                                have F245 := Zfr.tr F229 fc21 (by decide)
                                refine wi (fun hq246 => ?_) (fun hq246 => ?_)
                                · have hq246 := i_eq hq246
                                  unfold f_Mo_sortRows_188
                                  refine wi (fun hq247 => ?_) (fun hq247 => ?_)
                                  · have hq247 := i_eq hq247
                                    unfold f_Mo_sortRows_203
                                    have := i_add (a := x5_195) (b := 0) (by omega) (by omega)
                                    have := i_add (a := x6_195) (b := 1) (by omega) (by omega)
                                    have := i_add (a := x7_195) (b := 1) (by omega) (by omega)
                                    exact lInl ⟨rfl, rfl, rfl, rfl, rfl, Wc21, F245, by (try dsimp only); omega, by (try dsimp only); omega, by (try dsimp only); omega, by (try dsimp only); omega, by (try dsimp only); omega, by (try dsimp only); omega, by (try dsimp only); omega, by (try dsimp only); omega, by (try dsimp only); omega⟩ (by (try dsimp only); omega)
                                  · have hq247 := i_ne hq247
                                    unfold f_Mo_sortRows_203
                                    have := i_add (a := x5_195) (b := 0) (by omega) (by omega)
                                    have := i_add (a := x6_195) (b := 0) (by omega) (by omega)
                                    have := i_add (a := x7_195) (b := 1) (by omega) (by omega)
                                    exact lInl ⟨rfl, rfl, rfl, rfl, rfl, Wc21, F245, by (try dsimp only); omega, by (try dsimp only); omega, by (try dsimp only); omega, by (try dsimp only); omega, by (try dsimp only); omega, by (try dsimp only); omega, by (try dsimp only); omega, by (try dsimp only); omega, by (try dsimp only); omega⟩ (by (try dsimp only); omega)
                                · have hq246 := i_ne hq246
                                  unfold f_Mo_sortRows_188
                                  refine wi (fun hq248 => ?_) (fun hq248 => ?_)
                                  · have hq248 := i_eq hq248
                                    unfold f_Mo_sortRows_203
                                    have := i_add (a := x5_195) (b := 1) (by omega) (by omega)
                                    have := i_add (a := x6_195) (b := 1) (by omega) (by omega)
                                    have := i_add (a := x7_195) (b := 1) (by omega) (by omega)
                                    exact lInl ⟨rfl, rfl, rfl, rfl, rfl, Wc21, F245, by (try dsimp only); omega, by (try dsimp only); omega, by (try dsimp only); omega, by (try dsimp only); omega, by (try dsimp only); omega, by (try dsimp only); omega, by (try dsimp only); omega, by (try dsimp only); omega, by (try dsimp only); omega⟩ (by (try dsimp only); omega)
                                  · have hq248 := i_ne hq248
                                    unfold f_Mo_sortRows_203
                                    have := i_add (a := x5_195) (b := 1) (by omega) (by omega)
                                    have := i_add (a := x6_195) (b := 0) (by omega) (by omega)
                                    have := i_add (a := x7_195) (b := 1) (by omega) (by omega)
                                    exact lInl ⟨rfl, rfl, rfl, rfl, rfl, Wc21, F245, by (try dsimp only); omega, by (try dsimp only); omega, by (try dsimp only); omega, by (try dsimp only); omega, by (try dsimp only); omega, by (try dsimp only); omega, by (try dsimp only); omega, by (try dsimp only); omega, by (try dsimp only); omega⟩ (by (try dsimp only); omega)
                    · exact ⟨rfl, rfl, rfl, rfl, rfl, WLc_15, Zfr.rf, by (try dsimp only); omega, by (try dsimp only); omega, by (try dsimp only); omega, by (try dsimp only); omega, by (try dsimp only); omega, by (try dsimp only); omega, by (try dsimp only); omega, by (try dsimp only); omega, by (try dsimp only); omega⟩
                    · (try dsimp only); omega
                  obtain ⟨b, eb, hb⟩ := L194
                  refine wb eb ?_
                  clear eb
                  obtain ⟨z0_249, z1_249, z2_249, c_249⟩ := b
                  try dsimp only at hb ⊢
                  obtain ⟨rfl, rfl, rfl, WXc_249, FXc_249⟩ := hb
                  have F250 := Zfr.tr FLc_15 FXc_249 (by decide)
                  exact lInl ⟨rfl, rfl, WXc_249, F250, by (try dsimp only); omega, by (try dsimp only); omega⟩ (by (try dsimp only); omega)
          · exact ⟨rfl, rfl, WLc_10, Zfr.rf, by (try dsimp only); omega, by (try dsimp only); omega⟩
          · (try dsimp only); omega
        obtain ⟨b, eb, hb⟩ := L14
        refine wb eb ?_
        clear eb
        obtain ⟨z0_251, z1_251, c_251⟩ := b
        try dsimp only at hb ⊢
        obtain ⟨rfl, rfl, WXc_251, FXc_251⟩ := hb
        have e252 := (Zfr.gi FXc_251 t_a0 (by decide)).trans ev5
        have F253 := Zfr.tr FLc_10 FXc_251 (by decide)
        unfold f_Mo_sortRows_223
        have L254 : ∃ b, zlp (fun a : Nat × Int32 × Int32 × Zc => g_Mo_sortRows_223 nf a.1 a.2.1 a.2.2.1 a.2.2.2) nf (a0, x1_10, 0, c_251) = some b ∧ (fun b : (Nat × Int32 × Zc) => a0 = b.1 ∧ x1_10 = b.2.1 ∧ Zwt zty G b.2.2 ∧ Zfr G ([(126, 0)] : List (Nat × Nat)) c_251 b.2.2) b := by
          refine wlp (fun a : Nat × Int32 × Int32 × Zc => a0 = a.1 ∧ x1_10 = a.2.1 ∧ Zwt zty G a.2.2.2 ∧ Zfr G ([(126, 0)] : List (Nat × Nat)) c_251 a.2.2.2 ∧ 0 ≤ a.2.2.1.toInt ∧ a.2.2.1.toInt ≤ 20000) (fun a => (20000 - a.2.2.1.toInt).toNat) (fun b : (Nat × Int32 × Zc) => a0 = b.1 ∧ x1_10 = b.2.1 ∧ Zwt zty G b.2.2 ∧ Zfr G ([(126, 0)] : List (Nat × Nat)) c_251 b.2.2) ?_ ?_ ?_
          · rintro ⟨x0_255, x1_255, x2_255, c_255⟩ hI
            try dsimp only at hI ⊢
            obtain ⟨rfl, rfl, WLc_255, FLc_255, j256, j257⟩ := hI
            have e258 := (Zfr.gi FLc_255 t_a0 (by decide)).trans e252
            unfold g_Mo_sortRows_223
            refine wb e258 ?_
            refine wi (fun hq259 => ?_) (fun hq259 => ?_)
            · have hq259 := i_le hq259
              exact lInr ⟨rfl, rfl, WLc_255, FLc_255⟩
            · have hq259 := i_nle hq259
              obtain ⟨v36, ev36, tv36⟩ := gf_64_79 WLc_255 t_a0
              refine wb ev36 ?_
              obtain ⟨v37, ev37, tv37⟩ := gf_64_80 WLc_255 t_a0
              refine wb ev37 ?_
              obtain ⟨v38, ev38, lv38, uv38⟩ := ga_127 WLc_255 tv37 (i := x2_255) (by omega) (by omega)
              refine wb ev38 ?_
              obtain ⟨c39, ec39, Wc39, fc39, gc39⟩ := pa_126 WLc_255 tv36 (i := x2_255) (by omega) (by omega) (x := v38) (rgi (by omega) (by omega))
              refine wb ec39 ?_
              have F260 := Zfr.tr FLc_255 fc39 (by decide)
              have := i_add (a := x2_255) (b := 1) (by omega) (by omega)
              exact lInl ⟨rfl, rfl, Wc39, F260, by (try dsimp only); omega, by (try dsimp only); omega⟩ (by (try dsimp only); omega)
          · exact ⟨rfl, rfl, WXc_251, Zfr.rf, by (try dsimp only); omega, by (try dsimp only); omega⟩
          · (try dsimp only); omega
        obtain ⟨b, eb, hb⟩ := L254
        refine wb eb ?_
        clear eb
        obtain ⟨z0_261, z1_261, c_261⟩ := b
        try dsimp only at hb ⊢
        obtain ⟨rfl, rfl, WXc_261, FXc_261⟩ := hb
        have F262 := Zfr.tr F253 FXc_261 (by decide)
        have := li_2
        have := i_mulr (a := x1_10) (b := 2) (n := 2) li_2 (by omega) (by omega)
        exact lInl ⟨rfl, WXc_261, F262, by (try dsimp only); omega, by (try dsimp only); omega⟩ (by (try dsimp only); omega)
    · exact ⟨rfl, WXc_7, Zfr.rf, by (try dsimp only); omega, by (try dsimp only); omega⟩
    · (try dsimp only); omega
  obtain ⟨b, eb, hb⟩ := L9
  refine wb eb ?_
  clear eb
  obtain c_263 := b
  try dsimp only at hb ⊢
  obtain ⟨WXc_263, FXc_263⟩ := hb
  have F264 := Zfr.tr F8 FXc_263 (by decide)
  exact ⟨_, rfl, WXc_263, F264⟩

end ZzT
