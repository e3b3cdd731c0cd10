section ZzT
abbrev M_Finder_evaluate : List (Nat × Nat) := [(7, 5), (7, 6), (7, 7), (7, 8), (7, 9), (7, 10), (7, 11), (47, 0), (48, 0), (49, 0), (50, 0), (51, 0)]
set_option maxRecDepth 100000 in
set_option maxHeartbeats 400000 in
theorem p_Finder_evaluate {nf : Nat} (hn : 8589934592 ≤ nf) {G : List Nat} {c : Zc} (W : Zwt zty G c) {a0 : Nat} {a1 : Int32} {a2 : Int32}  (t_a0 : G[a0]? = some 8) (pl_a1 : 0 ≤ a1.toInt) (pu_a1 : a1.toInt ≤ 202) (pl_a2 : 0 ≤ a2.toInt) (pu_a2 : a2.toInt ≤ 202) : ∃ q, f_Finder_evaluate nf a0 a1 a2 c = some q ∧ Zwt zty G q.2 ∧ Zfr G M_Finder_evaluate c q.2 := by
  have F0 : Zfr G M_Finder_evaluate c c := Zfr.rf
  unfold f_Finder_evaluate
  unfold f_Finder_evaluate_5
  have := li_0
  have L1 : ∃ b, zlp (fun a : Nat × Int32 × Int32 × Int32 × Zc => g_Finder_evaluate_5 nf a.1 a.2.1 a.2.2.1 a.2.2.2.1 a.2.2.2.2) nf (a0, a2, 0, a1, c) = some b ∧ (fun b : (Nat × Int32 × Zc) => a0 = b.1 ∧ Zwt zty G b.2.2 ∧ Zfr G ([(7, 5), (7, 6), (7, 7), (7, 8), (7, 9), (7, 10), (7, 11), (47, 0), (48, 0), (49, 0), (50, 0), (51, 0)] : List (Nat × Nat)) c b.2.2 ∧ 0 ≤ b.2.1.toInt ∧ b.2.1.toInt ≤ 80) b := by
    refine wlp (fun a : Nat × Int32 × Int32 × Int32 × Zc => a0 = a.1 ∧ a2 = a.2.1 ∧ Zwt zty G a.2.2.2.2 ∧ Zfr G ([(7, 5), (7, 6), (7, 7), (7, 8), (7, 9), (7, 10), (7, 11), (47, 0), (48, 0), (49, 0), (50, 0), (51, 0)] : List (Nat × Nat)) c a.2.2.2.2 ∧ 0 ≤ a.2.2.1.toInt ∧ a.2.2.1.toInt ≤ 80 ∧ 0 ≤ a.2.2.2.1.toInt ∧ a.2.2.2.1.toInt ≤ 12600) (fun a => (12600 - a.2.2.2.1.toInt).toNat) (fun b : (Nat × Int32 × Zc) => a0 = b.1 ∧ Zwt zty G b.2.2 ∧ Zfr G ([(7, 5), (7, 6), (7, 7), (7, 8), (7, 9), (7, 10), (7, 11), (47, 0), (48, 0), (49, 0), (50, 0), (51, 0)] : List (Nat × Nat)) c b.2.2 ∧ 0 ≤ b.2.1.toInt ∧ b.2.1.toInt ≤ 80) ?_ ?_ ?_
    · rintro ⟨x0_2, x2_2, x3_2, x4_2, c_2⟩ hI
      try dsimp only at hI ⊢
      obtain ⟨rfl, rfl, WLc_2, FLc_2, j3, j4, j5, j6⟩ := hI
      unfold g_Finder_evaluate_5
      refine wi (fun hq7 => ?_) (fun hq7 => ?_)
      · have hq7 := i_le hq7
        exact lInr ⟨rfl, WLc_2, FLc_2, by (try dsimp only); omega, by (try dsimp only); omega⟩
      · have hq7 := i_nle hq7
        obtain ⟨v2, ev2, tv2⟩ := gf_8_8 WLc_2 t_a0
        refine wb ev2 ?_
        obtain ⟨v3, ev3, tv3⟩ := gf_3_13 WLc_2 tv2
        refine wb ev3 ?_
        obtain ⟨v4, ev4, pv4⟩ := ga_35 WLc_2 tv3 (i := x4_2) (by omega) (by omega)
        have pav4 := pv4.1
        have pbv4 := pv4.2.1
        refine wb ev4 ?_
        refine wb ev2 ?_
        refine wb ev3 ?_
        refine wb ev4 ?_
        have hop := i_rem (a := v4) (b := 32) (n := 32) li_32 (by decide) (by omega)
        have hdv := i_div (a := v4) (b := 32) (n := 32) li_32 (by decide) (by omega)
        have hld := ld_of pv4 hop hdv
        generalize v4 - v4 / 32 * 32 = op4 at hop hld ⊢
        generalize v4 / 32 = of4 at hdv hld ⊢
        refine wi (fun hq8 => ?_) (fun hq8 => ?_)
        · have := li_4
          have hq8 := i_lt hq8
          refine wi (fun hq9 => ?_) (fun hq9 => ?_)
          · have hq9 := i_le hq9
            unfold f_Finder_evaluate_161
            refine wi (fun hq10 => ?_) (fun hq10 => ?_)
            · have hq10 := i_le hq10
              unfold f_Finder_evaluate_223
              refine wi (fun hq11 => ?_) (fun hq11 => ?_)
              · have := li_1
                have hq11 := i_le hq11
                unfold f_Finder_evaluate_258
                have := i_add (a := x4_2) (b := 1) (by omega) (by omega)
                exact lInl ⟨rfl, rfl, WLc_2, FLc_2, by (try dsimp only); omega, by (try dsimp only); omega, by (try dsimp only); omega, by (try dsimp only); omega⟩ (by (try dsimp only); omega)
              · have := li_1
                have hq11 := i_nle hq11
                exfalso
                omega
            · have hq10 := i_nle hq10
              exfalso
              omega
          · have hq9 := i_nle hq9
            refine wi (fun hq12 => ?_) (fun hq12 => ?_)
            · have := li_6
              have hq12 := i_lt hq12
              unfold f_Finder_evaluate_161
              refine wi (fun hq13 => ?_) (fun hq13 => ?_)
              · have hq13 := i_le hq13
                exfalso
                omega
              · have hq13 := i_nle hq13
                refine wi (fun hq14 => ?_) (fun hq14 => ?_)
                · have := li_8
                  have hq14 := i_lt hq14
                  unfold f_Finder_evaluate_223
                  refine wi (fun hq15 => ?_) (fun hq15 => ?_)
                  · have := li_1
                    have hq15 := i_le hq15
                    unfold f_Finder_evaluate_258
                    have := i_add (a := x4_2) (b := 1) (by omega) (by omega)
                    exact lInl ⟨rfl, rfl, WLc_2, FLc_2, by (try dsimp only); omega, by (try dsimp only); omega, by (try dsimp only); omega, by (try dsimp only); omega⟩ (by (try dsimp only); omega)
                  · have := li_1
                    have hq15 := i_nle hq15
                    obtain ⟨v14, ev14, tv14⟩ := gf_8_4 WLc_2 t_a0
                    refine wb ev14 ?_
                    refine wb ev14 ?_
                    have := li_m1
                    have hg16 := i_add (a := x3_2) (b := (-1)) (by omega) (by omega)
                    generalize (x3_2 + (-1)) = y17 at hg16 ⊢
                    have := i_sub (a := y17) (b := 1) (by omega) (by omega)
                    obtain ⟨v16, ev16, _⟩ := ga_51 WLc_2 tv14 (i := (y17 - 1)) (by omega) (by omega)
                    refine wb ev16 ?_
                    refine wb ev14 ?_
                    obtain ⟨v18, ev18, _⟩ := ga_51 WLc_2 tv14 (i := y17) (by omega) (by omega)
                    refine wb ev18 ?_
                    obtain ⟨q19, eq19, Wq19, fq19⟩ := p_Finder_operate hn WLc_2 (a0 := op4) (a1 := v16) (a2 := v18) 
                    refine wb eq19 ?_
                    have F18 := Zfr.tr FLc_2 fq19 (by decide)
                    obtain ⟨c20, ec20, Wc20, fc20, gc20⟩ := pa_51 Wq19 tv14 (i := (y17 - 1)) (by omega) (by omega) (x := q19.1) (trivial)
                    refine wb ec20 ?_
                    have F19 := Zfr.tr F18 fc20 (by decide)
                    unfold f_Finder_evaluate_258
                    have := i_add (a := x4_2) (b := 1) (by omega) (by omega)
                    exact lInl ⟨rfl, rfl, Wc20, F19, by (try dsimp only); omega, by (try dsimp only); omega, by (try dsimp only); omega, by (try dsimp only); omega⟩ (by (try dsimp only); omega)
                · have := li_8
                  have hq14 := i_nlt hq14
                  obtain ⟨v22, ev22, tv22⟩ := gf_8_4 WLc_2 t_a0
                  refine wb ev22 ?_
                  have := li_1
                  have := i_sub (a := x3_2) (b := 1) (by omega) (by omega)
                  obtain ⟨v23, ev23, _⟩ := ga_51 WLc_2 tv22 (i := (x3_2 - 1)) (by omega) (by omega)
                  refine wb ev23 ?_
                  refine wi (fun hq20 => ?_) (fun hq20 => ?_)
                  · have := i_ge v23
                    have := i_up v23
                    have hq20 := i_eq hq20
                    unfold f_Finder_evaluate_188
                    refine wi (fun hq21 => ?_) (fun hq21 => ?_)
                    · have hq21 := i_eq hq21
                      unfold f_Finder_evaluate_200
                      refine wi (fun hq22 => ?_) (fun hq22 => ?_)
                      · have hq22 := i_eq hq22
                        have := i_sub (a := of4) (b := 1) (by omega) (by omega)
                        obtain ⟨q27, eq27, Wq27, fq27, po0q27⟩ := p_Math_max_0 hn WLc_2 (a0 := x4_2) (a1 := (of4 - 1)) 
                        refine wb eq27 ?_
                        have F23 := Zfr.tr FLc_2 fq27 (by decide)
                        unfold f_Finder_evaluate_258
                        have := i_add (a := q27.1) (b := 1) (by omega) (by omega)
                        exact lInl ⟨rfl, rfl, Wq27, F23, by (try dsimp only); omega, by (try dsimp only); omega, by (try dsimp only); omega, by (try dsimp only); omega⟩ (by (try dsimp only); omega)
                      · have hq22 := i_ne hq22
                        have := li_m1
                        have hg24 := i_add (a := x3_2) (b := (-1)) (by omega) (by omega)
                        generalize (x3_2 + (-1)) = y25 at hg24 ⊢
                        unfold f_Finder_evaluate_258
                        have := i_add (a := x4_2) (b := 1) (by omega) (by omega)
                        exact lInl ⟨rfl, rfl, WLc_2, FLc_2, by (try dsimp only); omega, by (try dsimp only); omega, by (try dsimp only); omega, by (try dsimp only); omega⟩ (by (try dsimp only); omega)
                    · have hq21 := i_ne hq21
                      unfold f_Finder_evaluate_200
                      refine wi (fun hq26 => ?_) (fun hq26 => ?_)
                      · have hq26 := i_eq hq26
                        have := i_sub (a := of4) (b := 1) (by omega) (by omega)
                        obtain ⟨q27, eq27, Wq27, fq27, po0q27⟩ := p_Math_max_0 hn WLc_2 (a0 := x4_2) (a1 := (of4 - 1)) 
                        refine wb eq27 ?_
                        have F27 := Zfr.tr FLc_2 fq27 (by decide)
                        unfold f_Finder_evaluate_258
                        have := i_add (a := q27.1) (b := 1) (by omega) (by omega)
                        exact lInl ⟨rfl, rfl, Wq27, F27, by (try dsimp only); omega, by (try dsimp only); omega, by (try dsimp only); omega, by (try dsimp only); omega⟩ (by (try dsimp only); omega)
                      · have hq26 := i_ne hq26
                        have := li_m1
                        have hg28 := i_add (a := x3_2) (b := (-1)) (by omega) (by omega)
                        generalize (x3_2 + (-1)) = y29 at hg28 ⊢
                        unfold f_Finder_evaluate_258
                        have := i_add (a := x4_2) (b := 1) (by omega) (by omega)
                        exact lInl ⟨rfl, rfl, WLc_2, FLc_2, by (try dsimp only); omega, by (try dsimp only); omega, by (try dsimp only); omega, by (try dsimp only); omega⟩ (by (try dsimp only); omega)
                  · have := i_ge v23
                    have := i_up v23
                    have hq20 := i_ne hq20
                    unfold f_Finder_evaluate_188
                    refine wi (fun hq30 => ?_) (fun hq30 => ?_)
                    · have hq30 := i_eq hq30
                      unfold f_Finder_evaluate_200
                      refine wi (fun hq31 => ?_) (fun hq31 => ?_)
                      · have hq31 := i_eq hq31
                        have := i_sub (a := of4) (b := 1) (by omega) (by omega)
                        obtain ⟨q27, eq27, Wq27, fq27, po0q27⟩ := p_Math_max_0 hn WLc_2 (a0 := x4_2) (a1 := (of4 - 1)) 
                        refine wb eq27 ?_
                        have F32 := Zfr.tr FLc_2 fq27 (by decide)
                        unfold f_Finder_evaluate_258
                        have := i_add (a := q27.1) (b := 1) (by omega) (by omega)
                        exact lInl ⟨rfl, rfl, Wq27, F32, by (try dsimp only); omega, by (try dsimp only); omega, by (try dsimp only); omega, by (try dsimp only); omega⟩ (by (try dsimp only); omega)
                      · have hq31 := i_ne hq31
                        have := li_m1
                        have hg33 := i_add (a := x3_2) (b := (-1)) (by omega) (by omega)
                        generalize (x3_2 + (-1)) = y34 at hg33 ⊢
                        unfold f_Finder_evaluate_258
                        have := i_add (a := x4_2) (b := 1) (by omega) (by omega)
                        exact lInl ⟨rfl, rfl, WLc_2, FLc_2, by (try dsimp only); omega, by (try dsimp only); omega, by (try dsimp only); omega, by (try dsimp only); omega⟩ (by (try dsimp only); omega)
                    · have hq30 := i_ne hq30
                      unfold f_Finder_evaluate_200
                      refine wi (fun hq35 => ?_) (fun hq35 => ?_)
                      · have hq35 := i_eq hq35
                        have := i_sub (a := of4) (b := 1) (by omega) (by omega)
                        obtain ⟨q27, eq27, Wq27, fq27, po0q27⟩ := p_Math_max_0 hn WLc_2 (a0 := x4_2) (a1 := (of4 - 1)) 
                        refine wb eq27 ?_
                        have F36 := Zfr.tr FLc_2 fq27 (by decide)
                        unfold f_Finder_evaluate_258
                        have := i_add (a := q27.1) (b := 1) (by omega) (by omega)
                        exact lInl ⟨rfl, rfl, Wq27, F36, by (try dsimp only); omega, by (try dsimp only); omega, by (try dsimp only); omega, by (try dsimp only); omega⟩ (by (try dsimp only); omega)
                      · have hq35 := i_ne hq35
                        have := li_m1
                        have hg37 := i_add (a := x3_2) (b := (-1)) (by omega) (by omega)
                        generalize (x3_2 + (-1)) = y38 at hg37 ⊢
                        unfold f_Finder_evaluate_258
                        have := i_add (a := x4_2) (b := 1) (by omega) (by omega)
                        exact lInl ⟨rfl, rfl, WLc_2, FLc_2, by (try dsimp only); omega, by (try dsimp only); omega, by (try dsimp only); omega, by (try dsimp only); omega⟩ (by (try dsimp only); omega)
            · have := li_6
              have hq12 := i_nlt hq12
              obtain ⟨v29, ev29, tv29⟩ := gf_8_4 WLc_2 t_a0
              refine wb ev29 ?_
              refine wi (fun hq39 => ?_) (fun hq39 => ?_)
              · have := li_5
                have hq39 := i_eq hq39
                refine wb ev29 ?_
                have := li_1
                have := i_sub (a := x3_2) (b := 1) (by omega) (by omega)
                obtain ⟨v35, ev35, _⟩ := ga_51 WLc_2 tv29 (i := (x3_2 - 1)) (by omega) (by omega)
                refine wb ev35 ?_
                unfold f_Finder_evaluate_157
                obtain ⟨c33, ec33, Wc33, fc33, gc33⟩ := pa_51 WLc_2 tv29 (i := (x3_2 - 1)) (by omega) (by omega) (x := (-v35)) (trivial)
                refine wb ec33 ?_
                have F40 := Zfr.tr FLc_2 fc33 (by decide)
                unfold f_Finder_evaluate_258
                have := i_add (a := x4_2) (b := 1) (by omega) (by omega)
                exact lInl ⟨rfl, rfl, Wc33, F40, by (try dsimp only); omega, by (try dsimp only); omega, by (try dsimp only); omega, by (try dsimp only); omega⟩ (by (try dsimp only); omega)
              · have := li_5
                have hq39 := i_ne hq39
                refine wb ev29 ?_
                have := li_1
                have := i_sub (a := x3_2) (b := 1) (by omega) (by omega)
                obtain ⟨v32, ev32, _⟩ := ga_51 WLc_2 tv29 (i := (x3_2 - 1)) (by omega) (by omega)
                refine wb ev32 ?_
                unfold f_Finder_evaluate_157
                obtain ⟨c33, ec33, Wc33, fc33, gc33⟩ := pa_51 WLc_2 tv29 (i := (x3_2 - 1)) (by omega) (by omega) (x := (1 - v32)) (trivial)
                refine wb ec33 ?_
                have F41 := Zfr.tr FLc_2 fc33 (by decide)
                unfold f_Finder_evaluate_258
                have := i_add (a := x4_2) (b := 1) (by omega) (by omega)
                exact lInl ⟨rfl, rfl, Wc33, F41, by (try dsimp only); omega, by (try dsimp only); omega, by (try dsimp only); omega, by (try dsimp only); omega⟩ (by (try dsimp only); omega)
        · have := li_4
          have hq8 := i_nlt hq8
          refine wi (fun hq42 => ?_) (fun hq42 => ?_)
          · have := li_80
            have hq42 := i_le hq42
            unfold f_Finder_evaluate_258
            have := li_1
            have := i_add (a := x4_2) (b := 1) (by omega) (by omega)
            exact lInl ⟨rfl, rfl, WLc_2, FLc_2, by (try dsimp only); omega, by (try dsimp only); omega, by (try dsimp only); omega, by (try dsimp only); omega⟩ (by (try dsimp only); omega)
          · have := li_80
            have hq42 := i_nle hq42
            refine wi (fun hq43 => ?_) (fun hq43 => ?_)
            · have hq43 := i_eq hq43
              have := ab_of pv4 hop hdv (by omega)
              obtain ⟨v43, ev43, tv43⟩ := gf_8_3 WLc_2 t_a0
              refine wb ev43 ?_
              refine wb ev2 ?_
              obtain ⟨w46, ew46⟩ := go_7 WLc_2 tv43
              refine wb ew46 ?_
              obtain ⟨q45, eq45, Wq45, fq45, pl0q45, pu0q45⟩ := p_Search_fits hn WLc_2 (a2 := of4) tv43 tv2 (by omega) (by omega)
              refine wb eq45 ?_
              have F44 := Zfr.tr FLc_2 fq45 (by decide)
              refine wi (fun hq45 => ?_) (fun hq45 => ?_)
              · have hq45 := i_eq hq45
                unfold f_Finder_evaluate_79
                unfold f_Finder_evaluate_80
                obtain ⟨v38, ev38, tv38⟩ := gf_8_4 Wq45 t_a0
                refine wb ev38 ?_
                refine wi (fun hq46 => ?_) (fun hq46 => ?_)
                · have hq46 := i_eq hq46
                  obtain ⟨w41, ew41⟩ := go_8 Wq45 t_a0
                  refine wb ew41 ?_
                  obtain ⟨q40, eq40, Wq40, fq40⟩ := p_Finder_load hn Wq45 (a1 := op4) (a2 := of4) t_a0 (by omega) (by omega) (hld)
                  refine wb eq40 ?_
                  have F47 := Zfr.tr F44 fq40 (by decide)
                  unfold f_Finder_evaluate_104
                  obtain ⟨c42, ec42, Wc42, fc42, gc42⟩ := pa_51 Wq40 tv38 (i := x3_2) (by omega) (by omega) (x := q40.1) (trivial)
                  refine wb ec42 ?_
                  have F48 := Zfr.tr F47 fc42 (by decide)
                  unfold f_Finder_evaluate_258
                  have := li_1
                  have := i_add (a := x3_2) (b := 1) (by omega) (by omega)
                  have := i_add (a := x4_2) (b := 1) (by omega) (by omega)
                  exact lInl ⟨rfl, rfl, Wc42, F48, by (try dsimp only); omega, by (try dsimp only); omega, by (try dsimp only); omega, by (try dsimp only); omega⟩ (by (try dsimp only); omega)
                · have hq46 := i_ne hq46
                  unfold f_Finder_evaluate_104
                  obtain ⟨c42, ec42, Wc42, fc42, gc42⟩ := pa_51 Wq45 tv38 (i := x3_2) (by omega) (by omega) (x := 0) (trivial)
                  refine wb ec42 ?_
                  have F49 := Zfr.tr F44 fc42 (by decide)
                  unfold f_Finder_evaluate_258
                  have := li_1
                  have := i_add (a := x3_2) (b := 1) (by omega) (by omega)
                  have := i_add (a := x4_2) (b := 1) (by omega) (by omega)
                  exact lInl ⟨rfl, rfl, Wc42, F49, by (try dsimp only); omega, by (try dsimp only); omega, by (try dsimp only); omega, by (try dsimp only); omega⟩ (by (try dsimp only); omega)
              · have hq45 := i_ne hq45
                unfold f_Finder_evaluate_80
                obtain ⟨v38, ev38, tv38⟩ := gf_8_4 Wq45 t_a0
                refine wb ev38 ?_
                refine wi (fun hq50 => ?_) (fun hq50 => ?_)
                · have := li_1
                  have hq50 := i_eq hq50
                  obtain ⟨w41, ew41⟩ := go_8 Wq45 t_a0
                  refine wb ew41 ?_
                  obtain ⟨q40, eq40, Wq40, fq40⟩ := p_Finder_load hn Wq45 (a1 := op4) (a2 := of4) t_a0 (by omega) (by omega) (hld)
                  refine wb eq40 ?_
                  have F51 := Zfr.tr F44 fq40 (by decide)
                  unfold f_Finder_evaluate_104
                  obtain ⟨c42, ec42, Wc42, fc42, gc42⟩ := pa_51 Wq40 tv38 (i := x3_2) (by omega) (by omega) (x := q40.1) (trivial)
                  refine wb ec42 ?_
                  have F52 := Zfr.tr F51 fc42 (by decide)
                  unfold f_Finder_evaluate_258
                  have := i_add (a := x3_2) (b := 1) (by omega) (by omega)
                  have := i_add (a := x4_2) (b := 1) (by omega) (by omega)
                  exact lInl ⟨rfl, rfl, Wc42, F52, by (try dsimp only); omega, by (try dsimp only); omega, by (try dsimp only); omega, by (try dsimp only); omega⟩ (by (try dsimp only); omega)
                · have := li_1
                  have hq50 := i_ne hq50
                  unfold f_Finder_evaluate_104
                  obtain ⟨c42, ec42, Wc42, fc42, gc42⟩ := pa_51 Wq45 tv38 (i := x3_2) (by omega) (by omega) (x := 0) (trivial)
                  refine wb ec42 ?_
                  have F53 := Zfr.tr F44 fc42 (by decide)
                  unfold f_Finder_evaluate_258
                  have := i_add (a := x3_2) (b := 1) (by omega) (by omega)
                  have := i_add (a := x4_2) (b := 1) (by omega) (by omega)
                  exact lInl ⟨rfl, rfl, Wc42, F53, by (try dsimp only); omega, by (try dsimp only); omega, by (try dsimp only); omega, by (try dsimp only); omega⟩ (by (try dsimp only); omega)
            · have hq43 := i_ne hq43
              unfold f_Finder_evaluate_79
              unfold f_Finder_evaluate_80
              obtain ⟨v38, ev38, tv38⟩ := gf_8_4 WLc_2 t_a0
              refine wb ev38 ?_
              refine wi (fun hq54 => ?_) (fun hq54 => ?_)
              · have hq54 := i_eq hq54
                obtain ⟨w41, ew41⟩ := go_8 WLc_2 t_a0
                refine wb ew41 ?_
                obtain ⟨q40, eq40, Wq40, fq40⟩ := p_Finder_load hn WLc_2 (a1 := op4) (a2 := of4) t_a0 (by omega) (by omega) (hld)
                refine wb eq40 ?_
                have F55 := Zfr.tr FLc_2 fq40 (by decide)
                unfold f_Finder_evaluate_104
                obtain ⟨c42, ec42, Wc42, fc42, gc42⟩ := pa_51 Wq40 tv38 (i := x3_2) (by omega) (by omega) (x := q40.1) (trivial)
                refine wb ec42 ?_
                have F56 := Zfr.tr F55 fc42 (by decide)
                unfold f_Finder_evaluate_258
                have := li_1
                have := i_add (a := x3_2) (b := 1) (by omega) (by omega)
                have := i_add (a := x4_2) (b := 1) (by omega) (by omega)
                exact lInl ⟨rfl, rfl, Wc42, F56, by (try dsimp only); omega, by (try dsimp only); omega, by (try dsimp only); omega, by (try dsimp only); omega⟩ (by (try dsimp only); omega)
              · have hq54 := i_ne hq54
                unfold f_Finder_evaluate_104
                obtain ⟨c42, ec42, Wc42, fc42, gc42⟩ := pa_51 WLc_2 tv38 (i := x3_2) (by omega) (by omega) (x := 0) (trivial)
                refine wb ec42 ?_
                have F57 := Zfr.tr FLc_2 fc42 (by decide)
                unfold f_Finder_evaluate_258
                have := li_1
                have := i_add (a := x3_2) (b := 1) (by omega) (by omega)
                have := i_add (a := x4_2) (b := 1) (by omega) (by omega)
                exact lInl ⟨rfl, rfl, Wc42, F57, by (try dsimp only); omega, by (try dsimp only); omega, by (try dsimp only); omega, by (try dsimp only); omega⟩ (by (try dsimp only); omega)
    · exact ⟨rfl, rfl, W, Zfr.rf, by (try dsimp only); omega, by (try dsimp only); omega, by (try dsimp only); omega, by (try dsimp only); omega⟩
    · (try dsimp only); omega
  obtain ⟨b, eb, hb⟩ := L1
  refine wb eb ?_
  clear eb
  obtain ⟨z0_58, z1_58, c_58⟩ := b
  try dsimp only at hb ⊢
  obtain ⟨rfl, WXc_58, FXc_58, j59, j60⟩ := hb
  have F61 := Zfr.tr F0 FXc_58 (by decide)
  refine wi (fun hq62 => ?_) (fun hq62 => ?_)
  · have hq62 := i_le hq62
    unfold f_Finder_evaluate_280
    exact ⟨_, rfl, WXc_58, F61⟩
  · have hq62 := i_nle hq62
    obtain ⟨v49, ev49, tv49⟩ := gf_8_4 WXc_58 t_a0
    refine wb ev49 ?_
    have := li_1
    have := i_sub (a := z1_58) (b := 1) (by omega) (by omega)
    obtain ⟨v50, ev50, _⟩ := ga_51 WXc_58 tv49 (i := (z1_58 - 1)) (by omega) (by omega)
    refine wb ev50 ?_
    unfold f_Finder_evaluate_280
    exact ⟨_, rfl, WXc_58, F61⟩

end ZzT
