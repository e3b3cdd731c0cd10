section ZzT
abbrev M_Finder_bounded : List (Nat × Nat) := []
set_option maxRecDepth 100000 in
set_option maxHeartbeats 400000 in
theorem p_Finder_bounded {nf : Nat} (hn : 8589934592 ≤ nf) {G : List Nat} {c : Zc} (W : Zwt zty G c) {a0 : Int64}   : ∃ q, f_Finder_bounded nf a0 c = some q ∧ Zwt zty G q.2 ∧ Zfr G M_Finder_bounded c q.2 := by
  have F0 : Zfr G M_Finder_bounded c c := Zfr.rf
  unfold f_Finder_bounded
  refine wi (fun hq1 => ?_) (fun hq1 => ?_)
  · have := li_0
    have hq1 := i_le hq1
    refine wi (fun hq2 => ?_) (fun hq2 => ?_)
    · have hq2 := i_le hq2
      unfold f_Finder_bounded_26
      exact ⟨_, rfl, W, F0⟩
    · have hq2 := i_nle hq2
      unfold f_Finder_bounded_26
      have := li_m1000000000
      exact ⟨_, rfl, W, F0⟩
  · have := li_0
    have hq1 := i_nle hq1
    have := li_1000000000
    exact ⟨_, rfl, W, F0⟩

abbrev M_Finder_operate : List (Nat × Nat) := []
set_option maxRecDepth 100000 in
set_option maxHeartbeats 400000 in
theorem p_Finder_operate {nf : Nat} (hn : 8589934592 ≤ nf) {G : List Nat} {c : Zc} (W : Zwt zty G c) {a0 : Int32} {a1 : Int32} {a2 : Int32}   : ∃ q, f_Finder_operate nf a0 a1 a2 c = some q ∧ Zwt zty G q.2 ∧ Zfr G M_Finder_operate c q.2 := by
  have F0 : Zfr G M_Finder_operate c c := Zfr.rf
  unfold f_Finder_operate
  refine wi (fun hq1 => ?_) (fun hq1 => ?_)
  · have := li_9
    have := i_ge a0
    have := i_up a0
    have hq1 := i_eq hq1
    obtain ⟨q2, eq2, Wq2, fq2⟩ := p_Finder_bounded hn W (a0 := ((Int32.toInt64 a1) + (Int32.toInt64 a2))) 
    refine wb eq2 ?_
    have F2 := Zfr.tr F0 fq2 (by decide)
    exact ⟨_, rfl, Wq2, F2⟩
  · have := li_9
    have := i_ge a0
    have := i_up a0
    have hq1 := i_ne hq1
    refine wi (fun hq3 => ?_) (fun hq3 => ?_)
    · have := li_10
      have hq3 := i_eq hq3
      obtain ⟨q4, eq4, Wq4, fq4⟩ := p_Finder_bounded hn W (a0 := ((Int32.toInt64 a1) - (Int32.toInt64 a2))) 
      refine wb eq4 ?_
      have F4 := Zfr.tr F0 fq4 (by decide)
      exact ⟨_, rfl, Wq4, F4⟩
    · have := li_10
      have hq3 := i_ne hq3
      refine wi (fun hq5 => ?_) (fun hq5 => ?_)
      · have := li_11
        have hq5 := i_eq hq5
        obtain ⟨q6, eq6, Wq6, fq6⟩ := p_Finder_bounded hn W (a0 := ((Int32.toInt64 a1) * (Int32.toInt64 a2))) 
        refine wb eq6 ?_
        have F6 := Zfr.tr F0 fq6 (by decide)
        exact ⟨_, rfl, Wq6, F6⟩
      · have := li_11
        have hq5 := i_ne hq5
        refine wi (fun hq7 => ?_) (fun hq7 => ?_)
        · have := li_12
          have hq7 := i_eq hq7
          refine wi (fun hq8 => ?_) (fun hq8 => ?_)
          · have := i_ge a1
            have := i_up a1
            have := i_ge a2
            have := i_up a2
            have hq8 := i_eq hq8
            unfold f_Finder_operate_85
            have := li_1
            exact ⟨_, rfl, W, F0⟩
          · have := i_ge a1
            have := i_up a1
            have := i_ge a2
            have := i_up a2
            have hq8 := i_ne hq8
            unfold f_Finder_operate_85
            have := li_0
            exact ⟨_, rfl, W, F0⟩
        · have := li_12
          have hq7 := i_ne hq7
          refine wi (fun hq9 => ?_) (fun hq9 => ?_)
          · have := li_13
            have hq9 := i_eq hq9
            refine wi (fun hq10 => ?_) (fun hq10 => ?_)
            · have := i_ge a1
              have := i_up a1
              have := i_ge a2
              have := i_up a2
              have hq10 := i_eq hq10
              unfold f_Finder_operate_96
              have := li_0
              exact ⟨_, rfl, W, F0⟩
            · have := i_ge a1
              have := i_up a1
              have := i_ge a2
              have := i_up a2
              have hq10 := i_ne hq10
              unfold f_Finder_operate_96
              have := li_1
              exact ⟨_, rfl, W, F0⟩
          · have := li_13
            have hq9 := i_ne hq9
            refine wi (fun hq11 => ?_) (fun hq11 => ?_)
            · have := li_14
              have hq11 := i_eq hq11
              refine wi (fun hq12 => ?_) (fun hq12 => ?_)
              · have := i_ge a2
                have := i_up a2
                have := i_ge a1
                have := i_up a1
                have hq12 := i_le hq12
                unfold f_Finder_operate_107
                have := li_0
                exact ⟨_, rfl, W, F0⟩
              · have := i_ge a2
                have := i_up a2
                have := i_ge a1
                have := i_up a1
                have hq12 := i_nle hq12
                unfold f_Finder_operate_107
                have := li_1
                exact ⟨_, rfl, W, F0⟩
            · have := li_14
              have hq11 := i_ne hq11
              refine wi (fun hq13 => ?_) (fun hq13 => ?_)
              · have := li_15
                have hq13 := i_eq hq13
                refine wi (fun hq14 => ?_) (fun hq14 => ?_)
                · have := i_ge a2
                  have := i_up a2
                  have := i_ge a1
                  have := i_up a1
                  have hq14 := i_lt hq14
                  unfold f_Finder_operate_118
                  have := li_0
                  exact ⟨_, rfl, W, F0⟩
                · have := i_ge a2
                  have := i_up a2
                  have := i_ge a1
                  have := i_up a1
                  have hq14 := i_nlt hq14
                  unfold f_Finder_operate_118
                  have := li_1
                  exact ⟨_, rfl, W, F0⟩
              · have := li_15
                have hq13 := i_ne hq13
                refine wi (fun hq15 => ?_) (fun hq15 => ?_)
                · have := li_16
                  have hq15 := i_eq hq15
                  refine wi (fun hq16 => ?_) (fun hq16 => ?_)
                  · have := i_ge a1
                    have := i_up a1
                    have := i_ge a2
                    have := i_up a2
                    have hq16 := i_le hq16
                    unfold f_Finder_operate_129
                    have := li_0
                    exact ⟨_, rfl, W, F0⟩
                  · have := i_ge a1
                    have := i_up a1
                    have := i_ge a2
                    have := i_up a2
                    have hq16 := i_nle hq16
                    unfold f_Finder_operate_129
                    have := li_1
                    exact ⟨_, rfl, W, F0⟩
                · have := li_16
                  have hq15 := i_ne hq15
                  refine wi (fun hq17 => ?_) (fun hq17 => ?_)
                  · have := i_ge a1
                    have := i_up a1
                    have := i_ge a2
                    have := i_up a2
                    have hq17 := i_lt hq17
                    unfold f_Finder_operate_140
                    have := li_0
                    exact ⟨_, rfl, W, F0⟩
                  · have := i_ge a1
                    have := i_up a1
                    have := i_ge a2
                    have := i_up a2
                    have hq17 := i_nlt hq17
                    unfold f_Finder_operate_140
                    have := li_1
                    exact ⟨_, rfl, W, F0⟩

abbrev M_Finder_load : List (Nat × Nat) := []
set_option maxRecDepth 100000 in
set_option maxHeartbeats 400000 in
theorem p_Finder_load {nf : Nat} (hn : 8589934592 ≤ nf) {G : List Nat} {c : Zc} (W : Zwt zty G c) {a0 : Nat} {a1 : Int32} {a2 : Int32}  (t_a0 : G[a0]? = some 8) (pl_a1 : 0 ≤ a1.toInt) (pu_a1 : a1.toInt ≤ 4) (pk_1 : ldOk a1 a2) : ∃ q, f_Finder_load nf a0 a1 a2 c = some q ∧ Zwt zty G q.2 ∧ Zfr G M_Finder_load c q.2 := by
  have F0 : Zfr G M_Finder_load c c := Zfr.rf
  unfold f_Finder_load
  refine wi (fun hq1 => ?_) (fun hq1 => ?_)
  · have := li_1
    have hq1 := i_eq hq1
    have := ld_1 pk_1 (by omega)
    obtain ⟨v2, ev2, tv2⟩ := gf_8_0 W t_a0
    refine wb ev2 ?_
    obtain ⟨v3, ev3, lv3, uv3⟩ := ga_47 W tv2 (i := a2) (by omega) (by omega)
    refine wb ev3 ?_
    exact ⟨_, rfl, W, F0⟩
  · have := li_1
    have hq1 := i_ne hq1
    refine wi (fun hq2 => ?_) (fun hq2 => ?_)
    · have := li_2
      have hq2 := i_eq hq2
      have := ld_2 pk_1 (by omega)
      obtain ⟨v5, ev5, tv5⟩ := gf_8_1 W t_a0
      refine wb ev5 ?_
      obtain ⟨v6, ev6, tv6⟩ := gf_1_1 W tv5
      refine wb ev6 ?_
      obtain ⟨v7, ev7, tv7⟩ := gf_8_0 W t_a0
      refine wb ev7 ?_
      have := li_4
      have := i_div (a := a2) (b := 4) (n := 4) li_4 (by decide) (by omega)
      obtain ⟨v9, ev9, lv9, uv9⟩ := ga_47 W tv7 (i := (a2 / 4)) (by omega) (by omega)
      refine wb ev9 ?_
      have := i_mulr (a := v9) (b := 4) (n := 4) li_4 (by omega) (by omega)
      have := i_rem (a := a2) (b := 4) (n := 4) li_4 (by decide) (by omega)
      have := i_add (a := (v9 * 4)) (b := (a2 - ((a2 / 4) * 4))) (by omega) (by omega)
      obtain ⟨v11, ev11, lv11, uv11⟩ := ga_16 W tv6 (i := ((v9 * 4) + (a2 - ((a2 / 4) * 4)))) (by omega) (by omega)
      refine wb ev11 ?_
      exact ⟨_, rfl, W, F0⟩
    · have := li_2
      have hq2 := i_ne hq2
      refine wi (fun hq3 => ?_) (fun hq3 => ?_)
      · have := li_3
        have hq3 := i_eq hq3
        have := ld_3 pk_1 (by omega)
        obtain ⟨v13, ev13, tv13⟩ := gf_8_8 W t_a0
        refine wb ev13 ?_
        obtain ⟨v14, ev14, tv14⟩ := gf_3_4 W tv13
        refine wb ev14 ?_
        obtain ⟨v15, ev15, tv15⟩ := ga_29 W tv14 (i := a2) (by omega) (by omega)
        refine wb ev15 ?_
        obtain ⟨v16, ev16, tv16⟩ := gf_8_0 W t_a0
        refine wb ev16 ?_
        obtain ⟨v17, ev17, lv17, uv17⟩ := gf_2_0 W tv15
        refine wb ev17 ?_
        obtain ⟨v18, ev18, lv18, uv18⟩ := ga_47 W tv16 (i := v17) (by omega) (by omega)
        refine wb ev18 ?_
        refine wb ev16 ?_
        obtain ⟨v20, ev20, lv20, uv20⟩ := gf_2_1 W tv15
        refine wb ev20 ?_
        obtain ⟨v21, ev21, lv21, uv21⟩ := ga_47 W tv16 (i := v20) (by omega) (by omega)
        refine wb ev21 ?_
        obtain ⟨w23, ew23⟩ := go_2 W tv15
        refine wb ew23 ?_
        obtain ⟨q22, eq22, Wq22, fq22⟩ := p_Way_arcsBetween hn W (a1 := v18) (a2 := v21) tv15 (by omega) (by omega) (by omega) (by omega)
        refine wb eq22 ?_
        have F4 := Zfr.tr F0 fq22 (by decide)
        exact ⟨_, rfl, Wq22, F4⟩
      · have := li_3
        have hq3 := i_ne hq3
        refine wi (fun hq5 => ?_) (fun hq5 => ?_)
        · have := li_4
          have hq5 := i_eq hq5
          exact ⟨_, rfl, W, F0⟩
        · have := li_4
          have hq5 := i_ne hq5
          exact ⟨_, rfl, W, F0⟩

abbrev M_Finder_goFirst : List (Nat × Nat) := [(52, 0), (54, 0)]
set_option maxRecDepth 100000 in
set_option maxHeartbeats 400000 in
theorem p_Finder_goFirst {nf : Nat} (hn : 8589934592 ≤ nf) {G : List Nat} {c : Zc} (W : Zwt zty G c) {a0 : Nat} {a1 : Nat} {a2 : Int32}  (t_a0 : G[a0]? = some 8) (t_a1 : G[a1]? = some 2) (pl_a2 : 0 ≤ a2.toInt) (pu_a2 : a2.toInt ≤ 15) : ∃ q, f_Finder_goFirst nf a0 a1 a2 c = some q ∧ Zwt zty G q.2 ∧ Zfr G M_Finder_goFirst c q.2 ∧ 0 ≤ q.1.toInt ∧ q.1.toInt ≤ 1 := by
  have F0 : Zfr G M_Finder_goFirst c c := Zfr.rf
  unfold f_Finder_goFirst
  unfold f_Finder_goFirst_5
  have := li_0
  have L1 : ∃ b, zlp (fun a : Nat × Nat × Int32 × Int32 × Int32 × Zc => g_Finder_goFirst_5 nf a.1 a.2.1 a.2.2.1 a.2.2.2.1 a.2.2.2.2.1 a.2.2.2.2.2) nf (a0, a1, a2, 0, 0, c) = some b ∧ (fun b : (Int32 × Zc) => Zwt zty G b.2 ∧ Zfr G ([(52, 0), (54, 0)] : List (Nat × Nat)) c b.2) b := by
    refine wlp (fun a : Nat × Nat × Int32 × Int32 × Int32 × Zc => a0 = a.1 ∧ a1 = a.2.1 ∧ a2 = a.2.2.1 ∧ Zwt zty G a.2.2.2.2.2 ∧ Zfr G ([(52, 0), (54, 0)] : List (Nat × Nat)) c a.2.2.2.2.2 ∧ 0 ≤ a.2.2.2.2.1.toInt ∧ a.2.2.2.2.1.toInt ≤ 16) (fun a => (16 - a.2.2.2.2.1.toInt).toNat) (fun b : (Int32 × Zc) => Zwt zty G b.2 ∧ Zfr G ([(52, 0), (54, 0)] : List (Nat × Nat)) c b.2) ?_ ?_ ?_
    · rintro ⟨x0_2, x1_2, x2_2, x3_2, x4_2, c_2⟩ hI
      try dsimp only at hI ⊢
      obtain ⟨rfl, rfl, rfl, WLc_2, FLc_2, j3, j4⟩ := hI
      unfold g_Finder_goFirst_5
      obtain ⟨v1, ev1, lv1, uv1⟩ := gf_2_5 WLc_2 t_a1
      refine wb ev1 ?_
      refine wi (fun hq5 => ?_) (fun hq5 => ?_)
      · have hq5 := i_le hq5
        exact lInr ⟨WLc_2, FLc_2⟩
      · have hq5 := i_nle hq5
        obtain ⟨v3, ev3⟩ := gf_2_8 WLc_2 t_a1
        refine wb ev3 ?_
        refine wi (fun hq6 => ?_) (fun hq6 => ?_)
        · have hq6 := i_eq hq6
          unfold f_Finder_goFirst_33
          obtain ⟨v5, ev5, tv5⟩ := gf_8_5 WLc_2 t_a0
          refine wb ev5 ?_
          refine wi (fun hq7 => ?_) (fun hq7 => ?_)
          · have hq7 := i_eq hq7
            unfold f_Finder_goFirst_70
            obtain ⟨c7, ec7, Wc7, fc7, gc7⟩ := pa_52 WLc_2 tv5 (i := x4_2) (by omega) (by omega) (x := 0) (trivial)
            refine wb ec7 ?_
            have e8 := (Zfr.gr fc7 t_a0 (by decide)).trans ev5
            have F9 := Zfr.tr FLc_2 fc7 (by decide)
            obtain ⟨v8, ev8, tv8⟩ := gf_8_7 Wc7 t_a0
            refine wb ev8 ?_
            refine wb e8 ?_
            refine wb gc7 ?_
            obtain ⟨c11, ec11, Wc11, fc11, gc11⟩ := pa_54 Wc7 tv8 (i := x4_2) (by omega) (by omega) (x := 0) (trivial)
            refine wb ec11 ?_
            have e10 := (Zfr.gr fc11 t_a0 (by decide)).trans e8
            have e11 := (Zfr.ai fc11 tv5 (by decide)).trans gc7
            have F12 := Zfr.tr F9 fc11 (by decide)
            refine wb e10 ?_
            refine wb e11 ?_
            have := li_1
            have := i_add (a := x4_2) (b := 1) (by omega) (by omega)
            exact lInl ⟨rfl, rfl, rfl, Wc11, F12, by (try dsimp only); omega, by (try dsimp only); omega⟩ (by (try dsimp only); omega)
          · have hq7 := i_ne hq7
            obtain ⟨v14, ev14, tv14⟩ := gf_8_1 WLc_2 t_a0
            refine wb ev14 ?_
            obtain ⟨v15, ev15, tv15⟩ := gf_1_6 WLc_2 tv14
            refine wb ev15 ?_
            obtain ⟨v16, ev16, tv16⟩ := gf_2_6 WLc_2 t_a1
            refine wb ev16 ?_
            obtain ⟨v17, ev17, lv17, uv17⟩ := ga_22 WLc_2 tv16 (i := x4_2) (by omega) (by omega)
            refine wb ev17 ?_
            have := li_16
            have := i_mulr (a := v17) (b := 16) (n := 16) li_16 (by omega) (by omega)
            have := i_add (a := (v17 * 16)) (b := a2) (by omega) (by omega)
            obtain ⟨v18, ev18, _⟩ := ga_21 WLc_2 tv15 (i := ((v17 * 16) + a2)) (by omega) (by omega)
            refine wb ev18 ?_
            unfold f_Finder_goFirst_70
            obtain ⟨c7, ec7, Wc7, fc7, gc7⟩ := pa_52 WLc_2 tv5 (i := x4_2) (by omega) (by omega) (x := v18) (trivial)
            refine wb ec7 ?_
            have e13 := (Zfr.gr fc7 t_a0 (by decide)).trans ev5
            have e14 := (Zfr.ai fc7 tv16 (by decide)).trans ev17
            have e15 := (Zfr.ai fc7 tv15 (by decide)).trans ev18
            have F16 := Zfr.tr FLc_2 fc7 (by decide)
            obtain ⟨v8, ev8, tv8⟩ := gf_8_7 Wc7 t_a0
            refine wb ev8 ?_
            refine wb e13 ?_
            refine wb gc7 ?_
            obtain ⟨c11, ec11, Wc11, fc11, gc11⟩ := pa_54 Wc7 tv8 (i := x4_2) (by omega) (by omega) (x := v18) (trivial)
            refine wb ec11 ?_
            have e17 := (Zfr.gr fc11 t_a0 (by decide)).trans e13
            have e18 := (Zfr.ai fc11 tv16 (by decide)).trans e14
            have e19 := (Zfr.ai fc11 tv15 (by decide)).trans e15
            have e20 := (Zfr.ai fc11 tv5 (by decide)).trans gc7
            have F21 := Zfr.tr F16 fc11 (by decide)
            refine wb e17 ?_
            refine wb e20 ?_
            have := li_1
            have := i_add (a := x4_2) (b := 1) (by omega) (by omega)
            exact lInl ⟨rfl, rfl, rfl, Wc11, F21, by (try dsimp only); omega, by (try dsimp only); omega⟩ (by (try dsimp only); omega)
        · have hq6 := i_ne hq6
          unfold f_Finder_goFirst_33
          obtain ⟨v5, ev5, tv5⟩ := gf_8_5 WLc_2 t_a0
          refine wb ev5 ?_
          refine wi (fun hq22 => ?_) (fun hq22 => ?_)
          · have := li_1
            have hq22 := i_eq hq22
            unfold f_Finder_goFirst_70
            obtain ⟨c7, ec7, Wc7, fc7, gc7⟩ := pa_52 WLc_2 tv5 (i := x4_2) (by omega) (by omega) (x := 0) (trivial)
            refine wb ec7 ?_
            have e23 := (Zfr.gr fc7 t_a0 (by decide)).trans ev5
            have F24 := Zfr.tr FLc_2 fc7 (by decide)
            obtain ⟨v8, ev8, tv8⟩ := gf_8_7 Wc7 t_a0
            refine wb ev8 ?_
            refine wb e23 ?_
            refine wb gc7 ?_
            obtain ⟨c11, ec11, Wc11, fc11, gc11⟩ := pa_54 Wc7 tv8 (i := x4_2) (by omega) (by omega) (x := 0) (trivial)
            refine wb ec11 ?_
            have e25 := (Zfr.gr fc11 t_a0 (by decide)).trans e23
            have e26 := (Zfr.ai fc11 tv5 (by decide)).trans gc7
            have F27 := Zfr.tr F24 fc11 (by decide)
            refine wb e25 ?_
            refine wb e26 ?_
            have := i_add (a := x4_2) (b := 1) (by omega) (by omega)
            exact lInl ⟨rfl, rfl, rfl, Wc11, F27, by (try dsimp only); omega, by (try dsimp only); omega⟩ (by (try dsimp only); omega)
          · have := li_1
            have hq22 := i_ne hq22
            obtain ⟨v14, ev14, tv14⟩ := gf_8_1 WLc_2 t_a0
            refine wb ev14 ?_
            obtain ⟨v15, ev15, tv15⟩ := gf_1_6 WLc_2 tv14
            refine wb ev15 ?_
            obtain ⟨v16, ev16, tv16⟩ := gf_2_6 WLc_2 t_a1
            refine wb ev16 ?_
            obtain ⟨v17, ev17, lv17, uv17⟩ := ga_22 WLc_2 tv16 (i := x4_2) (by omega) (by omega)
            refine wb ev17 ?_
            have := li_16
            have := i_mulr (a := v17) (b := 16) (n := 16) li_16 (by omega) (by omega)
            have := i_add (a := (v17 * 16)) (b := a2) (by omega) (by omega)
            obtain ⟨v18, ev18, _⟩ := ga_21 WLc_2 tv15 (i := ((v17 * 16) + a2)) (by omega) (by omega)
            refine wb ev18 ?_
            unfold f_Finder_goFirst_70
            obtain ⟨c7, ec7, Wc7, fc7, gc7⟩ := pa_52 WLc_2 tv5 (i := x4_2) (by omega) (by omega) (x := v18) (trivial)
            refine wb ec7 ?_
            have e28 := (Zfr.gr fc7 t_a0 (by decide)).trans ev5
            have e29 := (Zfr.ai fc7 tv16 (by decide)).trans ev17
            have e30 := (Zfr.ai fc7 tv15 (by decide)).trans ev18
            have F31 := Zfr.tr FLc_2 fc7 (by decide)
            obtain ⟨v8, ev8, tv8⟩ := gf_8_7 Wc7 t_a0
            refine wb ev8 ?_
            refine wb e28 ?_
            refine wb gc7 ?_
            obtain ⟨c11, ec11, Wc11, fc11, gc11⟩ := pa_54 Wc7 tv8 (i := x4_2) (by omega) (by omega) (x := v18) (trivial)
            refine wb ec11 ?_
            have e32 := (Zfr.gr fc11 t_a0 (by decide)).trans e28
            have e33 := (Zfr.ai fc11 tv16 (by decide)).trans e29
            have e34 := (Zfr.ai fc11 tv15 (by decide)).trans e30
            have e35 := (Zfr.ai fc11 tv5 (by decide)).trans gc7
            have F36 := Zfr.tr F31 fc11 (by decide)
            refine wb e32 ?_
            refine wb e35 ?_
            have := i_add (a := x4_2) (b := 1) (by omega) (by omega)
            exact lInl ⟨rfl, rfl, rfl, Wc11, F36, by (try dsimp only); omega, by (try dsimp only); omega⟩ (by (try dsimp only); omega)
    · exact ⟨rfl, rfl, rfl, W, Zfr.rf, by (try dsimp only); omega, by (try dsimp only); omega⟩
    · (try dsimp only); omega
  obtain ⟨b, eb, hb⟩ := L1
  refine wb eb ?_
  clear eb
  obtain ⟨z0_37, c_37⟩ := b
  try dsimp only at hb ⊢
  obtain ⟨WXc_37, FXc_37⟩ := hb
  have F38 := Zfr.tr F0 FXc_37 (by decide)
  refine wi (fun hq39 => ?_) (fun hq39 => ?_)
  · have := i_ge z0_37
    have := i_up z0_37
    have hq39 := i_eq hq39
    unfold f_Finder_goFirst_110
    exact wz (rgi (by omega) (by omega)) ⟨WXc_37, F38, by (try dsimp only); omega, by (try dsimp only); omega⟩
  · have := i_ge z0_37
    have := i_up z0_37
    have hq39 := i_ne hq39
    unfold f_Finder_goFirst_110
    have := li_1
    exact wz (rgi (by omega) (by omega)) ⟨WXc_37, F38, by (try dsimp only); omega, by (try dsimp only); omega⟩

abbrev M_Finder_spread : List (Nat × Nat) := [(53, 0)]
set_option maxRecDepth 100000 in
set_option maxHeartbeats 400000 in
theorem p_Finder_spread {nf : Nat} (hn : 8589934592 ≤ nf) {G : List Nat} {c : Zc} (W : Zwt zty G c) {a0 : Nat} {a1 : Nat} {a2 : Int32} {a3 : Int32}  (t_a0 : G[a0]? = some 8) (t_a1 : G[a1]? = some 2) : ∃ q, f_Finder_spread nf a0 a1 a2 a3 c = some q ∧ Zwt zty G q ∧ Zfr G M_Finder_spread c q := by
  have F0 : Zfr G M_Finder_spread c c := Zfr.rf
  unfold f_Finder_spread
  unfold f_Finder_spread_3
  have := li_0
  have L1 : ∃ b, zlp (fun a : Nat × Nat × Int32 × Int32 × Int32 × Zc => g_Finder_spread_3 nf a.1 a.2.1 a.2.2.1 a.2.2.2.1 a.2.2.2.2.1 a.2.2.2.2.2) nf (a0, a1, a2, a3, 0, c) = some b ∧ (fun b : (Zc) => Zwt zty G b ∧ Zfr G ([(53, 0)] : List (Nat × Nat)) c b) b := by
    refine wlp (fun a : Nat × Nat × Int32 × Int32 × Int32 × Zc => a0 = a.1 ∧ a1 = a.2.1 ∧ a2 = a.2.2.1 ∧ a3 = a.2.2.2.1 ∧ Zwt zty G a.2.2.2.2.2 ∧ Zfr G ([(53, 0)] : List (Nat × Nat)) c a.2.2.2.2.2 ∧ 0 ≤ a.2.2.2.2.1.toInt ∧ a.2.2.2.2.1.toInt ≤ 16) (fun a => (16 - a.2.2.2.2.1.toInt).toNat) (fun b : (Zc) => Zwt zty G b ∧ Zfr G ([(53, 0)] : List (Nat × Nat)) c b) ?_ ?_ ?_
    · rintro ⟨x0_2, x1_2, x2_2, x3_2, x4_2, c_2⟩ hI
      try dsimp only at hI ⊢
      obtain ⟨rfl, rfl, rfl, rfl, WLc_2, FLc_2, j3, j4⟩ := hI
      unfold g_Finder_spread_3
      obtain ⟨v1, ev1, lv1, uv1⟩ := gf_2_5 WLc_2 t_a1
      refine wb ev1 ?_
      refine wi (fun hq5 => ?_) (fun hq5 => ?_)
      · have hq5 := i_le hq5
        exact lInr ⟨WLc_2, FLc_2⟩
      · have hq5 := i_nle hq5
        refine wi (fun hq6 => ?_) (fun hq6 => ?_)
        · have := li_1
          have := i_andr (a := (a3 >>> (x4_2 &&& 31))) (b := 1) (by omega)
          have hq6 := i_eq hq6
          unfold f_Finder_spread_86
          have := i_add (a := x4_2) (b := 1) (by omega) (by omega)
          exact lInl ⟨rfl, rfl, rfl, rfl, WLc_2, FLc_2, by (try dsimp only); omega, by (try dsimp only); omega⟩ (by (try dsimp only); omega)
        · have := li_1
          have := i_andr (a := (a3 >>> (x4_2 &&& 31))) (b := 1) (by omega)
          have hq6 := i_ne hq6
          obtain ⟨v4, ev4, tv4⟩ := gf_2_6 WLc_2 t_a1
          refine wb ev4 ?_
          obtain ⟨v5, ev5, lv5, uv5⟩ := ga_22 WLc_2 tv4 (i := x4_2) (by omega) (by omega)
          refine wb ev5 ?_
          unfold f_Finder_spread_36
          have := li_16
          have := i_mulr (a := v5) (b := 16) (n := 16) li_16 (by omega) (by omega)
          have L7 : ∃ b, zlp (fun a : Nat × Nat × Int32 × Int32 × Int32 × Int32 × Int32 × Zc => g_Finder_spread_36 nf a.1 a.2.1 a.2.2.1 a.2.2.2.1 a.2.2.2.2.1 a.2.2.2.2.2.1 a.2.2.2.2.2.2.1 a.2.2.2.2.2.2.2) nf (a0, a1, a2, a3, x4_2, (v5 * 16), 0, c_2) = some b ∧ (fun b : (Nat × Nat × Int32 × Int32 × Int32 × Zc) => a0 = b.1 ∧ a1 = b.2.1 ∧ a2 = b.2.2.1 ∧ a3 = b.2.2.2.1 ∧ x4_2 = b.2.2.2.2.1 ∧ Zwt zty G b.2.2.2.2.2 ∧ Zfr G ([(53, 0)] : List (Nat × Nat)) c_2 b.2.2.2.2.2) b := by
            refine wlp (fun a : Nat × Nat × Int32 × Int32 × Int32 × Int32 × Int32 × Zc => a0 = a.1 ∧ a1 = a.2.1 ∧ a2 = a.2.2.1 ∧ a3 = a.2.2.2.1 ∧ x4_2 = a.2.2.2.2.1 ∧ (v5 * 16) = a.2.2.2.2.2.1 ∧ Zwt zty G a.2.2.2.2.2.2.2 ∧ Zfr G ([(53, 0)] : List (Nat × Nat)) c_2 a.2.2.2.2.2.2.2 ∧ 0 ≤ a.2.2.2.2.2.2.1.toInt ∧ a.2.2.2.2.2.2.1.toInt ≤ 16) (fun a => (16 - a.2.2.2.2.2.2.1.toInt).toNat) (fun b : (Nat × Nat × Int32 × Int32 × Int32 × Zc) => a0 = b.1 ∧ a1 = b.2.1 ∧ a2 = b.2.2.1 ∧ a3 = b.2.2.2.1 ∧ x4_2 = b.2.2.2.2.1 ∧ Zwt zty G b.2.2.2.2.2 ∧ Zfr G ([(53, 0)] : List (Nat × Nat)) c_2 b.2.2.2.2.2) ?_ ?_ ?_
            · rintro ⟨x0_8, x1_8, x2_8, x3_8, x4_8, x5_8, x6_8, c_8⟩ hI
              try dsimp only at hI ⊢
              obtain ⟨rfl, rfl, rfl, rfl, rfl, rfl, WLc_8, FLc_8, j9, j10⟩ := hI
              have e11 := (Zfr.ai FLc_8 tv4 (by decide)).trans ev5
              unfold g_Finder_spread_36
              obtain ⟨v6, ev6, tv6⟩ := gf_8_1 WLc_8 t_a0
              refine wb ev6 ?_
              obtain ⟨v7, ev7, lv7, uv7⟩ := gf_1_7 WLc_8 tv6
              refine wb ev7 ?_
              refine wi (fun hq12 => ?_) (fun hq12 => ?_)
              · have hq12 := i_le hq12
                exact lInr ⟨rfl, rfl, rfl, rfl, rfl, WLc_8, FLc_8⟩
              · have hq12 := i_nle hq12
                refine wi (fun hq13 => ?_) (fun hq13 => ?_)
                · have := i_andr (a := (a2 >>> (x6_8 &&& 31))) (b := 1) (by omega)
                  have hq13 := i_eq hq13
                  unfold f_Finder_spread_80
                  have := i_add (a := x6_8) (b := 1) (by omega) (by omega)
                  exact lInl ⟨rfl, rfl, rfl, rfl, rfl, rfl, WLc_8, FLc_8, by (try dsimp only); omega, by (try dsimp only); omega⟩ (by (try dsimp only); omega)
                · have := i_andr (a := (a2 >>> (x6_8 &&& 31))) (b := 1) (by omega)
                  have hq13 := i_ne hq13
                  obtain ⟨v10, ev10, tv10⟩ := gf_8_6 WLc_8 t_a0
                  refine wb ev10 ?_
                  obtain ⟨v11, ev11, _⟩ := ga_53 WLc_8 tv10 (i := x4_2) (by omega) (by omega)
                  refine wb ev11 ?_
                  refine wb ev6 ?_
                  obtain ⟨v13, ev13, tv13⟩ := gf_1_6 WLc_8 tv6
                  refine wb ev13 ?_
                  have := i_add (a := (v5 * 16)) (b := x6_8) (by omega) (by omega)
                  obtain ⟨v14, ev14, _⟩ := ga_21 WLc_8 tv13 (i := ((v5 * 16) + x6_8)) (by omega) (by omega)
                  refine wb ev14 ?_
                  obtain ⟨c15, ec15, Wc15, fc15, gc15⟩ := pa_53 WLc_8 tv10 (i := x4_2) (by omega) (by omega) (x := (v11 ||| v14)) (trivial)
                  refine wb ec15 ?_
                  have F14 := Zfr.tr FLc_8 fc15 (by decide)
                  unfold f_Finder_spread_80
                  have := i_add (a := x6_8) (b := 1) (by omega) (by omega)
                  exact lInl ⟨rfl, rfl, rfl, rfl, rfl, rfl, Wc15, F14, by (try dsimp only); omega, by (try dsimp only); omega⟩ (by (try dsimp only); omega)
            · exact ⟨rfl, rfl, rfl, rfl, rfl, rfl, WLc_2, Zfr.rf, by (try dsimp only); omega, by (try dsimp only); omega⟩
            · (try dsimp only); omega
          obtain ⟨b, eb, hb⟩ := L7
          refine wb eb ?_
          clear eb
          obtain ⟨z0_15, z1_15, z2_15, z3_15, z4_15, c_15⟩ := b
          try dsimp only at hb ⊢
          obtain ⟨rfl, rfl, rfl, rfl, rfl, WXc_15, FXc_15⟩ := hb
          have F16 := Zfr.tr FLc_2 FXc_15 (by decide)
          unfold f_Finder_spread_86
          have := i_add (a := x4_2) (b := 1) (by omega) (by omega)
          exact lInl ⟨rfl, rfl, rfl, rfl, WXc_15, F16, by (try dsimp only); omega, by (try dsimp only); omega⟩ (by (try dsimp only); omega)
    · exact ⟨rfl, rfl, rfl, rfl, W, Zfr.rf, by (try dsimp only); omega, by (try dsimp only); omega⟩
    · (try dsimp only); omega
  obtain ⟨b, eb, hb⟩ := L1
  refine wb eb ?_
  clear eb
  obtain c_17 := b
  try dsimp only at hb ⊢
  obtain ⟨WXc_17, FXc_17⟩ := hb
  have F18 := Zfr.tr F0 FXc_17 (by decide)
  exact ⟨_, rfl, WXc_17, F18⟩

abbrev M_Finder_goOn : List (Nat × Nat) := [(52, 0), (53, 0), (54, 0)]
set_option maxRecDepth 100000 in
set_option maxHeartbeats 400000 in
theorem p_Finder_goOn {nf : Nat} (hn : 8589934592 ≤ nf) {G : List Nat} {c : Zc} (W : Zwt zty G c) {a0 : Nat} {a1 : Nat}  (t_a0 : G[a0]? = some 8) (t_a1 : G[a1]? = some 2) : ∃ q, f_Finder_goOn nf a0 a1 c = some q ∧ Zwt zty G q.2 ∧ Zfr G M_Finder_goOn c q.2 ∧ 0 ≤ q.1.toInt ∧ q.1.toInt ≤ 1 := by
  have F0 : Zfr G M_Finder_goOn c c := Zfr.rf
  unfold f_Finder_goOn
  obtain ⟨v1, ev1, tv1⟩ := gf_8_6 W t_a0
  refine wb ev1 ?_
  have := li_0
  obtain ⟨q2, eq2, Wq2, fq2⟩ := p_Arrays_fill__FNext hn W (a1 := 0) tv1
  refine wb eq2 ?_
  have e1 := (Zfr.gr fq2 t_a0 (by decide)).trans ev1
  have F2 := Zfr.tr F0 fq2 (by decide)
  unfold f_Finder_goOn_10
  have L3 : ∃ b, zlp (fun a : Nat × Nat × Int32 × Zc => g_Finder_goOn_10 nf a.1 a.2.1 a.2.2.1 a.2.2.2) nf (a0, a1, 0, q2) = some b ∧ (fun b : (Nat × Nat × Zc) => a0 = b.1 ∧ a1 = b.2.1 ∧ Zwt zty G b.2.2 ∧ Zfr G ([(53, 0)] : List (Nat × Nat)) q2 b.2.2) b := by
    refine wlp (fun a : Nat × Nat × Int32 × Zc => a0 = a.1 ∧ a1 = a.2.1 ∧ Zwt zty G a.2.2.2 ∧ Zfr G ([(53, 0)] : List (Nat × Nat)) q2 a.2.2.2 ∧ 0 ≤ a.2.2.1.toInt ∧ a.2.2.1.toInt ≤ 16) (fun a => (16 - a.2.2.1.toInt).toNat) (fun b : (Nat × Nat × Zc) => a0 = b.1 ∧ a1 = b.2.1 ∧ Zwt zty G b.2.2 ∧ Zfr G ([(53, 0)] : List (Nat × Nat)) q2 b.2.2) ?_ ?_ ?_
    · rintro ⟨x0_4, x1_4, x2_4, c_4⟩ hI
      try dsimp only at hI ⊢
      obtain ⟨rfl, rfl, WLc_4, FLc_4, j5, j6⟩ := hI
      unfold g_Finder_goOn_10
      obtain ⟨v3, ev3, lv3, uv3⟩ := gf_2_5 WLc_4 t_a1
      refine wb ev3 ?_
      refine wi (fun hq7 => ?_) (fun hq7 => ?_)
      · have hq7 := i_le hq7
        exact lInr ⟨rfl, rfl, WLc_4, FLc_4⟩
      · have hq7 := i_nle hq7
        obtain ⟨v5, ev5, tv5⟩ := gf_8_5 WLc_4 t_a0
        refine wb ev5 ?_
        obtain ⟨v6, ev6, _⟩ := ga_52 WLc_4 tv5 (i := x2_4) (by omega) (by omega)
        refine wb ev6 ?_
        refine wi (fun hq8 => ?_) (fun hq8 => ?_)
        · have := i_ge v6
          have := i_up v6
          have hq8 := i_eq hq8
          unfold f_Finder_goOn_44
          have := li_1
          have := i_add (a := x2_4) (b := 1) (by omega) (by omega)
          exact lInl ⟨rfl, rfl, WLc_4, FLc_4, by (try dsimp only); omega, by (try dsimp only); omega⟩ (by (try dsimp only); omega)
        · have := i_ge v6
          have := i_up v6
          have hq8 := i_ne hq8
          refine wb ev5 ?_
          refine wb ev6 ?_
          obtain ⟨v10, ev10, tv10⟩ := gf_2_7 WLc_4 t_a1
          refine wb ev10 ?_
          obtain ⟨v11, ev11, _⟩ := ga_23 WLc_4 tv10 (i := x2_4) (by omega) (by omega)
          refine wb ev11 ?_
          obtain ⟨w13, ew13⟩ := go_8 WLc_4 t_a0
          refine wb ew13 ?_
          obtain ⟨q12, eq12, Wq12, fq12⟩ := p_Finder_spread hn WLc_4 (a2 := v6) (a3 := v11) t_a0 t_a1
          refine wb eq12 ?_
          have F9 := Zfr.tr FLc_4 fq12 (by decide)
          unfold f_Finder_goOn_44
          have := li_1
          have := i_add (a := x2_4) (b := 1) (by omega) (by omega)
          exact lInl ⟨rfl, rfl, Wq12, F9, by (try dsimp only); omega, by (try dsimp only); omega⟩ (by (try dsimp only); omega)
    · exact ⟨rfl, rfl, Wq2, Zfr.rf, by (try dsimp only); omega, by (try dsimp only); omega⟩
    · (try dsimp only); omega
  obtain ⟨b, eb, hb⟩ := L3
  refine wb eb ?_
  clear eb
  obtain ⟨z0_10, z1_10, c_10⟩ := b
  try dsimp only at hb ⊢
  obtain ⟨rfl, rfl, WXc_10, FXc_10⟩ := hb
  have e11 := (Zfr.gr FXc_10 t_a0 (by decide)).trans e1
  have F12 := Zfr.tr F2 FXc_10 (by decide)
  unfold f_Finder_goOn_54
  have L13 : ∃ b, zlp (fun a : Nat × Nat × Int32 × Int32 × Zc => g_Finder_goOn_54 nf a.1 a.2.1 a.2.2.1 a.2.2.2.1 a.2.2.2.2) nf (a0, a1, 0, 0, c_10) = some b ∧ (fun b : (Int32 × Zc) => Zwt zty G b.2 ∧ Zfr G ([(52, 0), (54, 0)] : List (Nat × Nat)) c_10 b.2) b := by
    refine wlp (fun a : Nat × Nat × Int32 × Int32 × Zc => a0 = a.1 ∧ a1 = a.2.1 ∧ Zwt zty G a.2.2.2.2 ∧ Zfr G ([(52, 0), (54, 0)] : List (Nat × Nat)) c_10 a.2.2.2.2 ∧ 0 ≤ a.2.2.2.1.toInt ∧ a.2.2.2.1.toInt ≤ 16) (fun a => (16 - a.2.2.2.1.toInt).toNat) (fun b : (Int32 × Zc) => Zwt zty G b.2 ∧ Zfr G ([(52, 0), (54, 0)] : List (Nat × Nat)) c_10 b.2) ?_ ?_ ?_
    · rintro ⟨x0_14, x1_14, x2_14, x3_14, c_14⟩ hI
      try dsimp only at hI ⊢
      obtain ⟨rfl, rfl, WLc_14, FLc_14, j15, j16⟩ := hI
      have e17 := (Zfr.gr FLc_14 t_a0 (by decide)).trans e11
      unfold g_Finder_goOn_54
      obtain ⟨v14, ev14, lv14, uv14⟩ := gf_2_5 WLc_14 t_a1
      refine wb ev14 ?_
      refine wi (fun hq18 => ?_) (fun hq18 => ?_)
      · have hq18 := i_le hq18
        exact lInr ⟨WLc_14, FLc_14⟩
      · have hq18 := i_nle hq18
        obtain ⟨v16, ev16, tv16⟩ := gf_8_5 WLc_14 t_a0
        refine wb ev16 ?_
        refine wb e17 ?_
        obtain ⟨v18, ev18, _⟩ := ga_53 WLc_14 tv1 (i := x3_14) (by omega) (by omega)
        refine wb ev18 ?_
        obtain ⟨v19, ev19, tv19⟩ := gf_8_7 WLc_14 t_a0
        refine wb ev19 ?_
        obtain ⟨v20, ev20, _⟩ := ga_54 WLc_14 tv19 (i := x3_14) (by omega) (by omega)
        refine wb ev20 ?_
        obtain ⟨c21, ec21, Wc21, fc21, gc21⟩ := pa_52 WLc_14 tv16 (i := x3_14) (by omega) (by omega) (x := (v18 &&& (v20 ^^^ (-1)))) (trivial)
        refine wb ec21 ?_
        have e19 := (Zfr.gr fc21 t_a0 (by decide)).trans ev16
        have e20 := (Zfr.ai fc21 tv1 (by decide)).trans ev18
        have e21 := (Zfr.gr fc21 t_a0 (by decide)).trans ev19
        have e22 := (Zfr.ai fc21 tv19 (by decide)).trans ev20
        have F23 := Zfr.tr FLc_14 fc21 (by decide)
        refine wb e21 ?_
        refine wb e22 ?_
        refine wb e19 ?_
        refine wb gc21 ?_
        obtain ⟨c26, ec26, Wc26, fc26, gc26⟩ := pa_54 Wc21 tv19 (i := x3_14) (by omega) (by omega) (x := (v20 ||| (v18 &&& (v20 ^^^ (-1))))) (trivial)
        refine wb ec26 ?_
        have e24 := (Zfr.gr fc26 t_a0 (by decide)).trans e19
        have e25 := (Zfr.ai fc26 tv1 (by decide)).trans e20
        have e26 := (Zfr.ai fc26 tv16 (by decide)).trans gc21
        have F27 := Zfr.tr F23 fc26 (by decide)
        refine wb e24 ?_
        refine wb e26 ?_
        have := li_1
        have := i_add (a := x3_14) (b := 1) (by omega) (by omega)
        exact lInl ⟨rfl, rfl, Wc26, F27, by (try dsimp only); omega, by (try dsimp only); omega⟩ (by (try dsimp only); omega)
    · exact ⟨rfl, rfl, WXc_10, Zfr.rf, by (try dsimp only); omega, by (try dsimp only); omega⟩
    · (try dsimp only); omega
  obtain ⟨b, eb, hb⟩ := L13
  refine wb eb ?_
  clear eb
  obtain ⟨z0_28, c_28⟩ := b
  try dsimp only at hb ⊢
  obtain ⟨WXc_28, FXc_28⟩ := hb
  have F29 := Zfr.tr F12 FXc_28 (by decide)
  refine wi (fun hq30 => ?_) (fun hq30 => ?_)
  · have := i_ge z0_28
    have := i_up z0_28
    have hq30 := i_eq hq30
    unfold f_Finder_goOn_122
    exact wz (rgi (by omega) (by omega)) ⟨WXc_28, F29, by (try dsimp only); omega, by (try dsimp only); omega⟩
  · have := i_ge z0_28
    have := i_up z0_28
    have hq30 := i_ne hq30
    unfold f_Finder_goOn_122
    have := li_1
    exact wz (rgi (by omega) (by omega)) ⟨WXc_28, F29, by (try dsimp only); omega, by (try dsimp only); omega⟩

abbrev M_Finder_measureFrom : List (Nat × Nat) := [(2, 16), (26, 0), (27, 0), (28, 0), (52, 0), (53, 0), (54, 0)]
set_option maxRecDepth 100000 in
set_option maxHeartbeats 400000 in
theorem p_Finder_measureFrom {nf : Nat} (hn : 8589934592 ≤ nf) {G : List Nat} {c : Zc} (W : Zwt zty G c) {a0 : Nat} {a1 : Nat} {a2 : Int32}  (t_a0 : G[a0]? = some 8) (t_a1 : G[a1]? = some 2) (pl_a2 : 0 ≤ a2.toInt) (pu_a2 : a2.toInt ≤ 15) : ∃ q, f_Finder_measureFrom nf a0 a1 a2 c = some q ∧ Zwt zty G q ∧ Zfr G M_Finder_measureFrom c q := by
  have F0 : Zfr G M_Finder_measureFrom c c := Zfr.rf
  unfold f_Finder_measureFrom
  obtain ⟨v1, ev1⟩ := gf_2_8 W t_a1
  refine wb ev1 ?_
  refine wi (fun hq1 => ?_) (fun hq1 => ?_)
  · have := li_0
    have hq1 := i_eq hq1
    unfold f_Finder_measureFrom_22
    obtain ⟨w4, ew4⟩ := go_8 W t_a0
    refine wb ew4 ?_
    obtain ⟨q3, eq3, Wq3, fq3, pl0q3, pu0q3⟩ := p_Finder_goFirst hn W (a2 := a2) t_a0 t_a1 (by omega) (by omega)
    refine wb eq3 ?_
    have e2 := (Zfr.gl fq3 t_a1 (by decide)).trans ev1
    have F3 := Zfr.tr F0 fq3 (by decide)
    obtain ⟨v5, ev5, tv5⟩ := gf_8_1 Wq3 t_a0
    refine wb ev5 ?_
    obtain ⟨v6, ev6, lv6, uv6⟩ := gf_1_7 Wq3 tv5
    refine wb ev6 ?_
    unfold f_Finder_measureFrom_50
    have := li_1
    have := i_shl16 (b := v6) (by omega) (by omega)
    have := i_sub (a := ((1 : Int32) <<< (v6 &&& 31))) (b := 1) (by omega) (by omega)
    have := li_256
    have L4 : ∃ b, zlp (fun a : Nat × Nat × Int32 × Int32 × Int32 × Int32 × Int32 × Zc => g_Finder_measureFrom_50 nf a.1 a.2.1 a.2.2.1 a.2.2.2.1 a.2.2.2.2.1 a.2.2.2.2.2.1 a.2.2.2.2.2.2.1 a.2.2.2.2.2.2.2) nf (a0, a1, a2, q3.1, (((1 : Int32) <<< (v6 &&& 31)) - 1), 256, 1, q3.2) = some b ∧ (fun b : (Zc) => Zwt zty G b ∧ Zfr G ([(2, 16), (26, 0), (27, 0), (28, 0), (52, 0), (53, 0), (54, 0)] : List (Nat × Nat)) q3.2 b) b := by
      refine wlp (fun a : Nat × Nat × Int32 × Int32 × Int32 × Int32 × Int32 × Zc => a0 = a.1 ∧ a1 = a.2.1 ∧ a2 = a.2.2.1 ∧ (((1 : Int32) <<< (v6 &&& 31)) - 1) = a.2.2.2.2.1 ∧ (256 : Int32) = a.2.2.2.2.2.1 ∧ Zwt zty G a.2.2.2.2.2.2.2 ∧ Zfr G ([(2, 16), (26, 0), (27, 0), (28, 0), (52, 0), (53, 0), (54, 0)] : List (Nat × Nat)) q3.2 a.2.2.2.2.2.2.2 ∧ 1 ≤ a.2.2.2.2.2.2.1.toInt ∧ a.2.2.2.2.2.2.1.toInt ≤ 257) (fun a => (257 - a.2.2.2.2.2.2.1.toInt).toNat) (fun b : (Zc) => Zwt zty G b ∧ Zfr G ([(2, 16), (26, 0), (27, 0), (28, 0), (52, 0), (53, 0), (54, 0)] : List (Nat × Nat)) q3.2 b) ?_ ?_ ?_
      · rintro ⟨x0_5, x1_5, x2_5, x3_5, x4_5, x5_5, x6_5, c_5⟩ hI
        try dsimp only at hI ⊢
        obtain ⟨rfl, rfl, rfl, rfl, rfl, WLc_5, FLc_5, j6, j7⟩ := hI
        have e8 := (Zfr.gl FLc_5 t_a1 (by decide)).trans e2
        unfold g_Finder_measureFrom_50
        refine wi (fun hq9 => ?_) (fun hq9 => ?_)
        · have hq9 := i_lt hq9
          exact lInr ⟨WLc_5, FLc_5⟩
        · have hq9 := i_nlt hq9
          refine wi (fun hq10 => ?_) (fun hq10 => ?_)
          · have := i_ge x3_5
            have := i_up x3_5
            have hq10 := i_eq hq10
            exact lInr ⟨WLc_5, FLc_5⟩
          · have := i_ge x3_5
            have := i_up x3_5
            have hq10 := i_ne hq10
            obtain ⟨v9, ev9, tv9⟩ := gf_2_14 WLc_5 t_a1
            refine wb ev9 ?_
            obtain ⟨v10, ev10, _⟩ := ga_27 WLc_5 tv9 (i := a2) (by omega) (by omega)
            refine wb ev10 ?_
            refine wi (fun hq11 => ?_) (fun hq11 => ?_)
            · have := i_ge v10
              have := i_up v10
              have hq11 := i_eq hq11
              exact lInr ⟨WLc_5, FLc_5⟩
            · have := i_ge v10
              have := i_up v10
              have hq11 := i_ne hq11
              unfold f_Finder_measureFrom_78
              have L12 : ∃ b, zlp (fun a : Nat × Nat × Int32 × Int32 × Int32 × Int32 × Int32 × Int32 × Zc => g_Finder_measureFrom_78 nf a.1 a.2.1 a.2.2.1 a.2.2.2.1 a.2.2.2.2.1 a.2.2.2.2.2.1 a.2.2.2.2.2.2.1 a.2.2.2.2.2.2.2.1 a.2.2.2.2.2.2.2.2) nf (a0, a1, a2, (((1 : Int32) <<< (v6 &&& 31)) - 1), 256, x6_5, 0, 0, c_5) = some b ∧ (fun b : (Nat × Nat × Int32 × Int32 × Int32 × Int32 × Int32 × Zc) => a0 = b.1 ∧ a1 = b.2.1 ∧ a2 = b.2.2.1 ∧ (((1 : Int32) <<< (v6 &&& 31)) - 1) = b.2.2.2.1 ∧ (256 : Int32) = b.2.2.2.2.1 ∧ x6_5 = b.2.2.2.2.2.1 ∧ Zwt zty G b.2.2.2.2.2.2.2 ∧ Zfr G ([] : List (Nat × Nat)) c_5 b.2.2.2.2.2.2.2) b := by
                refine wlp (fun a : Nat × Nat × Int32 × Int32 × Int32 × Int32 × Int32 × Int32 × Zc => a0 = a.1 ∧ a1 = a.2.1 ∧ a2 = a.2.2.1 ∧ (((1 : Int32) <<< (v6 &&& 31)) - 1) = a.2.2.2.1 ∧ (256 : Int32) = a.2.2.2.2.1 ∧ x6_5 = a.2.2.2.2.2.1 ∧ Zwt zty G a.2.2.2.2.2.2.2.2 ∧ Zfr G ([] : List (Nat × Nat)) c_5 a.2.2.2.2.2.2.2.2 ∧ 0 ≤ a.2.2.2.2.2.2.2.1.toInt ∧ a.2.2.2.2.2.2.2.1.toInt ≤ 16) (fun a => (16 - a.2.2.2.2.2.2.2.1.toInt).toNat) (fun b : (Nat × Nat × Int32 × Int32 × Int32 × Int32 × Int32 × Zc) => a0 = b.1 ∧ a1 = b.2.1 ∧ a2 = b.2.2.1 ∧ (((1 : Int32) <<< (v6 &&& 31)) - 1) = b.2.2.2.1 ∧ (256 : Int32) = b.2.2.2.2.1 ∧ x6_5 = b.2.2.2.2.2.1 ∧ Zwt zty G b.2.2.2.2.2.2.2 ∧ Zfr G ([] : List (Nat × Nat)) c_5 b.2.2.2.2.2.2.2) ?_ ?_ ?_
                · rintro ⟨x0_13, x1_13, x2_13, x4_13, x5_13, x6_13, x7_13, x8_13, c_13⟩ hI
                  try dsimp only at hI ⊢
                  obtain ⟨rfl, rfl, rfl, rfl, rfl, rfl, WLc_13, FLc_13, j14, j15⟩ := hI
                  have e16 := (Zfr.gl FLc_13 t_a1 (by decide)).trans e8
                  have e17 := (Zfr.ai FLc_13 tv9 (by decide)).trans ev10
                  unfold g_Finder_measureFrom_78
                  obtain ⟨v12, ev12, lv12, uv12⟩ := gf_2_5 WLc_13 t_a1
                  refine wb ev12 ?_
                  refine wi (fun hq18 => ?_) (fun hq18 => ?_)
                  · have hq18 := i_le hq18
                    exact lInr ⟨rfl, rfl, rfl, rfl, rfl, rfl, WLc_13, FLc_13⟩
                  · have hq18 := i_nle hq18
                    refine wb e16 ?_
                    refine wi (fun hq19 => ?_) (fun hq19 => ?_)
                    · have hq19 := i_eq hq19
                      unfold f_Finder_measureFrom_116
                      have := i_add (a := x8_13) (b := 1) (by omega) (by omega)
                      exact lInl ⟨rfl, rfl, rfl, rfl, rfl, rfl, WLc_13, FLc_13, by (try dsimp only); omega, by (try dsimp only); omega⟩ (by (try dsimp only); omega)
                    · have hq19 := i_ne hq19
                      obtain ⟨v16, ev16, tv16⟩ := gf_8_5 WLc_13 t_a0
                      refine wb ev16 ?_
                      obtain ⟨v17, ev17, _⟩ := ga_52 WLc_13 tv16 (i := x8_13) (by omega) (by omega)
                      refine wb ev17 ?_
                      unfold f_Finder_measureFrom_116
                      have := i_add (a := x8_13) (b := 1) (by omega) (by omega)
                      exact lInl ⟨rfl, rfl, rfl, rfl, rfl, rfl, WLc_13, FLc_13, by (try dsimp only); omega, by (try dsimp only); omega⟩ (by (try dsimp only); omega)
                · exact ⟨rfl, rfl, rfl, rfl, rfl, rfl, WLc_5, Zfr.rf, by (try dsimp only); omega, by (try dsimp only); omega⟩
                · (try dsimp only); omega
              obtain ⟨b, eb, hb⟩ := L12
              refine wb eb ?_
              clear eb
              obtain ⟨z0_20, z1_20, z2_20, z3_20, z4_20, z5_20, z6_20, c_20⟩ := b
              try dsimp only at hb ⊢
              obtain ⟨rfl, rfl, rfl, rfl, rfl, rfl, WXc_20, FXc_20⟩ := hb
              have F21 := Zfr.tr FLc_5 FXc_20 (by decide)
              obtain ⟨w19, ew19⟩ := go_2 WXc_20 t_a1
              refine wb ew19 ?_
              obtain ⟨q18, eq18, Wq18, fq18⟩ := p_Way_arrive hn WXc_20 (a1 := a2) (a2 := z6_20) (a3 := x6_5) t_a1 (by omega) (by omega)
              refine wb eq18 ?_
              have F22 := Zfr.tr F21 fq18 (by decide)
              obtain ⟨w21, ew21⟩ := go_8 Wq18 t_a0
              refine wb ew21 ?_
              obtain ⟨q20, eq20, Wq20, fq20, pl0q20, pu0q20⟩ := p_Finder_goOn hn Wq18  t_a0 t_a1
              refine wb eq20 ?_
              have F23 := Zfr.tr F22 fq20 (by decide)
              have := i_add (a := x6_5) (b := 1) (by omega) (by omega)
              exact lInl ⟨rfl, rfl, rfl, rfl, rfl, Wq20, F23, by (try dsimp only); omega, by (try dsimp only); omega⟩ (by (try dsimp only); omega)
      · exact ⟨rfl, rfl, rfl, rfl, rfl, Wq3, Zfr.rf, by (try dsimp only); omega, by (try dsimp only); omega⟩
      · (try dsimp only); omega
    obtain ⟨b, eb, hb⟩ := L4
    refine wb eb ?_
    clear eb
    obtain c_24 := b
    try dsimp only at hb ⊢
    obtain ⟨WXc_24, FXc_24⟩ := hb
    have F25 := Zfr.tr F3 FXc_24 (by decide)
    unfold f_Finder_measureFrom_143
    exact ⟨_, rfl, WXc_24, F25⟩
  · have := li_0
    have hq1 := i_ne hq1
    obtain ⟨w23, ew23⟩ := go_2 W t_a1
    refine wb ew23 ?_
    have := li_1
    have := i_shl16 (b := a2) (by omega) (by omega)
    obtain ⟨q22, eq22, Wq22, fq22⟩ := p_Way_arrive hn W (a1 := a2) (a2 := ((1 : Int32) <<< (a2 &&& 31))) (a3 := 0) t_a1 (by omega) (by omega)
    refine wb eq22 ?_
    have e26 := (Zfr.gl fq22 t_a1 (by decide)).trans ev1
    have F27 := Zfr.tr F0 fq22 (by decide)
    unfold f_Finder_measureFrom_22
    obtain ⟨w4, ew4⟩ := go_8 Wq22 t_a0
    refine wb ew4 ?_
    obtain ⟨q3, eq3, Wq3, fq3, pl0q3, pu0q3⟩ := p_Finder_goFirst hn Wq22 (a2 := a2) t_a0 t_a1 (by omega) (by omega)
    refine wb eq3 ?_
    have e28 := (Zfr.gl fq3 t_a1 (by decide)).trans e26
    have F29 := Zfr.tr F27 fq3 (by decide)
    obtain ⟨v5, ev5, tv5⟩ := gf_8_1 Wq3 t_a0
    refine wb ev5 ?_
    obtain ⟨v6, ev6, lv6, uv6⟩ := gf_1_7 Wq3 tv5
    refine wb ev6 ?_
    unfold f_Finder_measureFrom_50
    have := i_shl16 (b := v6) (by omega) (by omega)
    have := i_sub (a := ((1 : Int32) <<< (v6 &&& 31))) (b := 1) (by omega) (by omega)
    have := li_256
    have L30 : ∃ b, zlp (fun a : Nat × Nat × Int32 × Int32 × Int32 × Int32 × Int32 × Zc => g_Finder_measureFrom_50 nf a.1 a.2.1 a.2.2.1 a.2.2.2.1 a.2.2.2.2.1 a.2.2.2.2.2.1 a.2.2.2.2.2.2.1 a.2.2.2.2.2.2.2) nf (a0, a1, a2, q3.1, (((1 : Int32) <<< (v6 &&& 31)) - 1), 256, 1, q3.2) = some b ∧ (fun b : (Zc) => Zwt zty G b ∧ Zfr G ([(2, 16), (26, 0), (27, 0), (28, 0), (52, 0), (53, 0), (54, 0)] : List (Nat × Nat)) q3.2 b) b := by
      refine wlp (fun a : Nat × Nat × Int32 × Int32 × Int32 × Int32 × Int32 × Zc => a0 = a.1 ∧ a1 = a.2.1 ∧ a2 = a.2.2.1 ∧ (((1 : Int32) <<< (v6 &&& 31)) - 1) = a.2.2.2.2.1 ∧ (256 : Int32) = a.2.2.2.2.2.1 ∧ Zwt zty G a.2.2.2.2.2.2.2 ∧ Zfr G ([(2, 16), (26, 0), (27, 0), (28, 0), (52, 0), (53, 0), (54, 0)] : List (Nat × Nat)) q3.2 a.2.2.2.2.2.2.2 ∧ 1 ≤ a.2.2.2.2.2.2.1.toInt ∧ a.2.2.2.2.2.2.1.toInt ≤ 257) (fun a => (257 - a.2.2.2.2.2.2.1.toInt).toNat) (fun b : (Zc) => Zwt zty G b ∧ Zfr G ([(2, 16), (26, 0), (27, 0), (28, 0), (52, 0), (53, 0), (54, 0)] : List (Nat × Nat)) q3.2 b) ?_ ?_ ?_
      · rintro ⟨x0_31, x1_31, x2_31, x3_31, x4_31, x5_31, x6_31, c_31⟩ hI
        try dsimp only at hI ⊢
        obtain ⟨rfl, rfl, rfl, rfl, rfl, WLc_31, FLc_31, j32, j33⟩ := hI
        have e34 := (Zfr.gl FLc_31 t_a1 (by decide)).trans e28
        unfold g_Finder_measureFrom_50
        refine wi (fun hq35 => ?_) (fun hq35 => ?_)
        · have hq35 := i_lt hq35
          exact lInr ⟨WLc_31, FLc_31⟩
        · have hq35 := i_nlt hq35
          refine wi (fun hq36 => ?_) (fun hq36 => ?_)
          · have := i_ge x3_31
            have := i_up x3_31
            have hq36 := i_eq hq36
            exact lInr ⟨WLc_31, FLc_31⟩
          · have := i_ge x3_31
            have := i_up x3_31
            have hq36 := i_ne hq36
            obtain ⟨v9, ev9, tv9⟩ := gf_2_14 WLc_31 t_a1
            refine wb ev9 ?_
            obtain ⟨v10, ev10, _⟩ := ga_27 WLc_31 tv9 (i := a2) (by omega) (by omega)
            refine wb ev10 ?_
            refine wi (fun hq37 => ?_) (fun hq37 => ?_)
            · have := i_ge v10
              have := i_up v10
              have hq37 := i_eq hq37
              exact lInr ⟨WLc_31, FLc_31⟩
            · have := i_ge v10
              have := i_up v10
              have hq37 := i_ne hq37
              unfold f_Finder_measureFrom_78
              have L38 : ∃ b, zlp (fun a : Nat × Nat × Int32 × Int32 × Int32 × Int32 × Int32 × Int32 × Zc => g_Finder_measureFrom_78 nf a.1 a.2.1 a.2.2.1 a.2.2.2.1 a.2.2.2.2.1 a.2.2.2.2.2.1 a.2.2.2.2.2.2.1 a.2.2.2.2.2.2.2.1 a.2.2.2.2.2.2.2.2) nf (a0, a1, a2, (((1 : Int32) <<< (v6 &&& 31)) - 1), 256, x6_31, 0, 0, c_31) = some b ∧ (fun b : (Nat × Nat × Int32 × Int32 × Int32 × Int32 × Int32 × Zc) => a0 = b.1 ∧ a1 = b.2.1 ∧ a2 = b.2.2.1 ∧ (((1 : Int32) <<< (v6 &&& 31)) - 1) = b.2.2.2.1 ∧ (256 : Int32) = b.2.2.2.2.1 ∧ x6_31 = b.2.2.2.2.2.1 ∧ Zwt zty G b.2.2.2.2.2.2.2 ∧ Zfr G ([] : List (Nat × Nat)) c_31 b.2.2.2.2.2.2.2) b := by
                refine wlp (fun a : Nat × Nat × Int32 × Int32 × Int32 × Int32 × Int32 × Int32 × Zc => a0 = a.1 ∧ a1 = a.2.1 ∧ a2 = a.2.2.1 ∧ (((1 : Int32) <<< (v6 &&& 31)) - 1) = a.2.2.2.1 ∧ (256 : Int32) = a.2.2.2.2.1 ∧ x6_31 = a.2.2.2.2.2.1 ∧ Zwt zty G a.2.2.2.2.2.2.2.2 ∧ Zfr G ([] : List (Nat × Nat)) c_31 a.2.2.2.2.2.2.2.2 ∧ 0 ≤ a.2.2.2.2.2.2.2.1.toInt ∧ a.2.2.2.2.2.2.2.1.toInt ≤ 16) (fun a => (16 - a.2.2.2.2.2.2.2.1.toInt).toNat) (fun b : (Nat × Nat × Int32 × Int32 × Int32 × Int32 × Int32 × Zc) => a0 = b.1 ∧ a1 = b.2.1 ∧ a2 = b.2.2.1 ∧ (((1 : Int32) <<< (v6 &&& 31)) - 1) = b.2.2.2.1 ∧ (256 : Int32) = b.2.2.2.2.1 ∧ x6_31 = b.2.2.2.2.2.1 ∧ Zwt zty G b.2.2.2.2.2.2.2 ∧ Zfr G ([] : List (Nat × Nat)) c_31 b.2.2.2.2.2.2.2) ?_ ?_ ?_
                · rintro ⟨x0_39, x1_39, x2_39, x4_39, x5_39, x6_39, x7_39, x8_39, c_39⟩ hI
                  try dsimp only at hI ⊢
                  obtain ⟨rfl, rfl, rfl, rfl, rfl, rfl, WLc_39, FLc_39, j40, j41⟩ := hI
                  have e42 := (Zfr.gl FLc_39 t_a1 (by decide)).trans e34
                  have e43 := (Zfr.ai FLc_39 tv9 (by decide)).trans ev10
                  unfold g_Finder_measureFrom_78
                  obtain ⟨v12, ev12, lv12, uv12⟩ := gf_2_5 WLc_39 t_a1
                  refine wb ev12 ?_
                  refine wi (fun hq44 => ?_) (fun hq44 => ?_)
                  · have hq44 := i_le hq44
                    exact lInr ⟨rfl, rfl, rfl, rfl, rfl, rfl, WLc_39, FLc_39⟩
                  · have hq44 := i_nle hq44
                    refine wb e42 ?_
                    refine wi (fun hq45 => ?_) (fun hq45 => ?_)
                    · have hq45 := i_eq hq45
                      unfold f_Finder_measureFrom_116
                      have := i_add (a := x8_39) (b := 1) (by omega) (by omega)
                      exact lInl ⟨rfl, rfl, rfl, rfl, rfl, rfl, WLc_39, FLc_39, by (try dsimp only); omega, by (try dsimp only); omega⟩ (by (try dsimp only); omega)
                    · have hq45 := i_ne hq45
                      obtain ⟨v16, ev16, tv16⟩ := gf_8_5 WLc_39 t_a0
                      refine wb ev16 ?_
                      obtain ⟨v17, ev17, _⟩ := ga_52 WLc_39 tv16 (i := x8_39) (by omega) (by omega)
                      refine wb ev17 ?_
                      unfold f_Finder_measureFrom_116
                      have := i_add (a := x8_39) (b := 1) (by omega) (by omega)
                      exact lInl ⟨rfl, rfl, rfl, rfl, rfl, rfl, WLc_39, FLc_39, by (try dsimp only); omega, by (try dsimp only); omega⟩ (by (try dsimp only); omega)
                · exact ⟨rfl, rfl, rfl, rfl, rfl, rfl, WLc_31, Zfr.rf, by (try dsimp only); omega, by (try dsimp only); omega⟩
                · (try dsimp only); omega
              obtain ⟨b, eb, hb⟩ := L38
              refine wb eb ?_
              clear eb
              obtain ⟨z0_46, z1_46, z2_46, z3_46, z4_46, z5_46, z6_46, c_46⟩ := b
              try dsimp only at hb ⊢
              obtain ⟨rfl, rfl, rfl, rfl, rfl, rfl, WXc_46, FXc_46⟩ := hb
              have F47 := Zfr.tr FLc_31 FXc_46 (by decide)
              obtain ⟨w19, ew19⟩ := go_2 WXc_46 t_a1
              refine wb ew19 ?_
              obtain ⟨q18, eq18, Wq18, fq18⟩ := p_Way_arrive hn WXc_46 (a1 := a2) (a2 := z6_46) (a3 := x6_31) t_a1 (by omega) (by omega)
              refine wb eq18 ?_
              have F48 := Zfr.tr F47 fq18 (by decide)
              obtain ⟨w21, ew21⟩ := go_8 Wq18 t_a0
              refine wb ew21 ?_
              obtain ⟨q20, eq20, Wq20, fq20, pl0q20, pu0q20⟩ := p_Finder_goOn hn Wq18  t_a0 t_a1
              refine wb eq20 ?_
              have F49 := Zfr.tr F48 fq20 (by decide)
              have := i_add (a := x6_31) (b := 1) (by omega) (by omega)
              exact lInl ⟨rfl, rfl, rfl, rfl, rfl, Wq20, F49, by (try dsimp only); omega, by (try dsimp only); omega⟩ (by (try dsimp only); omega)
      · exact ⟨rfl, rfl, rfl, rfl, rfl, Wq3, Zfr.rf, by (try dsimp only); omega, by (try dsimp only); omega⟩
      · (try dsimp only); omega
    obtain ⟨b, eb, hb⟩ := L30
    refine wb eb ?_
    clear eb
    obtain c_50 := b
    try dsimp only at hb ⊢
    obtain ⟨WXc_50, FXc_50⟩ := hb
    have F51 := Zfr.tr F29 FXc_50 (by decide)
    unfold f_Finder_measureFrom_143
    exact ⟨_, rfl, WXc_50, F51⟩

abbrev M_Finder_bringUpToDate : List (Nat × Nat) := [(2, 16), (2, 17), (26, 0), (27, 0), (28, 0), (52, 0), (53, 0), (54, 0)]
set_option maxRecDepth 100000 in
set_option maxHeartbeats 400000 in
theorem p_Finder_bringUpToDate {nf : Nat} (hn : 8589934592 ≤ nf) {G : List Nat} {c : Zc} (W : Zwt zty G c) {a0 : Nat} {a1 : Nat}  (t_a0 : G[a0]? = some 8) (t_a1 : G[a1]? = some 2) : ∃ q, f_Finder_bringUpToDate nf a0 a1 c = some q ∧ Zwt zty G q ∧ Zfr G M_Finder_bringUpToDate c q := by
  have F0 : Zfr G M_Finder_bringUpToDate c c := Zfr.rf
  unfold f_Finder_bringUpToDate
  obtain ⟨v1, ev1, _⟩ := gf_2_17 W t_a1
  refine wb ev1 ?_
  obtain ⟨v2, ev2, tv2⟩ := gf_8_1 W t_a0
  refine wb ev2 ?_
  obtain ⟨v3, ev3, _⟩ := gf_1_9 W tv2
  refine wb ev3 ?_
  refine wi (fun hq1 => ?_) (fun hq1 => ?_)
  · have := i_ge v1
    have := i_up v1
    have := i_ge v3
    have := i_up v3
    have hq1 := i_eq hq1
    exact ⟨_, rfl, W, F0⟩
  · have := i_ge v1
    have := i_up v1
    have := i_ge v3
    have := i_up v3
    have hq1 := i_ne hq1
    refine wb ev2 ?_
    refine wb ev3 ?_
    obtain ⟨c7, ec7, Wc7, fc7, gc7⟩ := pf_2_17 W t_a1 (x := v3) (trivial)
    refine wb ec7 ?_
    have e2 := (Zfr.gr fc7 t_a0 (by decide)).trans ev2
    have F3 := Zfr.tr F0 fc7 (by decide)
    obtain ⟨w9, ew9⟩ := go_2 Wc7 t_a1
    refine wb ew9 ?_
    obtain ⟨q8, eq8, Wq8, fq8⟩ := p_Way_forgetArcs hn Wc7  t_a1
    refine wb eq8 ?_
    have e4 := (Zfr.gr fq8 t_a0 (by decide)).trans e2
    have F5 := Zfr.tr F3 fq8 (by decide)
    unfold f_Finder_bringUpToDate_32
    have := li_0
    have L6 : ∃ b, zlp (fun a : Nat × Nat × Int32 × Zc => g_Finder_bringUpToDate_32 nf a.1 a.2.1 a.2.2.1 a.2.2.2) nf (a0, a1, 0, q8) = some b ∧ (fun b : (Zc) => Zwt zty G b ∧ Zfr G ([(2, 16), (26, 0), (27, 0), (28, 0), (52, 0), (53, 0), (54, 0)] : List (Nat × Nat)) q8 b) b := by
      refine wlp (fun a : Nat × Nat × Int32 × Zc => a0 = a.1 ∧ a1 = a.2.1 ∧ Zwt zty G a.2.2.2 ∧ Zfr G ([(2, 16), (26, 0), (27, 0), (28, 0), (52, 0), (53, 0), (54, 0)] : List (Nat × Nat)) q8 a.2.2.2 ∧ 0 ≤ a.2.2.1.toInt ∧ a.2.2.1.toInt ≤ 16) (fun a => (16 - a.2.2.1.toInt).toNat) (fun b : (Zc) => Zwt zty G b ∧ Zfr G ([(2, 16), (26, 0), (27, 0), (28, 0), (52, 0), (53, 0), (54, 0)] : List (Nat × Nat)) q8 b) ?_ ?_ ?_
      · rintro ⟨x0_7, x1_7, x2_7, c_7⟩ hI
        try dsimp only at hI ⊢
        obtain ⟨rfl, rfl, WLc_7, FLc_7, j8, j9⟩ := hI
        have e10 := (Zfr.gr FLc_7 t_a0 (by decide)).trans e4
        unfold g_Finder_bringUpToDate_32
        refine wb e10 ?_
        obtain ⟨v11, ev11, lv11, uv11⟩ := gf_1_7 WLc_7 tv2
        refine wb ev11 ?_
        refine wi (fun hq11 => ?_) (fun hq11 => ?_)
        · have hq11 := i_le hq11
          exact lInr ⟨WLc_7, FLc_7⟩
        · have hq11 := i_nle hq11
          obtain ⟨w14, ew14⟩ := go_8 WLc_7 t_a0
          refine wb ew14 ?_
          obtain ⟨q13, eq13, Wq13, fq13⟩ := p_Finder_measureFrom hn WLc_7 (a2 := x2_7) t_a0 t_a1 (by omega) (by omega)
          refine wb eq13 ?_
          have F12 := Zfr.tr FLc_7 fq13 (by decide)
          have := li_1
          have := i_add (a := x2_7) (b := 1) (by omega) (by omega)
          exact lInl ⟨rfl, rfl, Wq13, F12, by (try dsimp only); omega, by (try dsimp only); omega⟩ (by (try dsimp only); omega)
      · exact ⟨rfl, rfl, Wq8, Zfr.rf, by (try dsimp only); omega, by (try dsimp only); omega⟩
      · (try dsimp only); omega
    obtain ⟨b, eb, hb⟩ := L6
    refine wb eb ?_
    clear eb
    obtain c_13 := b
    try dsimp only at hb ⊢
    obtain ⟨WXc_13, FXc_13⟩ := hb
    have F14 := Zfr.tr F5 FXc_13 (by decide)
    exact ⟨_, rfl, WXc_13, F14⟩

abbrev M_Finder_start : List (Nat × Nat) := [(2, 16), (2, 17), (7, 5), (7, 6), (7, 7), (7, 8), (7, 9), (7, 10), (7, 11), (8, 8), (26, 0), (27, 0), (28, 0), (31, 0), (48, 0), (49, 0), (50, 0), (52, 0), (53, 0), (54, 0)]
set_option maxRecDepth 100000 in
set_option maxHeartbeats 400000 in
theorem p_Finder_start {nf : Nat} (hn : 8589934592 ≤ nf) {G : List Nat} {c : Zc} (W : Zwt zty G c) {a0 : Nat} {a1 : Nat}  (t_a0 : G[a0]? = some 8) (t_a1 : G[a1]? = some 3) : ∃ q, f_Finder_start nf a0 a1 c = some q ∧ Zwt zty G q ∧ Zfr G M_Finder_start c q := by
  have F0 : Zfr G M_Finder_start c c := Zfr.rf
  unfold f_Finder_start
  obtain ⟨c1, ec1, Wc1, fc1, gc1⟩ := pf_8_8 W t_a0 t_a1 (by decide)
  refine wb ec1 ?_
  have F1 := Zfr.tr F0 fc1 (by decide)
  unfold f_Finder_start_7
  have := li_0
  have L2 : ∃ b, zlp (fun a : Nat × Int32 × Zc => g_Finder_start_7 nf a.1 a.2.1 a.2.2) nf (a0, 0, c1) = some b ∧ (fun b : (Nat × Zc) => a0 = b.1 ∧ Zwt zty G b.2 ∧ Zfr G ([(2, 16), (2, 17), (26, 0), (27, 0), (28, 0), (52, 0), (53, 0), (54, 0)] : List (Nat × Nat)) c1 b.2) b := by
    refine wlp (fun a : Nat × Int32 × Zc => a0 = a.1 ∧ Zwt zty G a.2.2 ∧ Zfr G ([(2, 16), (2, 17), (26, 0), (27, 0), (28, 0), (52, 0), (53, 0), (54, 0)] : List (Nat × Nat)) c1 a.2.2 ∧ 0 ≤ a.2.1.toInt ∧ a.2.1.toInt ≤ 10) (fun a => (10 - a.2.1.toInt).toNat) (fun b : (Nat × Zc) => a0 = b.1 ∧ Zwt zty G b.2 ∧ Zfr G ([(2, 16), (2, 17), (26, 0), (27, 0), (28, 0), (52, 0), (53, 0), (54, 0)] : List (Nat × Nat)) c1 b.2) ?_ ?_ ?_
    · rintro ⟨x0_3, x2_3, c_3⟩ hI
      try dsimp only at hI ⊢
      obtain ⟨rfl, WLc_3, FLc_3, j4, j5⟩ := hI
      have e6 := (Zfr.gr FLc_3 t_a0 (by decide)).trans gc1
      unfold g_Finder_start_7
      refine wb e6 ?_
      obtain ⟨v3, ev3, lv3, uv3⟩ := gf_3_3 WLc_3 t_a1
      refine wb ev3 ?_
      refine wi (fun hq7 => ?_) (fun hq7 => ?_)
      · have hq7 := i_le hq7
        exact lInr ⟨rfl, WLc_3, FLc_3⟩
      · have hq7 := i_nle hq7
        refine wb e6 ?_
        obtain ⟨v6, ev6, tv6⟩ := gf_3_4 WLc_3 t_a1
        refine wb ev6 ?_
        obtain ⟨v7, ev7, tv7⟩ := ga_29 WLc_3 tv6 (i := x2_3) (by omega) (by omega)
        refine wb ev7 ?_
        obtain ⟨w9, ew9⟩ := go_8 WLc_3 t_a0
        refine wb ew9 ?_
        obtain ⟨q8, eq8, Wq8, fq8⟩ := p_Finder_bringUpToDate hn WLc_3  t_a0 tv7
        refine wb eq8 ?_
        have F8 := Zfr.tr FLc_3 fq8 (by decide)
        have := li_1
        have := i_add (a := x2_3) (b := 1) (by omega) (by omega)
        exact lInl ⟨rfl, Wq8, F8, by (try dsimp only); omega, by (try dsimp only); omega⟩ (by (try dsimp only); omega)
    · exact ⟨rfl, Wc1, Zfr.rf, by (try dsimp only); omega, by (try dsimp only); omega⟩
    · (try dsimp only); omega
  obtain ⟨b, eb, hb⟩ := L2
  refine wb eb ?_
  clear eb
  obtain ⟨z0_9, c_9⟩ := b
  try dsimp only at hb ⊢
  obtain ⟨rfl, WXc_9, FXc_9⟩ := hb
  have e10 := (Zfr.gr FXc_9 t_a0 (by decide)).trans gc1
  have F11 := Zfr.tr F1 FXc_9 (by decide)
  unfold f_Finder_start_39
  have L12 : ∃ b, zlp (fun a : Nat × Int32 × Zc => g_Finder_start_39 nf a.1 a.2.1 a.2.2) nf (a0, 0, c_9) = some b ∧ (fun b : (Nat × Zc) => a0 = b.1 ∧ Zwt zty G b.2 ∧ Zfr G ([(31, 0)] : List (Nat × Nat)) c_9 b.2) b := by
    refine wlp (fun a : Nat × Int32 × Zc => a0 = a.1 ∧ Zwt zty G a.2.2 ∧ Zfr G ([(31, 0)] : List (Nat × Nat)) c_9 a.2.2 ∧ 0 ≤ a.2.1.toInt ∧ a.2.1.toInt ≤ 70) (fun a => (70 - a.2.1.toInt).toNat) (fun b : (Nat × Zc) => a0 = b.1 ∧ Zwt zty G b.2 ∧ Zfr G ([(31, 0)] : List (Nat × Nat)) c_9 b.2) ?_ ?_ ?_
    · rintro ⟨x0_13, x2_13, c_13⟩ hI
      try dsimp only at hI ⊢
      obtain ⟨rfl, WLc_13, FLc_13, j14, j15⟩ := hI
      have e16 := (Zfr.gr FLc_13 t_a0 (by decide)).trans e10
      unfold g_Finder_start_39
      refine wb e16 ?_
      obtain ⟨v11, ev11, lv11, uv11⟩ := gf_3_5 WLc_13 t_a1
      refine wb ev11 ?_
      refine wi (fun hq17 => ?_) (fun hq17 => ?_)
      · have hq17 := i_le hq17
        exact lInr ⟨rfl, WLc_13, FLc_13⟩
      · have hq17 := i_nle hq17
        refine wb e16 ?_
        obtain ⟨v14, ev14, tv14⟩ := gf_3_7 WLc_13 t_a1
        refine wb ev14 ?_
        obtain ⟨v15, ev15, tv15⟩ := gf_8_1 WLc_13 t_a0
        refine wb ev15 ?_
        refine wb e16 ?_
        obtain ⟨v17, ev17, tv17⟩ := gf_3_6 WLc_13 t_a1
        refine wb ev17 ?_
        obtain ⟨v18, ev18, lv18, uv18⟩ := ga_30 WLc_13 tv17 (i := x2_13) (by omega) (by omega)
        refine wb ev18 ?_
        obtain ⟨w21, ew21⟩ := go_1 WLc_13 tv15
        refine wb ew21 ?_
        have := i_rem (a := v18) (b := 256) (n := 256) li_256 (by decide) (by omega)
        obtain ⟨q20, eq20, Wq20, fq20⟩ := p_Graph_nodesWith hn WLc_13 (a1 := (v18 - ((v18 / 256) * 256))) tv15
        refine wb eq20 ?_
        have F18 := Zfr.tr FLc_13 fq20 (by decide)
        obtain ⟨c22, ec22, Wc22, fc22, gc22⟩ := pa_31 Wq20 tv14 (i := x2_13) (by omega) (by omega) (x := q20.1) (trivial)
        refine wb ec22 ?_
        have F19 := Zfr.tr F18 fc22 (by decide)
        have := li_1
        have := i_add (a := x2_13) (b := 1) (by omega) (by omega)
        exact lInl ⟨rfl, Wc22, F19, by (try dsimp only); omega, by (try dsimp only); omega⟩ (by (try dsimp only); omega)
    · exact ⟨rfl, WXc_9, Zfr.rf, by (try dsimp only); omega, by (try dsimp only); omega⟩
    · (try dsimp only); omega
  obtain ⟨b, eb, hb⟩ := L12
  refine wb eb ?_
  clear eb
  obtain ⟨z0_20, c_20⟩ := b
  try dsimp only at hb ⊢
  obtain ⟨rfl, WXc_20, FXc_20⟩ := hb
  have e21 := (Zfr.gr FXc_20 t_a0 (by decide)).trans e10
  have F22 := Zfr.tr F11 FXc_20 (by decide)
  obtain ⟨v23, ev23, tv23⟩ := gf_8_2 WXc_20 t_a0
  refine wb ev23 ?_
  refine wb e21 ?_
  obtain ⟨w26, ew26⟩ := go_7 WXc_20 tv23
  refine wb ew26 ?_
  obtain ⟨q25, eq25, Wq25, fq25⟩ := p_Search_begin hn WXc_20 (a2 := 0) tv23 t_a1 (by omega) (by omega)
  refine wb eq25 ?_
  have F23 := Zfr.tr F22 fq25 (by decide)
  exact ⟨_, rfl, Wq25, F23⟩

end ZzT
