section ZzT
abbrev M_Reader_comparison : List (Nat × Nat) := []
set_option maxRecDepth 100000 in
set_option maxHeartbeats 400000 in
theorem p_Reader_comparison {nf : Nat} (hn : 8589934592 ≤ nf) {G : List Nat} {c : Zc} (W : Zwt zty G c) {a0 : Int32}   : ∃ q, f_Reader_comparison nf a0 c = some q ∧ Zwt zty G q.2 ∧ Zfr G M_Reader_comparison c q.2 ∧ (q.1.toInt = -1 ∨ (5 ≤ q.1.toInt ∧ q.1.toInt ≤ 31)) ∧ (-1) ≤ q.1.toInt ∧ q.1.toInt ≤ 31 := by
  have F0 : Zfr G M_Reader_comparison c c := Zfr.rf
  unfold f_Reader_comparison
  refine wi (fun hq1 => ?_) (fun hq1 => ?_)
  · have := li_60
    have := i_ge a0
    have := i_up a0
    have hq1 := i_eq hq1
    have := li_14
    exact ⟨_, rfl, W, F0, by (try dsimp only); omega, by (try dsimp only); omega, by (try dsimp only); omega⟩
  · have := li_60
    have := i_ge a0
    have := i_up a0
    have hq1 := i_ne hq1
    refine wi (fun hq2 => ?_) (fun hq2 => ?_)
    · have := li_61
      have hq2 := i_eq hq2
      have := li_12
      exact ⟨_, rfl, W, F0, by (try dsimp only); omega, by (try dsimp only); omega, by (try dsimp only); omega⟩
    · have := li_61
      have hq2 := i_ne hq2
      refine wi (fun hq3 => ?_) (fun hq3 => ?_)
      · have := li_62
        have hq3 := i_eq hq3
        have := li_16
        exact ⟨_, rfl, W, F0, by (try dsimp only); omega, by (try dsimp only); omega, by (try dsimp only); omega⟩
      · have := li_62
        have hq3 := i_ne hq3
        refine wi (fun hq4 => ?_) (fun hq4 => ?_)
        · have := li_258
          have hq4 := i_eq hq4
          have := li_13
          exact ⟨_, rfl, W, F0, by (try dsimp only); omega, by (try dsimp only); omega, by (try dsimp only); omega⟩
        · have := li_258
          have hq4 := i_ne hq4
          refine wi (fun hq5 => ?_) (fun hq5 => ?_)
          · have := li_259
            have hq5 := i_eq hq5
            have := li_15
            exact ⟨_, rfl, W, F0, by (try dsimp only); omega, by (try dsimp only); omega, by (try dsimp only); omega⟩
          · have := li_259
            have hq5 := i_ne hq5
            refine wi (fun hq6 => ?_) (fun hq6 => ?_)
            · have := li_260
              have hq6 := i_eq hq6
              have := li_17
              exact ⟨_, rfl, W, F0, by (try dsimp only); omega, by (try dsimp only); omega, by (try dsimp only); omega⟩
            · have := li_260
              have hq6 := i_ne hq6
              have := li_m1
              exact ⟨_, rfl, W, F0, by (try dsimp only); omega, by (try dsimp only); omega, by (try dsimp only); omega⟩

abbrev M_Reader_takeComparison : List (Nat × Nat) := [(3, 12), (5, 0), (5, 4), (6, 0), (6, 8), (6, 9), (6, 18), (35, 0), (43, 0), (44, 0), (45, 0)]
set_option maxRecDepth 100000 in
set_option maxHeartbeats 400000 in
theorem p_Reader_takeComparison {nf : Nat} (hn : 8589934592 ≤ nf) {G : List Nat} {c : Zc} (W : Zwt zty G c) {a0 : Nat} {a1 : Int32}  (t_a0 : G[a0]? = some 6) (hb_Zrd : Zrd G c a0 a1) : ∃ q, f_Reader_takeComparison nf a0 a1 c = some q ∧ Zwt zty G q ∧ Zfr G M_Reader_takeComparison c q ∧ Zrt G q a0 := by
  have F0 : Zfr G M_Reader_takeComparison c c := Zfr.rf
  unfold f_Reader_takeComparison
  obtain ⟨bt0, bg0, bs0, bfa0, bsl0, btk0, bat_0, bvl0, bv0, h0Zrd0, h1Zrd0, h2Zrd0, h3Zrd0, h4Zrd0, h5Zrd0, h6Zrd0, h7Zrd0, h8Zrd0, tt0, ttk0, tvl0, r0Zrd0, r1Zrd0, r2Zrd0, r3Zrd0, r4Zrd0, r5Zrd0, r6Zrd0, r7Zrd0, r8Zrd0, r9Zrd0, r10Zrd0⟩ := hb_Zrd
  obtain ⟨q1, eq1, Wq1, fq1, po0q1, pl1q1, pu1q1⟩ := p_Reader_comparison hn W (a0 := a1) 
  refine wb eq1 ?_
  have e1 := (Zfr.gr fq1 t_a0 (by decide)).trans h0Zrd0
  have e2 := (Zfr.gi fq1 tt0 (by decide)).trans h1Zrd0
  have e3 := (Zfr.gi fq1 t_a0 (by decide)).trans h2Zrd0
  have e4 := (Zfr.gi fq1 t_a0 (by decide)).trans h3Zrd0
  have e5 := (Zfr.gi fq1 t_a0 (by decide)).trans h4Zrd0
  have F6 := Zfr.tr F0 fq1 (by decide)
  refine wi (fun hq7 => ?_) (fun hq7 => ?_)
  · have := li_m1
    have hq7 := i_eq hq7
    obtain ⟨w9, ew9⟩ := go_6 Wq1 t_a0
    refine wb ew9 ?_
    have := li_2
    obtain ⟨q8, eq8, Wq8, fq8, pbZrfq8⟩ := p_Reader_fail hn Wq1 (a1 := 2) t_a0 (by omega) (by omega) ⟨bt0, bg0, bs0, bfa0, bsl0, e1, e2, e3, e4, e5, tt0, by (try dsimp only); omega, by (try dsimp only); omega, by (try dsimp only); omega, by (try dsimp only); omega⟩
    refine wb eq8 ?_
    have e13 := (Zfr.gr fq8 t_a0 (by decide)).trans e1
    have e14 := (Zfr.gi fq8 tt0 (by decide)).trans e2
    have e15 := (Zfr.gi fq8 t_a0 (by decide)).trans e3
    have e16 := (Zfr.gi fq8 t_a0 (by decide)).trans e5
    have F17 := Zfr.tr F6 fq8 (by decide)
    obtain ⟨btq8, bgq8, bsq8, bfaq8, bslq8, h0Zrfq8, h1Zrfq8, h2Zrfq8, h3Zrfq8, h4Zrfq8, ttq8, r0Zrfq8, r1Zrfq8, r2Zrfq8, r3Zrfq8, r4Zrfq8⟩ := pbZrfq8
    unfold f_Reader_takeComparison_38
    exact ⟨_, rfl, Wq8, F17, ⟨btq8, bgq8, bsq8, bfaq8, bslq8, h0Zrfq8, h1Zrfq8, h2Zrfq8, h3Zrfq8, h4Zrfq8, ttq8, by (try dsimp only); omega, by (try dsimp only); omega, by (try dsimp only); omega, by (try dsimp only); omega, by (try dsimp only); omega⟩⟩
  · have := li_m1
    have hq7 := i_ne hq7
    obtain ⟨v3, ev3, tv3⟩ := gf_6_2 Wq1 t_a0
    refine wb ev3 ?_
    obtain ⟨w5, ew5⟩ := go_5 Wq1 tv3
    refine wb ew5 ?_
    have := li_4
    obtain ⟨q4, eq4, Wq4, fq4⟩ := p_Operators_between hn Wq1 (a1 := 4) (a2 := q1.1) tv3 (okOi (by omega))
    refine wb eq4 ?_
    have e23 := (Zfr.gr fq4 t_a0 (by decide)).trans e1
    have e24 := (Zfr.gi fq4 tt0 (by decide)).trans e2
    have e25 := (Zfr.gi fq4 t_a0 (by decide)).trans e3
    have e26 := (Zfr.gi fq4 t_a0 (by decide)).trans e4
    have e27 := (Zfr.gi fq4 t_a0 (by decide)).trans e5
    have F28 := Zfr.tr F6 fq4 (by decide)
    obtain ⟨c6, ec6, Wc6, fc6, gc6⟩ := pf_6_18 Wq4 t_a0 (x := 1) (trivial)
    refine wb ec6 ?_
    have e29 := (Zfr.gr fc6 t_a0 (by decide)).trans e23
    have e30 := (Zfr.gi fc6 tt0 (by decide)).trans e24
    have e31 := (Zfr.gi fc6 t_a0 (by decide)).trans e25
    have e32 := (Zfr.gi fc6 t_a0 (by decide)).trans e26
    have e33 := (Zfr.gi fc6 t_a0 (by decide)).trans e27
    have F34 := Zfr.tr F28 fc6 (by decide)
    obtain ⟨c7, ec7, Wc7, fc7, gc7⟩ := pf_6_8 Wc6 t_a0 (x := 18) (trivial)
    refine wb ec7 ?_
    have e35 := (Zfr.gr fc7 t_a0 (by decide)).trans e29
    have e36 := (Zfr.gi fc7 tt0 (by decide)).trans e30
    have e37 := (Zfr.gi fc7 t_a0 (by decide)).trans e32
    have e38 := (Zfr.gi fc7 t_a0 (by decide)).trans e33
    have F39 := Zfr.tr F34 fc7 (by decide)
    unfold f_Reader_takeComparison_38
    have := li_18
    exact ⟨_, rfl, Wc7, F39, ⟨bt0, bg0, (18 : Int32), bfa0, bsl0, e35, e36, gc7, e37, e38, tt0, by (try dsimp only); omega, by (try dsimp only); omega, by (try dsimp only); omega, by (try dsimp only); omega, by (try dsimp only); omega⟩⟩

abbrev M_Reader_takeAfterUnit : List (Nat × Nat) := [(3, 12), (3, 15), (5, 0), (5, 1), (5, 4), (6, 0), (6, 8), (6, 9), (6, 18), (6, 19), (35, 0), (37, 0), (43, 0), (44, 0), (45, 0)]
set_option maxRecDepth 100000 in
set_option maxHeartbeats 400000 in
theorem p_Reader_takeAfterUnit {nf : Nat} (hn : 8589934592 ≤ nf) {G : List Nat} {c : Zc} (W : Zwt zty G c) {a0 : Nat} {a1 : Int32}  (t_a0 : G[a0]? = some 6) (hb_Zrd : Zrd G c a0 a1) : ∃ q, f_Reader_takeAfterUnit nf a0 a1 c = some q ∧ Zwt zty G q ∧ Zfr G M_Reader_takeAfterUnit c q ∧ Zrt G q a0 := by
  have F0 : Zfr G M_Reader_takeAfterUnit c c := Zfr.rf
  unfold f_Reader_takeAfterUnit
  obtain ⟨bt0, bg0, bs0, bfa0, bsl0, btk0, bat_0, bvl0, bv0, h0Zrd0, h1Zrd0, h2Zrd0, h3Zrd0, h4Zrd0, h5Zrd0, h6Zrd0, h7Zrd0, h8Zrd0, tt0, ttk0, tvl0, r0Zrd0, r1Zrd0, r2Zrd0, r3Zrd0, r4Zrd0, r5Zrd0, r6Zrd0, r7Zrd0, r8Zrd0, r9Zrd0, r10Zrd0⟩ := hb_Zrd
  have J1 : ∃ q, f_Reader_takeAfterUnit_100 nf a0 a1 c = some q ∧ Zwt zty G q ∧ Zfr G M_Reader_takeAfterUnit c q ∧ Zrt G q a0 := by
    unfold f_Reader_takeAfterUnit_100
    obtain ⟨v10, ev10, tv10⟩ := gf_6_2 W t_a0
    refine wb ev10 ?_
    obtain ⟨v11, ev11, _⟩ := gf_5_1 W tv10
    refine wb ev11 ?_
    refine wi (fun hq2 => ?_) (fun hq2 => ?_)
    · have := li_0
      have := i_ge v11
      have := i_up v11
      have hq2 := i_le hq2
      obtain ⟨v13, ev13, _⟩ := gf_6_18 W t_a0
      refine wb ev13 ?_
      refine wi (fun hq3 => ?_) (fun hq3 => ?_)
      · have := i_ge v13
        have := i_up v13
        have hq3 := i_eq hq3
        obtain ⟨w31, ew31⟩ := go_6 W t_a0
        refine wb ew31 ?_
        obtain ⟨q30, eq30, Wq30, fq30, pbZrtq30⟩ := p_Reader_takeComparison hn W (a1 := a1) t_a0 ⟨bt0, bg0, bs0, bfa0, bsl0, btk0, bat_0, bvl0, bv0, h0Zrd0, h1Zrd0, h2Zrd0, h3Zrd0, h4Zrd0, h5Zrd0, h6Zrd0, h7Zrd0, h8Zrd0, tt0, ttk0, tvl0, by (try dsimp only); omega, by (try dsimp only); omega, by (try dsimp only); omega, by (try dsimp only); omega, by (try dsimp only); omega, by (try dsimp only); omega, by (try dsimp only); omega, by (try dsimp only); omega, by (try dsimp only); omega, by (try dsimp only); omega, r10Zrd0⟩
        refine wb eq30 ?_
        have e13 := (Zfr.gr fq30 t_a0 (by decide)).trans h0Zrd0
        have e14 := (Zfr.gi fq30 tt0 (by decide)).trans h1Zrd0
        have e15 := (Zfr.gi fq30 t_a0 (by decide)).trans h4Zrd0
        have F16 := Zfr.tr F0 fq30 (by decide)
        obtain ⟨btq30, bgq30, bsq30, bfaq30, bslq30, h0Zrtq30, h1Zrtq30, h2Zrtq30, h3Zrtq30, h4Zrtq30, ttq30, r0Zrtq30, r1Zrtq30, r2Zrtq30, r3Zrtq30, r4Zrtq30⟩ := pbZrtq30
        unfold f_Reader_takeAfterUnit_179
        exact ⟨_, rfl, Wq30, F16, ⟨btq30, bgq30, bsq30, bfaq30, bslq30, h0Zrtq30, h1Zrtq30, h2Zrtq30, h3Zrtq30, h4Zrtq30, ttq30, by (try dsimp only); omega, by (try dsimp only); omega, by (try dsimp only); omega, by (try dsimp only); omega, by (try dsimp only); omega⟩⟩
      · have := i_ge v13
        have := i_up v13
        have hq3 := i_ne hq3
        refine wb ev13 ?_
        refine wi (fun hq22 => ?_) (fun hq22 => ?_)
        · have := li_1
          have hq22 := i_eq hq22
          refine wb ev10 ?_
          obtain ⟨w27, ew27⟩ := go_5 W tv10
          refine wb ew27 ?_
          have := li_3
          obtain ⟨q26, eq26, Wq26, fq26⟩ := p_Operators_unwind hn W (a1 := 3) tv10
          refine wb eq26 ?_
          have e23 := (Zfr.gr fq26 t_a0 (by decide)).trans h0Zrd0
          have e24 := (Zfr.gi fq26 tt0 (by decide)).trans h1Zrd0
          have e25 := (Zfr.gi fq26 t_a0 (by decide)).trans h2Zrd0
          have e26 := (Zfr.gi fq26 t_a0 (by decide)).trans h3Zrd0
          have e27 := (Zfr.gi fq26 t_a0 (by decide)).trans h4Zrd0
          have F28 := Zfr.tr F0 fq26 (by decide)
          obtain ⟨w29, ew29⟩ := go_6 Wq26 t_a0
          refine wb ew29 ?_
          have := li_17
          obtain ⟨q28, eq28, Wq28, fq28, pbZrtq28⟩ := p_Reader_passOn hn Wq26 (a1 := 17) t_a0 (by omega) (by omega) (by omega) ⟨bt0, bg0, bs0, bfa0, bsl0, e23, e24, e25, e26, e27, tt0, by (try dsimp only); omega, by (try dsimp only); omega, by (try dsimp only); omega, by (try dsimp only); omega, by (try dsimp only); omega⟩
          refine wb eq28 ?_
          have e34 := (Zfr.gr fq28 t_a0 (by decide)).trans e23
          have e35 := (Zfr.gi fq28 tt0 (by decide)).trans e24
          have e36 := (Zfr.gi fq28 t_a0 (by decide)).trans e26
          have e37 := (Zfr.gi fq28 t_a0 (by decide)).trans e27
          have F38 := Zfr.tr F28 fq28 (by decide)
          obtain ⟨btq28, bgq28, bsq28, bfaq28, bslq28, h0Zrtq28, h1Zrtq28, h2Zrtq28, h3Zrtq28, h4Zrtq28, ttq28, r0Zrtq28, r1Zrtq28, r2Zrtq28, r3Zrtq28, r4Zrtq28⟩ := pbZrtq28
          unfold f_Reader_takeAfterUnit_179
          exact ⟨_, rfl, Wq28, F38, ⟨btq28, bgq28, bsq28, bfaq28, bslq28, h0Zrtq28, h1Zrtq28, h2Zrtq28, h3Zrtq28, h4Zrtq28, ttq28, by (try dsimp only); omega, by (try dsimp only); omega, by (try dsimp only); omega, by (try dsimp only); omega, by (try dsimp only); omega⟩⟩
        · have := li_1
          have hq22 := i_ne hq22
          refine wb ev10 ?_
          obtain ⟨w19, ew19⟩ := go_5 W tv10
          refine wb ew19 ?_
          have := li_5
          obtain ⟨q18, eq18, Wq18, fq18⟩ := p_Operators_unwind hn W (a1 := 5) tv10
          refine wb eq18 ?_
          have e44 := (Zfr.gr fq18 t_a0 (by decide)).trans h0Zrd0
          have e45 := (Zfr.gi fq18 tt0 (by decide)).trans h1Zrd0
          have e46 := (Zfr.gi fq18 t_a0 (by decide)).trans h2Zrd0
          have e47 := (Zfr.gi fq18 t_a0 (by decide)).trans h3Zrd0
          have e48 := (Zfr.gi fq18 t_a0 (by decide)).trans h4Zrd0
          have F49 := Zfr.tr F0 fq18 (by decide)
          refine wb e44 ?_
          obtain ⟨w22, ew22⟩ := go_3 Wq18 tt0
          refine wb ew22 ?_
          obtain ⟨q21, eq21, Wq21, fq21⟩ := p_Text_endItem hn Wq18  tt0
          refine wb eq21 ?_
          have e50 := (Zfr.gr fq21 t_a0 (by decide)).trans e44
          have e51 := (Zfr.gi fq21 tt0 (by decide)).trans e45
          have e52 := (Zfr.gi fq21 t_a0 (by decide)).trans e46
          have e53 := (Zfr.gi fq21 t_a0 (by decide)).trans e47
          have e54 := (Zfr.gi fq21 t_a0 (by decide)).trans e48
          have F55 := Zfr.tr F49 fq21 (by decide)
          obtain ⟨w24, ew24⟩ := go_6 Wq21 t_a0
          refine wb ew24 ?_
          have := li_23
          obtain ⟨q23, eq23, Wq23, fq23, pbZrtq23⟩ := p_Reader_passOn hn Wq21 (a1 := 23) t_a0 (by omega) (by omega) (by omega) ⟨bt0, bg0, bs0, bfa0, bsl0, e50, e51, e52, e53, e54, tt0, by (try dsimp only); omega, by (try dsimp only); omega, by (try dsimp only); omega, by (try dsimp only); omega, by (try dsimp only); omega⟩
          refine wb eq23 ?_
          have e61 := (Zfr.gr fq23 t_a0 (by decide)).trans e50
          have e62 := (Zfr.gi fq23 tt0 (by decide)).trans e51
          have e63 := (Zfr.gi fq23 t_a0 (by decide)).trans e53
          have e64 := (Zfr.gi fq23 t_a0 (by decide)).trans e54
          have F65 := Zfr.tr F55 fq23 (by decide)
          obtain ⟨btq23, bgq23, bsq23, bfaq23, bslq23, h0Zrtq23, h1Zrtq23, h2Zrtq23, h3Zrtq23, h4Zrtq23, ttq23, r0Zrtq23, r1Zrtq23, r2Zrtq23, r3Zrtq23, r4Zrtq23⟩ := pbZrtq23
          unfold f_Reader_takeAfterUnit_179
          exact ⟨_, rfl, Wq23, F65, ⟨btq23, bgq23, bsq23, bfaq23, bslq23, h0Zrtq23, h1Zrtq23, h2Zrtq23, h3Zrtq23, h4Zrtq23, ttq23, by (try dsimp only); omega, by (try dsimp only); omega, by (try dsimp only); omega, by (try dsimp only); omega, by (try dsimp only); omega⟩⟩
    · have := li_0
      have := i_ge v11
      have := i_up v11
      have hq2 := i_nle hq2
      obtain ⟨w33, ew33⟩ := go_6 W t_a0
      refine wb ew33 ?_
      have := li_2
      obtain ⟨q32, eq32, Wq32, fq32, pbZrfq32⟩ := p_Reader_fail hn W (a1 := 2) t_a0 (by omega) (by omega) ⟨bt0, bg0, bs0, bfa0, bsl0, h0Zrd0, h1Zrd0, h2Zrd0, h3Zrd0, h4Zrd0, tt0, by (try dsimp only); omega, by (try dsimp only); omega, by (try dsimp only); omega, by (try dsimp only); omega⟩
      refine wb eq32 ?_
      have e76 := (Zfr.gr fq32 t_a0 (by decide)).trans h0Zrd0
      have e77 := (Zfr.gi fq32 tt0 (by decide)).trans h1Zrd0
      have e78 := (Zfr.gi fq32 t_a0 (by decide)).trans h2Zrd0
      have e79 := (Zfr.gi fq32 t_a0 (by decide)).trans h4Zrd0
      have F80 := Zfr.tr F0 fq32 (by decide)
      obtain ⟨btq32, bgq32, bsq32, bfaq32, bslq32, h0Zrfq32, h1Zrfq32, h2Zrfq32, h3Zrfq32, h4Zrfq32, ttq32, r0Zrfq32, r1Zrfq32, r2Zrfq32, r3Zrfq32, r4Zrfq32⟩ := pbZrfq32
      unfold f_Reader_takeAfterUnit_179
      exact ⟨_, rfl, Wq32, F80, ⟨btq32, bgq32, bsq32, bfaq32, bslq32, h0Zrfq32, h1Zrfq32, h2Zrfq32, h3Zrfq32, h4Zrfq32, ttq32, by (try dsimp only); omega, by (try dsimp only); omega, by (try dsimp only); omega, by (try dsimp only); omega, by (try dsimp only); omega⟩⟩
  have J86 : ∃ q, f_Reader_takeAfterUnit_38 nf a0 a1 c = some q ∧ Zwt zty G q ∧ Zfr G M_Reader_takeAfterUnit c q ∧ Zrt G q a0 := by
    unfold f_Reader_takeAfterUnit_38
    obtain ⟨v3, ev3, tv3⟩ := gf_6_2 W t_a0
    refine wb ev3 ?_
    refine wi (fun hq87 => ?_) (fun hq87 => ?_)
    · have := li_43
      have := i_ge a1
      have := i_up a1
      have hq87 := i_eq hq87
      unfold f_Reader_takeAfterUnit_56
      obtain ⟨w6, ew6⟩ := go_5 W tv3
      refine wb ew6 ?_
      have := li_5
      have := li_9
      obtain ⟨q5, eq5, Wq5, fq5⟩ := p_Operators_between hn W (a1 := 5) (a2 := 9) tv3 (okOi (by omega))
      refine wb eq5 ?_
      have e88 := (Zfr.gr fq5 t_a0 (by decide)).trans h0Zrd0
      have e89 := (Zfr.gi fq5 tt0 (by decide)).trans h1Zrd0
      have e90 := (Zfr.gi fq5 t_a0 (by decide)).trans h2Zrd0
      have e91 := (Zfr.gi fq5 t_a0 (by decide)).trans h3Zrd0
      have e92 := (Zfr.gi fq5 t_a0 (by decide)).trans h4Zrd0
      have F93 := Zfr.tr F0 fq5 (by decide)
      obtain ⟨c7, ec7, Wc7, fc7, gc7⟩ := pf_6_8 Wq5 t_a0 (x := 18) (trivial)
      refine wb ec7 ?_
      have e94 := (Zfr.gr fc7 t_a0 (by decide)).trans e88
      have e95 := (Zfr.gi fc7 tt0 (by decide)).trans e89
      have e96 := (Zfr.gi fc7 t_a0 (by decide)).trans e91
      have e97 := (Zfr.gi fc7 t_a0 (by decide)).trans e92
      have F98 := Zfr.tr F93 fc7 (by decide)
      unfold f_Reader_takeAfterUnit_179
      have := li_18
      exact ⟨_, rfl, Wc7, F98, ⟨bt0, bg0, (18 : Int32), bfa0, bsl0, e94, e95, gc7, e96, e97, tt0, by (try dsimp only); omega, by (try dsimp only); omega, by (try dsimp only); omega, by (try dsimp only); omega, by (try dsimp only); omega⟩⟩
    · have := li_43
      have := i_ge a1
      have := i_up a1
      have hq87 := i_ne hq87
      unfold f_Reader_takeAfterUnit_56
      obtain ⟨w6, ew6⟩ := go_5 W tv3
      refine wb ew6 ?_
      have := li_5
      have := li_10
      obtain ⟨q5, eq5, Wq5, fq5⟩ := p_Operators_between hn W (a1 := 5) (a2 := 10) tv3 (okOi (by omega))
      refine wb eq5 ?_
      have e104 := (Zfr.gr fq5 t_a0 (by decide)).trans h0Zrd0
      have e105 := (Zfr.gi fq5 tt0 (by decide)).trans h1Zrd0
      have e106 := (Zfr.gi fq5 t_a0 (by decide)).trans h2Zrd0
      have e107 := (Zfr.gi fq5 t_a0 (by decide)).trans h3Zrd0
      have e108 := (Zfr.gi fq5 t_a0 (by decide)).trans h4Zrd0
      have F109 := Zfr.tr F0 fq5 (by decide)
      obtain ⟨c7, ec7, Wc7, fc7, gc7⟩ := pf_6_8 Wq5 t_a0 (x := 18) (trivial)
      refine wb ec7 ?_
      have e110 := (Zfr.gr fc7 t_a0 (by decide)).trans e104
      have e111 := (Zfr.gi fc7 tt0 (by decide)).trans e105
      have e112 := (Zfr.gi fc7 t_a0 (by decide)).trans e107
      have e113 := (Zfr.gi fc7 t_a0 (by decide)).trans e108
      have F114 := Zfr.tr F109 fc7 (by decide)
      unfold f_Reader_takeAfterUnit_179
      have := li_18
      exact ⟨_, rfl, Wc7, F114, ⟨bt0, bg0, (18 : Int32), bfa0, bsl0, e110, e111, gc7, e112, e113, tt0, by (try dsimp only); omega, by (try dsimp only); omega, by (try dsimp only); omega, by (try dsimp only); omega, by (try dsimp only); omega⟩⟩
  refine wi (fun hq120 => ?_) (fun hq120 => ?_)
  · have := li_42
    have := i_ge a1
    have := i_up a1
    have hq120 := i_eq hq120
    obtain ⟨v41, ev41, tv41⟩ := gf_6_2 W t_a0
    refine wb ev41 ?_
    obtain ⟨w43, ew43⟩ := go_5 W tv41
    refine wb ew43 ?_
    have := li_6
    have := li_11
    obtain ⟨q42, eq42, Wq42, fq42⟩ := p_Operators_between hn W (a1 := 6) (a2 := 11) tv41 (okOi (by omega))
    refine wb eq42 ?_
    have e121 := (Zfr.gr fq42 t_a0 (by decide)).trans h0Zrd0
    have e122 := (Zfr.gi fq42 tt0 (by decide)).trans h1Zrd0
    have e123 := (Zfr.gi fq42 t_a0 (by decide)).trans h2Zrd0
    have e124 := (Zfr.gi fq42 t_a0 (by decide)).trans h3Zrd0
    have e125 := (Zfr.gi fq42 t_a0 (by decide)).trans h4Zrd0
    have F126 := Zfr.tr F0 fq42 (by decide)
    obtain ⟨c44, ec44, Wc44, fc44, gc44⟩ := pf_6_8 Wq42 t_a0 (x := 18) (trivial)
    refine wb ec44 ?_
    have e127 := (Zfr.gr fc44 t_a0 (by decide)).trans e121
    have e128 := (Zfr.gi fc44 tt0 (by decide)).trans e122
    have e129 := (Zfr.gi fc44 t_a0 (by decide)).trans e124
    have e130 := (Zfr.gi fc44 t_a0 (by decide)).trans e125
    have F131 := Zfr.tr F126 fc44 (by decide)
    unfold f_Reader_takeAfterUnit_179
    have := li_18
    exact ⟨_, rfl, Wc44, F131, ⟨bt0, bg0, (18 : Int32), bfa0, bsl0, e127, e128, gc44, e129, e130, tt0, by (try dsimp only); omega, by (try dsimp only); omega, by (try dsimp only); omega, by (try dsimp only); omega, by (try dsimp only); omega⟩⟩
  · have := li_42
    have := i_ge a1
    have := i_up a1
    have hq120 := i_ne hq120
    refine wi (fun hq137 => ?_) (fun hq137 => ?_)
    · have := li_43
      have hq137 := i_eq hq137
      exact J86
    · have := li_43
      have hq137 := i_ne hq137
      refine wi (fun hq138 => ?_) (fun hq138 => ?_)
      · have := li_45
        have hq138 := i_eq hq138
        exact J86
      · have := li_45
        have hq138 := i_ne hq138
        refine wi (fun hq139 => ?_) (fun hq139 => ?_)
        · have := li_41
          have hq139 := i_eq hq139
          obtain ⟨v34, ev34, tv34⟩ := gf_6_2 W t_a0
          refine wb ev34 ?_
          obtain ⟨v35, ev35, _⟩ := gf_5_1 W tv34
          refine wb ev35 ?_
          refine wi (fun hq140 => ?_) (fun hq140 => ?_)
          · have := li_0
            have := i_ge v35
            have := i_up v35
            have hq140 := i_le hq140
            exact J1
          · have := li_0
            have := i_ge v35
            have := i_up v35
            have hq140 := i_nle hq140
            refine wb ev34 ?_
            obtain ⟨w39, ew39⟩ := go_5 W tv34
            refine wb ew39 ?_
            obtain ⟨q38, eq38, Wq38, fq38⟩ := p_Operators_closeParen hn W  tv34
            refine wb eq38 ?_
            have e141 := (Zfr.gr fq38 t_a0 (by decide)).trans h0Zrd0
            have e142 := (Zfr.gi fq38 tt0 (by decide)).trans h1Zrd0
            have e143 := (Zfr.gi fq38 t_a0 (by decide)).trans h2Zrd0
            have e144 := (Zfr.gi fq38 t_a0 (by decide)).trans h3Zrd0
            have e145 := (Zfr.gi fq38 t_a0 (by decide)).trans h4Zrd0
            have F146 := Zfr.tr F0 fq38 (by decide)
            obtain ⟨c40, ec40, Wc40, fc40, gc40⟩ := pf_6_8 Wq38 t_a0 (x := 21) (trivial)
            refine wb ec40 ?_
            have e147 := (Zfr.gr fc40 t_a0 (by decide)).trans e141
            have e148 := (Zfr.gi fc40 tt0 (by decide)).trans e142
            have e149 := (Zfr.gi fc40 t_a0 (by decide)).trans e144
            have e150 := (Zfr.gi fc40 t_a0 (by decide)).trans e145
            have F151 := Zfr.tr F146 fc40 (by decide)
            unfold f_Reader_takeAfterUnit_179
            have := li_21
            exact ⟨_, rfl, Wc40, F151, ⟨bt0, bg0, (21 : Int32), bfa0, bsl0, e147, e148, gc40, e149, e150, tt0, by (try dsimp only); omega, by (try dsimp only); omega, by (try dsimp only); omega, by (try dsimp only); omega, by (try dsimp only); omega⟩⟩
        · have := li_41
          have hq139 := i_ne hq139
          exact J1

abbrev M_Reader_takeItem : List (Nat × Nat) := [(3, 15), (6, 0), (6, 8), (6, 9), (6, 18), (6, 19), (36, 0), (37, 0)]
set_option maxRecDepth 100000 in
set_option maxHeartbeats 400000 in
theorem p_Reader_takeItem {nf : Nat} (hn : 8589934592 ≤ nf) {G : List Nat} {c : Zc} (W : Zwt zty G c) {a0 : Nat} {a1 : Int32}  (t_a0 : G[a0]? = some 6) (hb_Zrd : Zrd G c a0 a1) : ∃ q, f_Reader_takeItem nf a0 a1 c = some q ∧ Zwt zty G q ∧ Zfr G M_Reader_takeItem c q ∧ Zrt G q a0 := by
  have F0 : Zfr G M_Reader_takeItem c c := Zfr.rf
  unfold f_Reader_takeItem
  obtain ⟨bt0, bg0, bs0, bfa0, bsl0, btk0, bat_0, bvl0, bv0, h0Zrd0, h1Zrd0, h2Zrd0, h3Zrd0, h4Zrd0, h5Zrd0, h6Zrd0, h7Zrd0, h8Zrd0, tt0, ttk0, tvl0, r0Zrd0, r1Zrd0, r2Zrd0, r3Zrd0, r4Zrd0, r5Zrd0, r6Zrd0, r7Zrd0, r8Zrd0, r9Zrd0, r10Zrd0⟩ := hb_Zrd
  have J1 : ∃ q, f_Reader_takeItem_63 nf a0 a1 0 c = some q ∧ Zwt zty G q ∧ Zfr G M_Reader_takeItem c q ∧ Zrt G q a0 := by
    unfold f_Reader_takeItem_63
    refine wb h0Zrd0 ?_
    obtain ⟨v5, ev5, lv5, uv5⟩ := gf_3_15 W tt0
    refine wb ev5 ?_
    refine wi (fun hq2 => ?_) (fun hq2 => ?_)
    · have := li_8
      have hq2 := i_lt hq2
      refine wi (fun hq3 => ?_) (fun hq3 => ?_)
      · have := li_19
        have := i_ge a1
        have := i_up a1
        have hq3 := i_eq hq3
        refine wb h0Zrd0 ?_
        obtain ⟨w18, ew18⟩ := go_3 W tt0
        refine wb ew18 ?_
        obtain ⟨q17, eq17, Wq17, fq17⟩ := p_Text_openItem hn W (a1 := 19) tt0
        refine wb eq17 ?_
        have e4 := (Zfr.gr fq17 t_a0 (by decide)).trans h0Zrd0
        have e5 := (Zfr.gi fq17 tt0 (by decide)).trans h1Zrd0
        have e6 := (Zfr.gi fq17 t_a0 (by decide)).trans h2Zrd0
        have e7 := (Zfr.gi fq17 t_a0 (by decide)).trans h3Zrd0
        have e8 := (Zfr.gi fq17 t_a0 (by decide)).trans h4Zrd0
        have F9 := Zfr.tr F0 fq17 (by decide)
        refine wb e4 ?_
        obtain ⟨w21, ew21⟩ := go_3 Wq17 tt0
        refine wb ew21 ?_
        obtain ⟨q20, eq20, Wq20, fq20⟩ := p_Text_endItem hn Wq17  tt0
        refine wb eq20 ?_
        have e10 := (Zfr.gr fq20 t_a0 (by decide)).trans e4
        have e11 := (Zfr.gi fq20 tt0 (by decide)).trans e5
        have e12 := (Zfr.gi fq20 t_a0 (by decide)).trans e6
        have e13 := (Zfr.gi fq20 t_a0 (by decide)).trans e7
        have e14 := (Zfr.gi fq20 t_a0 (by decide)).trans e8
        have F15 := Zfr.tr F9 fq20 (by decide)
        obtain ⟨c22, ec22, Wc22, fc22, gc22⟩ := pf_6_8 Wq20 t_a0 (x := 23) (trivial)
        refine wb ec22 ?_
        have e16 := (Zfr.gr fc22 t_a0 (by decide)).trans e10
        have e17 := (Zfr.gi fc22 tt0 (by decide)).trans e11
        have e18 := (Zfr.gi fc22 t_a0 (by decide)).trans e13
        have e19 := (Zfr.gi fc22 t_a0 (by decide)).trans e14
        have F20 := Zfr.tr F15 fc22 (by decide)
        unfold f_Reader_takeItem_146
        have := li_23
        exact ⟨_, rfl, Wc22, F20, ⟨bt0, bg0, (23 : Int32), bfa0, bsl0, e16, e17, gc22, e18, e19, tt0, by (try dsimp only); omega, by (try dsimp only); omega, by (try dsimp only); omega, by (try dsimp only); omega, by (try dsimp only); omega⟩⟩
      · have := li_19
        have := i_ge a1
        have := i_up a1
        have hq3 := i_ne hq3
        obtain ⟨c8, ec8, Wc8, fc8, gc8⟩ := pf_6_18 W t_a0 (x := 2) (trivial)
        refine wb ec8 ?_
        have e26 := (Zfr.gr fc8 t_a0 (by decide)).trans h0Zrd0
        have e27 := (Zfr.gi fc8 tt0 (by decide)).trans h1Zrd0
        have e28 := (Zfr.gi fc8 t_a0 (by decide)).trans h2Zrd0
        have e29 := (Zfr.gi fc8 t_a0 (by decide)).trans h3Zrd0
        have e30 := (Zfr.gi fc8 t_a0 (by decide)).trans h4Zrd0
        have F31 := Zfr.tr F0 fc8 (by decide)
        refine wb e26 ?_
        refine wi (fun hq32 => ?_) (fun hq32 => ?_)
        · have := li_0
          have hq32 := i_eq hq32
          unfold f_Reader_takeItem_132
          obtain ⟨w12, ew12⟩ := go_3 Wc8 tt0
          refine wb ew12 ?_
          have := li_2
          obtain ⟨q11, eq11, Wq11, fq11⟩ := p_Text_openItem hn Wc8 (a1 := 2) tt0
          refine wb eq11 ?_
          have e33 := (Zfr.gr fq11 t_a0 (by decide)).trans e26
          have e34 := (Zfr.gi fq11 tt0 (by decide)).trans e27
          have e35 := (Zfr.gi fq11 t_a0 (by decide)).trans e28
          have e36 := (Zfr.gi fq11 t_a0 (by decide)).trans e29
          have e37 := (Zfr.gi fq11 t_a0 (by decide)).trans e30
          have F38 := Zfr.tr F31 fq11 (by decide)
          obtain ⟨w14, ew14⟩ := go_6 Wq11 t_a0
          refine wb ew14 ?_
          have := li_18
          obtain ⟨q13, eq13, Wq13, fq13, pbZrtq13⟩ := p_Reader_passOn hn Wq11 (a1 := 18) t_a0 (by omega) (by omega) (by omega) ⟨bt0, bg0, bs0, bfa0, bsl0, e33, e34, e35, e36, e37, tt0, by (try dsimp only); omega, by (try dsimp only); omega, by (try dsimp only); omega, by (try dsimp only); omega, by (try dsimp only); omega⟩
          refine wb eq13 ?_
          have e44 := (Zfr.gr fq13 t_a0 (by decide)).trans e33
          have e45 := (Zfr.gi fq13 tt0 (by decide)).trans e34
          have e46 := (Zfr.gi fq13 t_a0 (by decide)).trans e36
          have e47 := (Zfr.gi fq13 t_a0 (by decide)).trans e37
          have F48 := Zfr.tr F38 fq13 (by decide)
          obtain ⟨btq13, bgq13, bsq13, bfaq13, bslq13, h0Zrtq13, h1Zrtq13, h2Zrtq13, h3Zrtq13, h4Zrtq13, ttq13, r0Zrtq13, r1Zrtq13, r2Zrtq13, r3Zrtq13, r4Zrtq13⟩ := pbZrtq13
          obtain ⟨c15, ec15, Wc15, fc15, gc15⟩ := pz_6_19 Wq13 t_a0 (x := 0) (rgi (by omega) (by omega))
          refine wb ec15 ?_
          have e49 := (Zfr.gr fc15 t_a0 (by decide)).trans h0Zrtq13
          have e50 := (Zfr.gi fc15 tt0 (by decide)).trans e45
          have e51 := (Zfr.gi fc15 t_a0 (by decide)).trans h3Zrtq13
          have e52 := (Zfr.gi fc15 t_a0 (by decide)).trans h4Zrtq13
          have e53 := (Zfr.gi fc15 ttq13 (by decide)).trans h1Zrtq13
          have e54 := (Zfr.gi fc15 t_a0 (by decide)).trans h2Zrtq13
          have F55 := Zfr.tr F48 fc15 (by decide)
          unfold f_Reader_takeItem_146
          exact ⟨_, rfl, Wc15, F55, ⟨btq13, bgq13, bsq13, bfaq13, bslq13, e49, e53, e54, e51, e52, ttq13, by (try dsimp only); omega, by (try dsimp only); omega, by (try dsimp only); omega, by (try dsimp only); omega, by (try dsimp only); omega⟩⟩
        · have := li_0
          have hq32 := i_ne hq32
          unfold f_Reader_takeItem_132
          obtain ⟨w12, ew12⟩ := go_3 Wc8 tt0
          refine wb ew12 ?_
          obtain ⟨q11, eq11, Wq11, fq11⟩ := p_Text_openItem hn Wc8 (a1 := a1) tt0
          refine wb eq11 ?_
          have e61 := (Zfr.gr fq11 t_a0 (by decide)).trans e26
          have e62 := (Zfr.gi fq11 tt0 (by decide)).trans e27
          have e63 := (Zfr.gi fq11 t_a0 (by decide)).trans e28
          have e64 := (Zfr.gi fq11 t_a0 (by decide)).trans e29
          have e65 := (Zfr.gi fq11 t_a0 (by decide)).trans e30
          have F66 := Zfr.tr F31 fq11 (by decide)
          obtain ⟨w14, ew14⟩ := go_6 Wq11 t_a0
          refine wb ew14 ?_
          have := li_18
          obtain ⟨q13, eq13, Wq13, fq13, pbZrtq13⟩ := p_Reader_passOn hn Wq11 (a1 := 18) t_a0 (by omega) (by omega) (by omega) ⟨bt0, bg0, bs0, bfa0, bsl0, e61, e62, e63, e64, e65, tt0, by (try dsimp only); omega, by (try dsimp only); omega, by (try dsimp only); omega, by (try dsimp only); omega, by (try dsimp only); omega⟩
          refine wb eq13 ?_
          have e72 := (Zfr.gr fq13 t_a0 (by decide)).trans e61
          have e73 := (Zfr.gi fq13 tt0 (by decide)).trans e62
          have e74 := (Zfr.gi fq13 t_a0 (by decide)).trans e64
          have e75 := (Zfr.gi fq13 t_a0 (by decide)).trans e65
          have F76 := Zfr.tr F66 fq13 (by decide)
          obtain ⟨btq13, bgq13, bsq13, bfaq13, bslq13, h0Zrtq13, h1Zrtq13, h2Zrtq13, h3Zrtq13, h4Zrtq13, ttq13, r0Zrtq13, r1Zrtq13, r2Zrtq13, r3Zrtq13, r4Zrtq13⟩ := pbZrtq13
          obtain ⟨c15, ec15, Wc15, fc15, gc15⟩ := pz_6_19 Wq13 t_a0 (x := 0) (rgi (by omega) (by omega))
          refine wb ec15 ?_
          have e77 := (Zfr.gr fc15 t_a0 (by decide)).trans h0Zrtq13
          have e78 := (Zfr.gi fc15 tt0 (by decide)).trans e73
          have e79 := (Zfr.gi fc15 t_a0 (by decide)).trans h3Zrtq13
          have e80 := (Zfr.gi fc15 t_a0 (by decide)).trans h4Zrtq13
          have e81 := (Zfr.gi fc15 ttq13 (by decide)).trans h1Zrtq13
          have e82 := (Zfr.gi fc15 t_a0 (by decide)).trans h2Zrtq13
          have F83 := Zfr.tr F76 fc15 (by decide)
          unfold f_Reader_takeItem_146
          exact ⟨_, rfl, Wc15, F83, ⟨btq13, bgq13, bsq13, bfaq13, bslq13, e77, e81, e82, e79, e80, ttq13, by (try dsimp only); omega, by (try dsimp only); omega, by (try dsimp only); omega, by (try dsimp only); omega, by (try dsimp only); omega⟩⟩
    · have := li_8
      have hq2 := i_nlt hq2
      obtain ⟨w24, ew24⟩ := go_6 W t_a0
      refine wb ew24 ?_
      have := li_3
      obtain ⟨q23, eq23, Wq23, fq23, pbZrfq23⟩ := p_Reader_fail hn W (a1 := 3) t_a0 (by omega) (by omega) ⟨bt0, bg0, bs0, bfa0, bsl0, h0Zrd0, h1Zrd0, h2Zrd0, h3Zrd0, h4Zrd0, tt0, by (try dsimp only); omega, by (try dsimp only); omega, by (try dsimp only); omega, by (try dsimp only); omega⟩
      refine wb eq23 ?_
      have e94 := (Zfr.gr fq23 t_a0 (by decide)).trans h0Zrd0
      have e95 := (Zfr.gi fq23 tt0 (by decide)).trans h1Zrd0
      have e96 := (Zfr.gi fq23 t_a0 (by decide)).trans h2Zrd0
      have e97 := (Zfr.gi fq23 t_a0 (by decide)).trans h4Zrd0
      have F98 := Zfr.tr F0 fq23 (by decide)
      obtain ⟨btq23, bgq23, bsq23, bfaq23, bslq23, h0Zrfq23, h1Zrfq23, h2Zrfq23, h3Zrfq23, h4Zrfq23, ttq23, r0Zrfq23, r1Zrfq23, r2Zrfq23, r3Zrfq23, r4Zrfq23⟩ := pbZrfq23
      unfold f_Reader_takeItem_146
      exact ⟨_, rfl, Wq23, F98, ⟨btq23, bgq23, bsq23, bfaq23, bslq23, h0Zrfq23, h1Zrfq23, h2Zrfq23, h3Zrfq23, h4Zrfq23, ttq23, by (try dsimp only); omega, by (try dsimp only); omega, by (try dsimp only); omega, by (try dsimp only); omega, by (try dsimp only); omega⟩⟩
  have J104 : ∃ q, f_Reader_takeItem_63 nf a0 a1 1 c = some q ∧ Zwt zty G q ∧ Zfr G M_Reader_takeItem c q ∧ Zrt G q a0 := by
    unfold f_Reader_takeItem_63
    refine wb h0Zrd0 ?_
    obtain ⟨v5, ev5, lv5, uv5⟩ := gf_3_15 W tt0
    refine wb ev5 ?_
    refine wi (fun hq105 => ?_) (fun hq105 => ?_)
    · have := li_8
      have hq105 := i_lt hq105
      refine wi (fun hq106 => ?_) (fun hq106 => ?_)
      · have := li_19
        have := i_ge a1
        have := i_up a1
        have hq106 := i_eq hq106
        refine wb h0Zrd0 ?_
        obtain ⟨w18, ew18⟩ := go_3 W tt0
        refine wb ew18 ?_
        obtain ⟨q17, eq17, Wq17, fq17⟩ := p_Text_openItem hn W (a1 := 19) tt0
        refine wb eq17 ?_
        have e107 := (Zfr.gr fq17 t_a0 (by decide)).trans h0Zrd0
        have e108 := (Zfr.gi fq17 tt0 (by decide)).trans h1Zrd0
        have e109 := (Zfr.gi fq17 t_a0 (by decide)).trans h2Zrd0
        have e110 := (Zfr.gi fq17 t_a0 (by decide)).trans h3Zrd0
        have e111 := (Zfr.gi fq17 t_a0 (by decide)).trans h4Zrd0
        have F112 := Zfr.tr F0 fq17 (by decide)
        refine wb e107 ?_
        obtain ⟨w21, ew21⟩ := go_3 Wq17 tt0
        refine wb ew21 ?_
        obtain ⟨q20, eq20, Wq20, fq20⟩ := p_Text_endItem hn Wq17  tt0
        refine wb eq20 ?_
        have e113 := (Zfr.gr fq20 t_a0 (by decide)).trans e107
        have e114 := (Zfr.gi fq20 tt0 (by decide)).trans e108
        have e115 := (Zfr.gi fq20 t_a0 (by decide)).trans e109
        have e116 := (Zfr.gi fq20 t_a0 (by decide)).trans e110
        have e117 := (Zfr.gi fq20 t_a0 (by decide)).trans e111
        have F118 := Zfr.tr F112 fq20 (by decide)
        obtain ⟨c22, ec22, Wc22, fc22, gc22⟩ := pf_6_8 Wq20 t_a0 (x := 23) (trivial)
        refine wb ec22 ?_
        have e119 := (Zfr.gr fc22 t_a0 (by decide)).trans e113
        have e120 := (Zfr.gi fc22 tt0 (by decide)).trans e114
        have e121 := (Zfr.gi fc22 t_a0 (by decide)).trans e116
        have e122 := (Zfr.gi fc22 t_a0 (by decide)).trans e117
        have F123 := Zfr.tr F118 fc22 (by decide)
        unfold f_Reader_takeItem_146
        have := li_23
        exact ⟨_, rfl, Wc22, F123, ⟨bt0, bg0, (23 : Int32), bfa0, bsl0, e119, e120, gc22, e121, e122, tt0, by (try dsimp only); omega, by (try dsimp only); omega, by (try dsimp only); omega, by (try dsimp only); omega, by (try dsimp only); omega⟩⟩
      · have := li_19
        have := i_ge a1
        have := i_up a1
        have hq106 := i_ne hq106
        obtain ⟨c8, ec8, Wc8, fc8, gc8⟩ := pf_6_18 W t_a0 (x := 2) (trivial)
        refine wb ec8 ?_
        have e129 := (Zfr.gr fc8 t_a0 (by decide)).trans h0Zrd0
        have e130 := (Zfr.gi fc8 tt0 (by decide)).trans h1Zrd0
        have e131 := (Zfr.gi fc8 t_a0 (by decide)).trans h2Zrd0
        have e132 := (Zfr.gi fc8 t_a0 (by decide)).trans h3Zrd0
        have e133 := (Zfr.gi fc8 t_a0 (by decide)).trans h4Zrd0
        have F134 := Zfr.tr F0 fc8 (by decide)
        refine wb e129 ?_
        refine wi (fun hq135 => ?_) (fun hq135 => ?_)
        · have := li_1
          have := li_0
          have hq135 := i_eq hq135
          unfold f_Reader_takeItem_132
          obtain ⟨w12, ew12⟩ := go_3 Wc8 tt0
          refine wb ew12 ?_
          have := li_2
          obtain ⟨q11, eq11, Wq11, fq11⟩ := p_Text_openItem hn Wc8 (a1 := 2) tt0
          refine wb eq11 ?_
          have e136 := (Zfr.gr fq11 t_a0 (by decide)).trans e129
          have e137 := (Zfr.gi fq11 tt0 (by decide)).trans e130
          have e138 := (Zfr.gi fq11 t_a0 (by decide)).trans e131
          have e139 := (Zfr.gi fq11 t_a0 (by decide)).trans e132
          have e140 := (Zfr.gi fq11 t_a0 (by decide)).trans e133
          have F141 := Zfr.tr F134 fq11 (by decide)
          obtain ⟨w14, ew14⟩ := go_6 Wq11 t_a0
          refine wb ew14 ?_
          have := li_18
          obtain ⟨q13, eq13, Wq13, fq13, pbZrtq13⟩ := p_Reader_passOn hn Wq11 (a1 := 18) t_a0 (by omega) (by omega) (by omega) ⟨bt0, bg0, bs0, bfa0, bsl0, e136, e137, e138, e139, e140, tt0, by (try dsimp only); omega, by (try dsimp only); omega, by (try dsimp only); omega, by (try dsimp only); omega, by (try dsimp only); omega⟩
          refine wb eq13 ?_
          have e147 := (Zfr.gr fq13 t_a0 (by decide)).trans e136
          have e148 := (Zfr.gi fq13 tt0 (by decide)).trans e137
          have e149 := (Zfr.gi fq13 t_a0 (by decide)).trans e139
          have e150 := (Zfr.gi fq13 t_a0 (by decide)).trans e140
          have F151 := Zfr.tr F141 fq13 (by decide)
          obtain ⟨btq13, bgq13, bsq13, bfaq13, bslq13, h0Zrtq13, h1Zrtq13, h2Zrtq13, h3Zrtq13, h4Zrtq13, ttq13, r0Zrtq13, r1Zrtq13, r2Zrtq13, r3Zrtq13, r4Zrtq13⟩ := pbZrtq13
          obtain ⟨c15, ec15, Wc15, fc15, gc15⟩ := pz_6_19 Wq13 t_a0 (x := 1) (rgi (by omega) (by omega))
          refine wb ec15 ?_
          have e152 := (Zfr.gr fc15 t_a0 (by decide)).trans h0Zrtq13
          have e153 := (Zfr.gi fc15 tt0 (by decide)).trans e148
          have e154 := (Zfr.gi fc15 t_a0 (by decide)).trans h3Zrtq13
          have e155 := (Zfr.gi fc15 t_a0 (by decide)).trans h4Zrtq13
          have e156 := (Zfr.gi fc15 ttq13 (by decide)).trans h1Zrtq13
          have e157 := (Zfr.gi fc15 t_a0 (by decide)).trans h2Zrtq13
          have F158 := Zfr.tr F151 fc15 (by decide)
          unfold f_Reader_takeItem_146
          exact ⟨_, rfl, Wc15, F158, ⟨btq13, bgq13, bsq13, bfaq13, bslq13, e152, e156, e157, e154, e155, ttq13, by (try dsimp only); omega, by (try dsimp only); omega, by (try dsimp only); omega, by (try dsimp only); omega, by (try dsimp only); omega⟩⟩
        · have := li_1
          have := li_0
          have hq135 := i_ne hq135
          unfold f_Reader_takeItem_132
          obtain ⟨w12, ew12⟩ := go_3 Wc8 tt0
          refine wb ew12 ?_
          obtain ⟨q11, eq11, Wq11, fq11⟩ := p_Text_openItem hn Wc8 (a1 := a1) tt0
          refine wb eq11 ?_
          have e164 := (Zfr.gr fq11 t_a0 (by decide)).trans e129
          have e165 := (Zfr.gi fq11 tt0 (by decide)).trans e130
          have e166 := (Zfr.gi fq11 t_a0 (by decide)).trans e131
          have e167 := (Zfr.gi fq11 t_a0 (by decide)).trans e132
          have e168 := (Zfr.gi fq11 t_a0 (by decide)).trans e133
          have F169 := Zfr.tr F134 fq11 (by decide)
          obtain ⟨w14, ew14⟩ := go_6 Wq11 t_a0
          refine wb ew14 ?_
          have := li_18
          obtain ⟨q13, eq13, Wq13, fq13, pbZrtq13⟩ := p_Reader_passOn hn Wq11 (a1 := 18) t_a0 (by omega) (by omega) (by omega) ⟨bt0, bg0, bs0, bfa0, bsl0, e164, e165, e166, e167, e168, tt0, by (try dsimp only); omega, by (try dsimp only); omega, by (try dsimp only); omega, by (try dsimp only); omega, by (try dsimp only); omega⟩
          refine wb eq13 ?_
          have e175 := (Zfr.gr fq13 t_a0 (by decide)).trans e164
          have e176 := (Zfr.gi fq13 tt0 (by decide)).trans e165
          have e177 := (Zfr.gi fq13 t_a0 (by decide)).trans e167
          have e178 := (Zfr.gi fq13 t_a0 (by decide)).trans e168
          have F179 := Zfr.tr F169 fq13 (by decide)
          obtain ⟨btq13, bgq13, bsq13, bfaq13, bslq13, h0Zrtq13, h1Zrtq13, h2Zrtq13, h3Zrtq13, h4Zrtq13, ttq13, r0Zrtq13, r1Zrtq13, r2Zrtq13, r3Zrtq13, r4Zrtq13⟩ := pbZrtq13
          obtain ⟨c15, ec15, Wc15, fc15, gc15⟩ := pz_6_19 Wq13 t_a0 (x := 1) (rgi (by omega) (by omega))
          refine wb ec15 ?_
          have e180 := (Zfr.gr fc15 t_a0 (by decide)).trans h0Zrtq13
          have e181 := (Zfr.gi fc15 tt0 (by decide)).trans e176
          have e182 := (Zfr.gi fc15 t_a0 (by decide)).trans h3Zrtq13
          have e183 := (Zfr.gi fc15 t_a0 (by decide)).trans h4Zrtq13
          have e184 := (Zfr.gi fc15 ttq13 (by decide)).trans h1Zrtq13
          have e185 := (Zfr.gi fc15 t_a0 (by decide)).trans h2Zrtq13
          have F186 := Zfr.tr F179 fc15 (by decide)
          unfold f_Reader_takeItem_146
          exact ⟨_, rfl, Wc15, F186, ⟨btq13, bgq13, bsq13, bfaq13, bslq13, e180, e184, e185, e182, e183, ttq13, by (try dsimp only); omega, by (try dsimp only); omega, by (try dsimp only); omega, by (try dsimp only); omega, by (try dsimp only); omega⟩⟩
    · have := li_8
      have hq105 := i_nlt hq105
      obtain ⟨w24, ew24⟩ := go_6 W t_a0
      refine wb ew24 ?_
      have := li_3
      obtain ⟨q23, eq23, Wq23, fq23, pbZrfq23⟩ := p_Reader_fail hn W (a1 := 3) t_a0 (by omega) (by omega) ⟨bt0, bg0, bs0, bfa0, bsl0, h0Zrd0, h1Zrd0, h2Zrd0, h3Zrd0, h4Zrd0, tt0, by (try dsimp only); omega, by (try dsimp only); omega, by (try dsimp only); omega, by (try dsimp only); omega⟩
      refine wb eq23 ?_
      have e197 := (Zfr.gr fq23 t_a0 (by decide)).trans h0Zrd0
      have e198 := (Zfr.gi fq23 tt0 (by decide)).trans h1Zrd0
      have e199 := (Zfr.gi fq23 t_a0 (by decide)).trans h2Zrd0
      have e200 := (Zfr.gi fq23 t_a0 (by decide)).trans h4Zrd0
      have F201 := Zfr.tr F0 fq23 (by decide)
      obtain ⟨btq23, bgq23, bsq23, bfaq23, bslq23, h0Zrfq23, h1Zrfq23, h2Zrfq23, h3Zrfq23, h4Zrfq23, ttq23, r0Zrfq23, r1Zrfq23, r2Zrfq23, r3Zrfq23, r4Zrfq23⟩ := pbZrfq23
      unfold f_Reader_takeItem_146
      exact ⟨_, rfl, Wq23, F201, ⟨btq23, bgq23, bsq23, bfaq23, bslq23, h0Zrfq23, h1Zrfq23, h2Zrfq23, h3Zrfq23, h4Zrfq23, ttq23, by (try dsimp only); omega, by (try dsimp only); omega, by (try dsimp only); omega, by (try dsimp only); omega, by (try dsimp only); omega⟩⟩
  have J207 : ∃ q, f_Reader_takeItem_46 nf a0 a1 0 1 c = some q ∧ Zwt zty G q ∧ Zfr G M_Reader_takeItem c q ∧ Zrt G q a0 := by
    unfold f_Reader_takeItem_46
    refine wi (fun hq208 => ?_) (fun hq208 => ?_)
    · have := li_0
      have hq208 := i_eq hq208
      refine wi (fun hq209 => ?_) (fun hq209 => ?_)
      · have := li_1
        have hq209 := i_eq hq209
        obtain ⟨w27, ew27⟩ := go_6 W t_a0
        refine wb ew27 ?_
        have := li_2
        obtain ⟨q26, eq26, Wq26, fq26, pbZrfq26⟩ := p_Reader_fail hn W (a1 := 2) t_a0 (by omega) (by omega) ⟨bt0, bg0, bs0, bfa0, bsl0, h0Zrd0, h1Zrd0, h2Zrd0, h3Zrd0, h4Zrd0, tt0, by (try dsimp only); omega, by (try dsimp only); omega, by (try dsimp only); omega, by (try dsimp only); omega⟩
        refine wb eq26 ?_
        have e215 := (Zfr.gr fq26 t_a0 (by decide)).trans h0Zrd0
        have e216 := (Zfr.gi fq26 tt0 (by decide)).trans h1Zrd0
        have e217 := (Zfr.gi fq26 t_a0 (by decide)).trans h2Zrd0
        have e218 := (Zfr.gi fq26 t_a0 (by decide)).trans h4Zrd0
        have F219 := Zfr.tr F0 fq26 (by decide)
        obtain ⟨btq26, bgq26, bsq26, bfaq26, bslq26, h0Zrfq26, h1Zrfq26, h2Zrfq26, h3Zrfq26, h4Zrfq26, ttq26, r0Zrfq26, r1Zrfq26, r2Zrfq26, r3Zrfq26, r4Zrfq26⟩ := pbZrfq26
        unfold f_Reader_takeItem_146
        exact ⟨_, rfl, Wq26, F219, ⟨btq26, bgq26, bsq26, bfaq26, bslq26, h0Zrfq26, h1Zrfq26, h2Zrfq26, h3Zrfq26, h4Zrfq26, ttq26, by (try dsimp only); omega, by (try dsimp only); omega, by (try dsimp only); omega, by (try dsimp only); omega, by (try dsimp only); omega⟩⟩
      · have := li_1
        have hq209 := i_ne hq209
        exact J1
    · have := li_0
      have hq208 := i_ne hq208
      exact J1
  have J225 : ∃ q, f_Reader_takeItem_46 nf a0 a1 0 0 c = some q ∧ Zwt zty G q ∧ Zfr G M_Reader_takeItem c q ∧ Zrt G q a0 := by
    unfold f_Reader_takeItem_46
    refine wi (fun hq226 => ?_) (fun hq226 => ?_)
    · have := li_0
      have hq226 := i_eq hq226
      refine wi (fun hq227 => ?_) (fun hq227 => ?_)
      · have hq227 := i_eq hq227
        obtain ⟨w27, ew27⟩ := go_6 W t_a0
        refine wb ew27 ?_
        have := li_2
        obtain ⟨q26, eq26, Wq26, fq26, pbZrfq26⟩ := p_Reader_fail hn W (a1 := 2) t_a0 (by omega) (by omega) ⟨bt0, bg0, bs0, bfa0, bsl0, h0Zrd0, h1Zrd0, h2Zrd0, h3Zrd0, h4Zrd0, tt0, by (try dsimp only); omega, by (try dsimp only); omega, by (try dsimp only); omega, by (try dsimp only); omega⟩
        refine wb eq26 ?_
        have e233 := (Zfr.gr fq26 t_a0 (by decide)).trans h0Zrd0
        have e234 := (Zfr.gi fq26 tt0 (by decide)).trans h1Zrd0
        have e235 := (Zfr.gi fq26 t_a0 (by decide)).trans h2Zrd0
        have e236 := (Zfr.gi fq26 t_a0 (by decide)).trans h4Zrd0
        have F237 := Zfr.tr F0 fq26 (by decide)
        obtain ⟨btq26, bgq26, bsq26, bfaq26, bslq26, h0Zrfq26, h1Zrfq26, h2Zrfq26, h3Zrfq26, h4Zrfq26, ttq26, r0Zrfq26, r1Zrfq26, r2Zrfq26, r3Zrfq26, r4Zrfq26⟩ := pbZrfq26
        unfold f_Reader_takeItem_146
        exact ⟨_, rfl, Wq26, F237, ⟨btq26, bgq26, bsq26, bfaq26, bslq26, h0Zrfq26, h1Zrfq26, h2Zrfq26, h3Zrfq26, h4Zrfq26, ttq26, by (try dsimp only); omega, by (try dsimp only); omega, by (try dsimp only); omega, by (try dsimp only); omega, by (try dsimp only); omega⟩⟩
      · have hq227 := i_ne hq227
        exact J1
    · have := li_0
      have hq226 := i_ne hq226
      exact J1
  have J243 : ∃ q, f_Reader_takeItem_41 nf a0 a1 0 c = some q ∧ Zwt zty G q ∧ Zfr G M_Reader_takeItem c q ∧ Zrt G q a0 := by
    unfold f_Reader_takeItem_41
    exact J207
  have J244 : ∃ q, f_Reader_takeItem_17 nf a0 a1 0 c = some q ∧ Zwt zty G q ∧ Zfr G M_Reader_takeItem c q ∧ Zrt G q a0 := by
    unfold f_Reader_takeItem_17
    refine wi (fun hq245 => ?_) (fun hq245 => ?_)
    · have := li_45
      have := i_ge a1
      have := i_up a1
      have hq245 := i_eq hq245
      exact J243
    · have := li_45
      have := i_ge a1
      have := i_up a1
      have hq245 := i_ne hq245
      refine wi (fun hq246 => ?_) (fun hq246 => ?_)
      · have := li_40
        have hq246 := i_eq hq246
        exact J243
      · have := li_40
        have hq246 := i_ne hq246
        refine wi (fun hq247 => ?_) (fun hq247 => ?_)
        · have := li_6
          have hq247 := i_eq hq247
          have := tkr6 r10Zrd0 (by omega)
          exact J243
        · have := li_6
          have hq247 := i_ne hq247
          refine wi (fun hq248 => ?_) (fun hq248 => ?_)
          · have := li_2
            have hq248 := i_eq hq248
            have := tkr2 r10Zrd0 (by omega)
            exact J243
          · have := li_2
            have hq248 := i_ne hq248
            exact J225
  have J249 : ∃ q, f_Reader_takeItem_16 nf a0 a1 c = some q ∧ Zwt zty G q ∧ Zfr G M_Reader_takeItem c q ∧ Zrt G q a0 := by
    unfold f_Reader_takeItem_16
    exact J244
  refine wi (fun hq250 => ?_) (fun hq250 => ?_)
  · have := li_19
    have := i_ge a1
    have := i_up a1
    have hq250 := i_lt hq250
    exact J249
  · have := li_19
    have := i_ge a1
    have := i_up a1
    have hq250 := i_nlt hq250
    refine wi (fun hq251 => ?_) (fun hq251 => ?_)
    · have := li_22
      have hq251 := i_lt hq251
      exact J249
    · have := li_22
      have hq251 := i_nlt hq251
      unfold f_Reader_takeItem_17
      refine wi (fun hq252 => ?_) (fun hq252 => ?_)
      · have := li_45
        have hq252 := i_eq hq252
        exfalso
        omega
      · have := li_45
        have hq252 := i_ne hq252
        refine wi (fun hq253 => ?_) (fun hq253 => ?_)
        · have := li_40
          have hq253 := i_eq hq253
          exfalso
          omega
        · have := li_40
          have hq253 := i_ne hq253
          refine wi (fun hq254 => ?_) (fun hq254 => ?_)
          · have := li_6
            have hq254 := i_eq hq254
            have := tkr6 r10Zrd0 (by omega)
            exfalso
            omega
          · have := li_6
            have hq254 := i_ne hq254
            refine wi (fun hq255 => ?_) (fun hq255 => ?_)
            · have := li_2
              have hq255 := i_eq hq255
              have := tkr2 r10Zrd0 (by omega)
              exfalso
              omega
            · have := li_2
              have hq255 := i_ne hq255
              unfold f_Reader_takeItem_46
              refine wi (fun hq256 => ?_) (fun hq256 => ?_)
              · have := li_1
                have := li_0
                have hq256 := i_eq hq256
                refine wi (fun hq257 => ?_) (fun hq257 => ?_)
                · have hq257 := i_eq hq257
                  obtain ⟨w27, ew27⟩ := go_6 W t_a0
                  refine wb ew27 ?_
                  obtain ⟨q26, eq26, Wq26, fq26, pbZrfq26⟩ := p_Reader_fail hn W (a1 := 2) t_a0 (by omega) (by omega) ⟨bt0, bg0, bs0, bfa0, bsl0, h0Zrd0, h1Zrd0, h2Zrd0, h3Zrd0, h4Zrd0, tt0, by (try dsimp only); omega, by (try dsimp only); omega, by (try dsimp only); omega, by (try dsimp only); omega⟩
                  refine wb eq26 ?_
                  have e263 := (Zfr.gr fq26 t_a0 (by decide)).trans h0Zrd0
                  have e264 := (Zfr.gi fq26 tt0 (by decide)).trans h1Zrd0
                  have e265 := (Zfr.gi fq26 t_a0 (by decide)).trans h2Zrd0
                  have e266 := (Zfr.gi fq26 t_a0 (by decide)).trans h4Zrd0
                  have F267 := Zfr.tr F0 fq26 (by decide)
                  obtain ⟨btq26, bgq26, bsq26, bfaq26, bslq26, h0Zrfq26, h1Zrfq26, h2Zrfq26, h3Zrfq26, h4Zrfq26, ttq26, r0Zrfq26, r1Zrfq26, r2Zrfq26, r3Zrfq26, r4Zrfq26⟩ := pbZrfq26
                  unfold f_Reader_takeItem_146
                  exact ⟨_, rfl, Wq26, F267, ⟨btq26, bgq26, bsq26, bfaq26, bslq26, h0Zrfq26, h1Zrfq26, h2Zrfq26, h3Zrfq26, h4Zrfq26, ttq26, by (try dsimp only); omega, by (try dsimp only); omega, by (try dsimp only); omega, by (try dsimp only); omega, by (try dsimp only); omega⟩⟩
                · have hq257 := i_ne hq257
                  exact J104
              · have := li_1
                have := li_0
                have hq256 := i_ne hq256
                exact J104

abbrev M_Reader_takeLimit : List (Nat × Nat) := [(3, 18), (6, 0), (6, 8), (6, 9)]
set_option maxRecDepth 100000 in
set_option maxHeartbeats 400000 in
theorem p_Reader_takeLimit {nf : Nat} (hn : 8589934592 ≤ nf) {G : List Nat} {c : Zc} (W : Zwt zty G c) {a0 : Nat} {a1 : Int32}  (t_a0 : G[a0]? = some 6) (pl_a1 : 0 ≤ a1.toInt) (pu_a1 : a1.toInt ≤ 9999) (hb_Zrt : Zrt G c a0) : ∃ q, f_Reader_takeLimit nf a0 a1 c = some q ∧ Zwt zty G q ∧ Zfr G M_Reader_takeLimit c q ∧ Zrt G q a0 := by
  have F0 : Zfr G M_Reader_takeLimit c c := Zfr.rf
  unfold f_Reader_takeLimit
  obtain ⟨bt0, bg0, bs0, bfa0, bsl0, h0Zrt0, h1Zrt0, h2Zrt0, h3Zrt0, h4Zrt0, tt0, r0Zrt0, r1Zrt0, r2Zrt0, r3Zrt0, r4Zrt0⟩ := hb_Zrt
  refine wi (fun hq1 => ?_) (fun hq1 => ?_)
  · have := li_0
    have hq1 := i_eq hq1
    obtain ⟨w6, ew6⟩ := go_6 W t_a0
    refine wb ew6 ?_
    have := li_6
    obtain ⟨q5, eq5, Wq5, fq5, pbZrfq5⟩ := p_Reader_fail hn W (a1 := 6) t_a0 (by omega) (by omega) ⟨bt0, bg0, bs0, bfa0, bsl0, h0Zrt0, h1Zrt0, h2Zrt0, h3Zrt0, h4Zrt0, tt0, by (try dsimp only); omega, by (try dsimp only); omega, by (try dsimp only); omega, by (try dsimp only); omega⟩
    refine wb eq5 ?_
    have e7 := (Zfr.gr fq5 t_a0 (by decide)).trans h0Zrt0
    have e8 := (Zfr.gi fq5 tt0 (by decide)).trans h1Zrt0
    have e9 := (Zfr.gi fq5 t_a0 (by decide)).trans h2Zrt0
    have e10 := (Zfr.gi fq5 t_a0 (by decide)).trans h4Zrt0
    have F11 := Zfr.tr F0 fq5 (by decide)
    obtain ⟨btq5, bgq5, bsq5, bfaq5, bslq5, h0Zrfq5, h1Zrfq5, h2Zrfq5, h3Zrfq5, h4Zrfq5, ttq5, r0Zrfq5, r1Zrfq5, r2Zrfq5, r3Zrfq5, r4Zrfq5⟩ := pbZrfq5
    unfold f_Reader_takeLimit_10
    refine wb h0Zrfq5 ?_
    obtain ⟨c3, ec3, Wc3, fc3, gc3⟩ := pf_3_18 Wq5 ttq5 (x := a1) (rgi (by omega) (by omega))
    refine wb ec3 ?_
    have e12 := (Zfr.gr fc3 t_a0 (by decide)).trans h0Zrfq5
    have e13 := (Zfr.gi fc3 tt0 (by decide)).trans e8
    have e14 := (Zfr.gi fc3 t_a0 (by decide)).trans h2Zrfq5
    have e15 := (Zfr.gi fc3 t_a0 (by decide)).trans h4Zrfq5
    have e16 := (Zfr.gi fc3 ttq5 (by decide)).trans h1Zrfq5
    have e17 := (Zfr.gi fc3 t_a0 (by decide)).trans h3Zrfq5
    have F18 := Zfr.tr F11 fc3 (by decide)
    obtain ⟨c4, ec4, Wc4, fc4, gc4⟩ := pf_6_8 Wc3 t_a0 (x := 28) (trivial)
    refine wb ec4 ?_
    have e19 := (Zfr.gr fc4 t_a0 (by decide)).trans e12
    have e20 := (Zfr.gi fc4 tt0 (by decide)).trans e13
    have e21 := (Zfr.gi fc4 t_a0 (by decide)).trans e15
    have e22 := (Zfr.gi fc4 ttq5 (by decide)).trans e16
    have e23 := (Zfr.gi fc4 t_a0 (by decide)).trans e17
    have F24 := Zfr.tr F18 fc4 (by decide)
    have := li_28
    exact ⟨_, rfl, Wc4, F24, ⟨btq5, bgq5, (28 : Int32), bfaq5, bslq5, e19, e22, gc4, e23, e21, ttq5, by (try dsimp only); omega, by (try dsimp only); omega, by (try dsimp only); omega, by (try dsimp only); omega, by (try dsimp only); omega⟩⟩
  · have := li_0
    have hq1 := i_ne hq1
    unfold f_Reader_takeLimit_10
    refine wb h0Zrt0 ?_
    obtain ⟨c3, ec3, Wc3, fc3, gc3⟩ := pf_3_18 W tt0 (x := a1) (rgi (by omega) (by omega))
    refine wb ec3 ?_
    have e30 := (Zfr.gr fc3 t_a0 (by decide)).trans h0Zrt0
    have e31 := (Zfr.gi fc3 tt0 (by decide)).trans h1Zrt0
    have e32 := (Zfr.gi fc3 t_a0 (by decide)).trans h2Zrt0
    have e33 := (Zfr.gi fc3 t_a0 (by decide)).trans h3Zrt0
    have e34 := (Zfr.gi fc3 t_a0 (by decide)).trans h4Zrt0
    have F35 := Zfr.tr F0 fc3 (by decide)
    obtain ⟨c4, ec4, Wc4, fc4, gc4⟩ := pf_6_8 Wc3 t_a0 (x := 28) (trivial)
    refine wb ec4 ?_
    have e36 := (Zfr.gr fc4 t_a0 (by decide)).trans e30
    have e37 := (Zfr.gi fc4 tt0 (by decide)).trans e31
    have e38 := (Zfr.gi fc4 t_a0 (by decide)).trans e33
    have e39 := (Zfr.gi fc4 t_a0 (by decide)).trans e34
    have F40 := Zfr.tr F35 fc4 (by decide)
    have := li_28
    exact ⟨_, rfl, Wc4, F40, ⟨bt0, bg0, (28 : Int32), bfa0, bsl0, e36, e37, gc4, e38, e39, tt0, by (try dsimp only); omega, by (try dsimp only); omega, by (try dsimp only); omega, by (try dsimp only); omega, by (try dsimp only); omega⟩⟩

abbrev M_Reader_givenSlot : List (Nat × Nat) := [(3, 12), (6, 0), (6, 9), (6, 16), (35, 0)]
set_option maxRecDepth 100000 in
set_option maxHeartbeats 400000 in
theorem p_Reader_givenSlot {nf : Nat} (hn : 8589934592 ≤ nf) {G : List Nat} {c : Zc} (W : Zwt zty G c) {a0 : Nat} {a1 : Int32}  (t_a0 : G[a0]? = some 6) (pl_a1 : 0 ≤ a1.toInt) (pu_a1 : a1.toInt ≤ 65) (hb_Zrt : Zrt G c a0) : ∃ q, f_Reader_givenSlot nf a0 a1 c = some q ∧ Zwt zty G q.2 ∧ Zfr G M_Reader_givenSlot c q.2 ∧ 0 ≤ q.1.toInt ∧ q.1.toInt ≤ 7 ∧ Zrt G q.2 a0 := by
  have F0 : Zfr G M_Reader_givenSlot c c := Zfr.rf
  unfold f_Reader_givenSlot
  obtain ⟨bt0, bg0, bs0, bfa0, bsl0, h0Zrt0, h1Zrt0, h2Zrt0, h3Zrt0, h4Zrt0, tt0, r0Zrt0, r1Zrt0, r2Zrt0, r3Zrt0, r4Zrt0⟩ := hb_Zrt
  obtain ⟨w2, ew2⟩ := go_6 W t_a0
  refine wb ew2 ?_
  obtain ⟨q1, eq1, Wq1, fq1, pbZrsq1⟩ := p_Reader_findVariable hn W (a1 := a1) t_a0 (by omega) (by omega) ⟨bt0, bg0, bs0, bfa0, bsl0, h0Zrt0, h1Zrt0, h2Zrt0, h3Zrt0, h4Zrt0, tt0, by (try dsimp only); omega, by (try dsimp only); omega, by (try dsimp only); omega, by (try dsimp only); omega, by (try dsimp only); omega⟩
  refine wb eq1 ?_
  have e6 := (Zfr.gr fq1 t_a0 (by decide)).trans h0Zrt0
  have e7 := (Zfr.gi fq1 tt0 (by decide)).trans h1Zrt0
  have e8 := (Zfr.gi fq1 t_a0 (by decide)).trans h2Zrt0
  have F9 := Zfr.tr F0 fq1 (by decide)
  obtain ⟨btq1, bgq1, bsq1, bfaq1, bslq1, h0Zrsq1, h1Zrsq1, h2Zrsq1, h3Zrsq1, h4Zrsq1, ttq1, r0Zrsq1, r1Zrsq1, r2Zrsq1, r3Zrsq1, r4Zrsq1⟩ := pbZrsq1
  refine wb h3Zrsq1 ?_
  refine wi (fun hq10 => ?_) (fun hq10 => ?_)
  · have := li_0
    have := i_ge bfaq1
    have := i_up bfaq1
    have hq10 := i_eq hq10
    obtain ⟨v8, ev8, _⟩ := gf_6_12 Wq1 t_a0
    refine wb ev8 ?_
    refine wb h4Zrsq1 ?_
    refine wi (fun hq11 => ?_) (fun hq11 => ?_)
    · have := li_1
      have := i_andr (a := (v8 >>> (bslq1 &&& 31))) (b := 1) (by omega)
      have hq11 := i_eq hq11
      unfold f_Reader_givenSlot_31
      refine wb h3Zrsq1 ?_
      refine wi (fun hq12 => ?_) (fun hq12 => ?_)
      · have hq12 := i_eq hq12
        refine wb h4Zrsq1 ?_
        unfold f_Reader_givenSlot_46
        exact ⟨_, rfl, Wq1, F9, by (try dsimp only); omega, by (try dsimp only); omega, ⟨btq1, bgq1, bsq1, bfaq1, bslq1, h0Zrsq1, h1Zrsq1, h2Zrsq1, h3Zrsq1, h4Zrsq1, ttq1, by (try dsimp only); omega, by (try dsimp only); omega, by (try dsimp only); omega, by (try dsimp only); omega, by (try dsimp only); omega⟩⟩
      · have hq12 := i_ne hq12
        exfalso
        omega
    · have := li_1
      have := i_andr (a := (v8 >>> (bslq1 &&& 31))) (b := 1) (by omega)
      have hq11 := i_ne hq11
      obtain ⟨w12, ew12⟩ := go_6 Wq1 t_a0
      refine wb ew12 ?_
      have := li_5
      obtain ⟨q11, eq11, Wq11, fq11, pbZrfq11⟩ := p_Reader_fail hn Wq1 (a1 := 5) t_a0 (by omega) (by omega) ⟨btq1, bgq1, bsq1, bfaq1, bslq1, h0Zrsq1, h1Zrsq1, h2Zrsq1, h3Zrsq1, h4Zrsq1, ttq1, by (try dsimp only); omega, by (try dsimp only); omega, by (try dsimp only); omega, by (try dsimp only); omega⟩
      refine wb eq11 ?_
      have e23 := (Zfr.gr fq11 t_a0 (by decide)).trans h0Zrsq1
      have e24 := (Zfr.gi fq11 tt0 (by decide)).trans e7
      have e25 := (Zfr.gi fq11 t_a0 (by decide)).trans h2Zrsq1
      have e26 := (Zfr.gi fq11 ttq1 (by decide)).trans h1Zrsq1
      have e27 := (Zfr.gi fq11 t_a0 (by decide)).trans h4Zrsq1
      have F28 := Zfr.tr F9 fq11 (by decide)
      obtain ⟨btq11, bgq11, bsq11, bfaq11, bslq11, h0Zrfq11, h1Zrfq11, h2Zrfq11, h3Zrfq11, h4Zrfq11, ttq11, r0Zrfq11, r1Zrfq11, r2Zrfq11, r3Zrfq11, r4Zrfq11⟩ := pbZrfq11
      unfold f_Reader_givenSlot_31
      refine wb h3Zrfq11 ?_
      refine wi (fun hq29 => ?_) (fun hq29 => ?_)
      · have := i_ge bfaq11
        have := i_up bfaq11
        have hq29 := i_eq hq29
        refine wb h4Zrfq11 ?_
        unfold f_Reader_givenSlot_46
        exact ⟨_, rfl, Wq11, F28, by (try dsimp only); omega, by (try dsimp only); omega, ⟨btq11, bgq11, bsq11, bfaq11, bslq11, h0Zrfq11, h1Zrfq11, h2Zrfq11, h3Zrfq11, h4Zrfq11, ttq11, by (try dsimp only); omega, by (try dsimp only); omega, by (try dsimp only); omega, by (try dsimp only); omega, by (try dsimp only); omega⟩⟩
      · have := i_ge bfaq11
        have := i_up bfaq11
        have hq29 := i_ne hq29
        unfold f_Reader_givenSlot_46
        exact ⟨_, rfl, Wq11, F28, by (try dsimp only); omega, by (try dsimp only); omega, ⟨btq11, bgq11, bsq11, bfaq11, bslq11, h0Zrfq11, h1Zrfq11, h2Zrfq11, h3Zrfq11, h4Zrfq11, ttq11, by (try dsimp only); omega, by (try dsimp only); omega, by (try dsimp only); omega, by (try dsimp only); omega, by (try dsimp only); omega⟩⟩
  · have := li_0
    have := i_ge bfaq1
    have := i_up bfaq1
    have hq10 := i_ne hq10
    unfold f_Reader_givenSlot_31
    refine wb h3Zrsq1 ?_
    refine wi (fun hq40 => ?_) (fun hq40 => ?_)
    · have hq40 := i_eq hq40
      refine wb h4Zrsq1 ?_
      unfold f_Reader_givenSlot_46
      exact ⟨_, rfl, Wq1, F9, by (try dsimp only); omega, by (try dsimp only); omega, ⟨btq1, bgq1, bsq1, bfaq1, bslq1, h0Zrsq1, h1Zrsq1, h2Zrsq1, h3Zrsq1, h4Zrsq1, ttq1, by (try dsimp only); omega, by (try dsimp only); omega, by (try dsimp only); omega, by (try dsimp only); omega, by (try dsimp only); omega⟩⟩
    · have hq40 := i_ne hq40
      unfold f_Reader_givenSlot_46
      exact ⟨_, rfl, Wq1, F9, by (try dsimp only); omega, by (try dsimp only); omega, ⟨btq1, bgq1, bsq1, bfaq1, bslq1, h0Zrsq1, h1Zrsq1, h2Zrsq1, h3Zrsq1, h4Zrsq1, ttq1, by (try dsimp only); omega, by (try dsimp only); omega, by (try dsimp only); omega, by (try dsimp only); omega, by (try dsimp only); omega⟩⟩

abbrev M_Reader_takeTail : List (Nat × Nat) := [(3, 12), (3, 18), (3, 19), (3, 20), (6, 0), (6, 8), (6, 9), (6, 16), (35, 0)]
set_option maxRecDepth 100000 in
set_option maxHeartbeats 400000 in
theorem p_Reader_takeTail {nf : Nat} (hn : 8589934592 ≤ nf) {G : List Nat} {c : Zc} (W : Zwt zty G c) {a0 : Nat} {a1 : Int32}  (t_a0 : G[a0]? = some 6) (hb_Zrd : Zrd G c a0 a1) : ∃ q, f_Reader_takeTail nf a0 a1 c = some q ∧ Zwt zty G q ∧ Zfr G M_Reader_takeTail c q ∧ Zrt G q a0 := by
  have F0 : Zfr G M_Reader_takeTail c c := Zfr.rf
  unfold f_Reader_takeTail
  obtain ⟨bt0, bg0, bs0, bfa0, bsl0, btk0, bat_0, bvl0, bv0, h0Zrd0, h1Zrd0, h2Zrd0, h3Zrd0, h4Zrd0, h5Zrd0, h6Zrd0, h7Zrd0, h8Zrd0, tt0, ttk0, tvl0, r0Zrd0, r1Zrd0, r2Zrd0, r3Zrd0, r4Zrd0, r5Zrd0, r6Zrd0, r7Zrd0, r8Zrd0, r9Zrd0, r10Zrd0⟩ := hb_Zrd
  have J1 : ∃ q, f_Reader_takeTail_226 nf c = some q ∧ Zwt zty G q ∧ Zfr G M_Reader_takeTail c q ∧ Zrt G q a0 := by
    unfold f_Reader_takeTail_226
    exact ⟨_, rfl, W, F0, ⟨bt0, bg0, bs0, bfa0, bsl0, h0Zrd0, h1Zrd0, h2Zrd0, h3Zrd0, h4Zrd0, tt0, by (try dsimp only); omega, by (try dsimp only); omega, by (try dsimp only); omega, by (try dsimp only); omega, by (try dsimp only); omega⟩⟩
  have J7 : ∃ q, f_Reader_takeTail_221 nf a0 c = some q ∧ Zwt zty G q ∧ Zfr G M_Reader_takeTail c q ∧ Zrt G q a0 := by
    unfold f_Reader_takeTail_221
    obtain ⟨w15, ew15⟩ := go_6 W t_a0
    refine wb ew15 ?_
    have := li_2
    obtain ⟨q14, eq14, Wq14, fq14, pbZrfq14⟩ := p_Reader_fail hn W (a1 := 2) t_a0 (by omega) (by omega) ⟨bt0, bg0, bs0, bfa0, bsl0, h0Zrd0, h1Zrd0, h2Zrd0, h3Zrd0, h4Zrd0, tt0, by (try dsimp only); omega, by (try dsimp only); omega, by (try dsimp only); omega, by (try dsimp only); omega⟩
    refine wb eq14 ?_
    have e13 := (Zfr.gr fq14 t_a0 (by decide)).trans h0Zrd0
    have e14 := (Zfr.gi fq14 tt0 (by decide)).trans h1Zrd0
    have e15 := (Zfr.gi fq14 t_a0 (by decide)).trans h2Zrd0
    have e16 := (Zfr.gi fq14 t_a0 (by decide)).trans h4Zrd0
    have F17 := Zfr.tr F0 fq14 (by decide)
    obtain ⟨btq14, bgq14, bsq14, bfaq14, bslq14, h0Zrfq14, h1Zrfq14, h2Zrfq14, h3Zrfq14, h4Zrfq14, ttq14, r0Zrfq14, r1Zrfq14, r2Zrfq14, r3Zrfq14, r4Zrfq14⟩ := pbZrfq14
    unfold f_Reader_takeTail_226
    exact ⟨_, rfl, Wq14, F17, ⟨btq14, bgq14, bsq14, bfaq14, bslq14, h0Zrfq14, h1Zrfq14, h2Zrfq14, h3Zrfq14, h4Zrfq14, ttq14, by (try dsimp only); omega, by (try dsimp only); omega, by (try dsimp only); omega, by (try dsimp only); omega, by (try dsimp only); omega⟩⟩
  have J23 : ∃ q, f_Reader_takeTail_198 nf a0 a1 c = some q ∧ Zwt zty G q ∧ Zfr G M_Reader_takeTail c q ∧ Zrt G q a0 := by
    unfold f_Reader_takeTail_198
    refine wi (fun hq24 => ?_) (fun hq24 => ?_)
    · have := li_1
      have := i_ge a1
      have := i_up a1
      have hq24 := i_eq hq24
      refine wb h2Zrd0 ?_
      refine wi (fun hq25 => ?_) (fun hq25 => ?_)
      · have := li_23
        have := i_ge bs0
        have := i_up bs0
        have hq25 := i_eq hq25
        exact J1
      · have := li_23
        have := i_ge bs0
        have := i_up bs0
        have hq25 := i_ne hq25
        refine wb h2Zrd0 ?_
        refine wi (fun hq26 => ?_) (fun hq26 => ?_)
        · have := li_28
          have hq26 := i_eq hq26
          exact J1
        · have := li_28
          have hq26 := i_ne hq26
          exact J7
    · have := li_1
      have := i_ge a1
      have := i_up a1
      have hq24 := i_ne hq24
      exact J7
  have J27 : ∃ q, f_Reader_takeTail_152 nf a0 a1 c = some q ∧ Zwt zty G q ∧ Zfr G M_Reader_takeTail c q ∧ Zrt G q a0 := by
    unfold f_Reader_takeTail_152
    refine wb h2Zrd0 ?_
    refine wi (fun hq28 => ?_) (fun hq28 => ?_)
    · have := li_27
      have := i_ge bs0
      have := i_up bs0
      have hq28 := i_eq hq28
      refine wi (fun hq29 => ?_) (fun hq29 => ?_)
      · have := li_2
        have := i_ge a1
        have := i_up a1
        have hq29 := i_eq hq29
        have := tkr2 r10Zrd0 (by omega)
        refine wb h0Zrd0 ?_
        refine wb h5Zrd0 ?_
        refine wb h7Zrd0 ?_
        refine wb h6Zrd0 ?_
        refine wb h8Zrd0 ?_
        obtain ⟨w27, ew27⟩ := go_6 W t_a0
        refine wb ew27 ?_
        obtain ⟨q26, eq26, Wq26, fq26, pl0q26, pu0q26, pbZrtq26⟩ := p_Reader_givenSlot hn W (a1 := bv0) t_a0 (by omega) (by omega) ⟨bt0, bg0, bs0, bfa0, bsl0, h0Zrd0, h1Zrd0, h2Zrd0, h3Zrd0, h4Zrd0, tt0, by (try dsimp only); omega, by (try dsimp only); omega, by (try dsimp only); omega, by (try dsimp only); omega, by (try dsimp only); omega⟩
        refine wb eq26 ?_
        have e35 := (Zfr.gr fq26 t_a0 (by decide)).trans h0Zrd0
        have e36 := (Zfr.gi fq26 tt0 (by decide)).trans h1Zrd0
        have e37 := (Zfr.gi fq26 t_a0 (by decide)).trans h2Zrd0
        have F38 := Zfr.tr F0 fq26 (by decide)
        obtain ⟨btq26, bgq26, bsq26, bfaq26, bslq26, h0Zrtq26, h1Zrtq26, h2Zrtq26, h3Zrtq26, h4Zrtq26, ttq26, r0Zrtq26, r1Zrtq26, r2Zrtq26, r3Zrtq26, r4Zrtq26⟩ := pbZrtq26
        obtain ⟨c28, ec28, Wc28, fc28, gc28⟩ := pf_3_20 Wq26 tt0 (x := q26.1) (rgi (by omega) (by omega))
        refine wb ec28 ?_
        have e39 := (Zfr.gr fc28 t_a0 (by decide)).trans h0Zrtq26
        have e40 := (Zfr.gi fc28 tt0 (by decide)).trans e36
        have e41 := (Zfr.gi fc28 t_a0 (by decide)).trans h2Zrtq26
        have e42 := (Zfr.gi fc28 ttq26 (by decide)).trans h1Zrtq26
        have e43 := (Zfr.gi fc28 t_a0 (by decide)).trans h3Zrtq26
        have e44 := (Zfr.gi fc28 t_a0 (by decide)).trans h4Zrtq26
        have F45 := Zfr.tr F38 fc28 (by decide)
        obtain ⟨c29, ec29, Wc29, fc29, gc29⟩ := pf_6_8 Wc28 t_a0 (x := 28) (trivial)
        refine wb ec29 ?_
        have e46 := (Zfr.gr fc29 t_a0 (by decide)).trans e39
        have e47 := (Zfr.gi fc29 tt0 (by decide)).trans e40
        have e48 := (Zfr.gi fc29 ttq26 (by decide)).trans e42
        have e49 := (Zfr.gi fc29 t_a0 (by decide)).trans e43
        have e50 := (Zfr.gi fc29 t_a0 (by decide)).trans e44
        have F51 := Zfr.tr F45 fc29 (by decide)
        unfold f_Reader_takeTail_226
        have := li_28
        exact ⟨_, rfl, Wc29, F51, ⟨btq26, bgq26, (28 : Int32), bfaq26, bslq26, e46, e48, gc29, e49, e50, ttq26, by (try dsimp only); omega, by (try dsimp only); omega, by (try dsimp only); omega, by (try dsimp only); omega, by (try dsimp only); omega⟩⟩
      · have := li_2
        have := i_ge a1
        have := i_up a1
        have hq29 := i_ne hq29
        exact J23
    · have := li_27
      have := i_ge bs0
      have := i_up bs0
      have hq28 := i_ne hq28
      exact J23
  have J57 : ∃ q, f_Reader_takeTail_128 nf a0 a1 c = some q ∧ Zwt zty G q ∧ Zfr G M_Reader_takeTail c q ∧ Zrt G q a0 := by
    unfold f_Reader_takeTail_128
    refine wb h2Zrd0 ?_
    refine wi (fun hq58 => ?_) (fun hq58 => ?_)
    · have := li_26
      have := i_ge bs0
      have := i_up bs0
      have hq58 := i_eq hq58
      refine wi (fun hq59 => ?_) (fun hq59 => ?_)
      · have := li_44
        have := i_ge a1
        have := i_up a1
        have hq59 := i_eq hq59
        obtain ⟨c31, ec31, Wc31, fc31, gc31⟩ := pf_6_8 W t_a0 (x := 27) (trivial)
        refine wb ec31 ?_
        have e60 := (Zfr.gr fc31 t_a0 (by decide)).trans h0Zrd0
        have e61 := (Zfr.gi fc31 tt0 (by decide)).trans h1Zrd0
        have e62 := (Zfr.gi fc31 t_a0 (by decide)).trans h3Zrd0
        have e63 := (Zfr.gi fc31 t_a0 (by decide)).trans h4Zrd0
        have F64 := Zfr.tr F0 fc31 (by decide)
        unfold f_Reader_takeTail_226
        have := li_27
        exact ⟨_, rfl, Wc31, F64, ⟨bt0, bg0, (27 : Int32), bfa0, bsl0, e60, e61, gc31, e62, e63, tt0, by (try dsimp only); omega, by (try dsimp only); omega, by (try dsimp only); omega, by (try dsimp only); omega, by (try dsimp only); omega⟩⟩
      · have := li_44
        have := i_ge a1
        have := i_up a1
        have hq59 := i_ne hq59
        exact J27
    · have := li_26
      have := i_ge bs0
      have := i_up bs0
      have hq58 := i_ne hq58
      exact J27
  have J70 : ∃ q, f_Reader_takeTail_82 nf a0 a1 c = some q ∧ Zwt zty G q ∧ Zfr G M_Reader_takeTail c q ∧ Zrt G q a0 := by
    unfold f_Reader_takeTail_82
    refine wb h2Zrd0 ?_
    refine wi (fun hq71 => ?_) (fun hq71 => ?_)
    · have := li_25
      have := i_ge bs0
      have := i_up bs0
      have hq71 := i_eq hq71
      refine wi (fun hq72 => ?_) (fun hq72 => ?_)
      · have := li_2
        have := i_ge a1
        have := i_up a1
        have hq72 := i_eq hq72
        have := tkr2 r10Zrd0 (by omega)
        refine wb h0Zrd0 ?_
        refine wb h5Zrd0 ?_
        refine wb h7Zrd0 ?_
        refine wb h6Zrd0 ?_
        refine wb h8Zrd0 ?_
        obtain ⟨w39, ew39⟩ := go_6 W t_a0
        refine wb ew39 ?_
        obtain ⟨q38, eq38, Wq38, fq38, pl0q38, pu0q38, pbZrtq38⟩ := p_Reader_givenSlot hn W (a1 := bv0) t_a0 (by omega) (by omega) ⟨bt0, bg0, bs0, bfa0, bsl0, h0Zrd0, h1Zrd0, h2Zrd0, h3Zrd0, h4Zrd0, tt0, by (try dsimp only); omega, by (try dsimp only); omega, by (try dsimp only); omega, by (try dsimp only); omega, by (try dsimp only); omega⟩
        refine wb eq38 ?_
        have e78 := (Zfr.gr fq38 t_a0 (by decide)).trans h0Zrd0
        have e79 := (Zfr.gi fq38 tt0 (by decide)).trans h1Zrd0
        have e80 := (Zfr.gi fq38 t_a0 (by decide)).trans h2Zrd0
        have F81 := Zfr.tr F0 fq38 (by decide)
        obtain ⟨btq38, bgq38, bsq38, bfaq38, bslq38, h0Zrtq38, h1Zrtq38, h2Zrtq38, h3Zrtq38, h4Zrtq38, ttq38, r0Zrtq38, r1Zrtq38, r2Zrtq38, r3Zrtq38, r4Zrtq38⟩ := pbZrtq38
        obtain ⟨c40, ec40, Wc40, fc40, gc40⟩ := pf_3_19 Wq38 tt0 (x := q38.1) (rgi (by omega) (by omega))
        refine wb ec40 ?_
        have e82 := (Zfr.gr fc40 t_a0 (by decide)).trans h0Zrtq38
        have e83 := (Zfr.gi fc40 tt0 (by decide)).trans e79
        have e84 := (Zfr.gi fc40 t_a0 (by decide)).trans h2Zrtq38
        have e85 := (Zfr.gi fc40 ttq38 (by decide)).trans h1Zrtq38
        have e86 := (Zfr.gi fc40 t_a0 (by decide)).trans h3Zrtq38
        have e87 := (Zfr.gi fc40 t_a0 (by decide)).trans h4Zrtq38
        have F88 := Zfr.tr F81 fc40 (by decide)
        obtain ⟨c41, ec41, Wc41, fc41, gc41⟩ := pf_6_8 Wc40 t_a0 (x := 26) (trivial)
        refine wb ec41 ?_
        have e89 := (Zfr.gr fc41 t_a0 (by decide)).trans e82
        have e90 := (Zfr.gi fc41 tt0 (by decide)).trans e83
        have e91 := (Zfr.gi fc41 ttq38 (by decide)).trans e85
        have e92 := (Zfr.gi fc41 t_a0 (by decide)).trans e86
        have e93 := (Zfr.gi fc41 t_a0 (by decide)).trans e87
        have F94 := Zfr.tr F88 fc41 (by decide)
        unfold f_Reader_takeTail_226
        have := li_26
        exact ⟨_, rfl, Wc41, F94, ⟨btq38, bgq38, (26 : Int32), bfaq38, bslq38, e89, e91, gc41, e92, e93, ttq38, by (try dsimp only); omega, by (try dsimp only); omega, by (try dsimp only); omega, by (try dsimp only); omega, by (try dsimp only); omega⟩⟩
      · have := li_2
        have := i_ge a1
        have := i_up a1
        have hq72 := i_ne hq72
        exact J57
    · have := li_25
      have := i_ge bs0
      have := i_up bs0
      have hq71 := i_ne hq71
      exact J57
  have J100 : ∃ q, f_Reader_takeTail_48 nf a0 a1 c = some q ∧ Zwt zty G q ∧ Zfr G M_Reader_takeTail c q ∧ Zrt G q a0 := by
    unfold f_Reader_takeTail_48
    refine wb h2Zrd0 ?_
    refine wi (fun hq101 => ?_) (fun hq101 => ?_)
    · have := li_24
      have := i_ge bs0
      have := i_up bs0
      have hq101 := i_eq hq101
      refine wi (fun hq102 => ?_) (fun hq102 => ?_)
      · have := li_6
        have := i_ge a1
        have := i_up a1
        have hq102 := i_eq hq102
        have := tkr6 r10Zrd0 (by omega)
        refine wb h5Zrd0 ?_
        refine wb h7Zrd0 ?_
        refine wb h6Zrd0 ?_
        refine wb h8Zrd0 ?_
        obtain ⟨w48, ew48⟩ := go_6 W t_a0
        refine wb ew48 ?_
        obtain ⟨q47, eq47, Wq47, fq47, pbZrtq47⟩ := p_Reader_takeLimit hn W (a1 := bv0) t_a0 (by omega) (by omega) ⟨bt0, bg0, bs0, bfa0, bsl0, h0Zrd0, h1Zrd0, h2Zrd0, h3Zrd0, h4Zrd0, tt0, by (try dsimp only); omega, by (try dsimp only); omega, by (try dsimp only); omega, by (try dsimp only); omega, by (try dsimp only); omega⟩
        refine wb eq47 ?_
        have e108 := (Zfr.gr fq47 t_a0 (by decide)).trans h0Zrd0
        have e109 := (Zfr.gi fq47 tt0 (by decide)).trans h1Zrd0
        have e110 := (Zfr.gi fq47 t_a0 (by decide)).trans h4Zrd0
        have F111 := Zfr.tr F0 fq47 (by decide)
        obtain ⟨btq47, bgq47, bsq47, bfaq47, bslq47, h0Zrtq47, h1Zrtq47, h2Zrtq47, h3Zrtq47, h4Zrtq47, ttq47, r0Zrtq47, r1Zrtq47, r2Zrtq47, r3Zrtq47, r4Zrtq47⟩ := pbZrtq47
        unfold f_Reader_takeTail_226
        exact ⟨_, rfl, Wq47, F111, ⟨btq47, bgq47, bsq47, bfaq47, bslq47, h0Zrtq47, h1Zrtq47, h2Zrtq47, h3Zrtq47, h4Zrtq47, ttq47, by (try dsimp only); omega, by (try dsimp only); omega, by (try dsimp only); omega, by (try dsimp only); omega, by (try dsimp only); omega⟩⟩
      · have := li_6
        have := i_ge a1
        have := i_up a1
        have hq102 := i_ne hq102
        exact J70
    · have := li_24
      have := i_ge bs0
      have := i_up bs0
      have hq101 := i_ne hq101
      exact J70
  have J117 : ∃ q, f_Reader_takeTail_24 nf a0 a1 c = some q ∧ Zwt zty G q ∧ Zfr G M_Reader_takeTail c q ∧ Zrt G q a0 := by
    unfold f_Reader_takeTail_24
    refine wb h2Zrd0 ?_
    refine wi (fun hq118 => ?_) (fun hq118 => ?_)
    · have := li_23
      have := i_ge bs0
      have := i_up bs0
      have hq118 := i_eq hq118
      refine wi (fun hq119 => ?_) (fun hq119 => ?_)
      · have := li_13
        have := i_ge a1
        have := i_up a1
        have hq119 := i_eq hq119
        obtain ⟨c50, ec50, Wc50, fc50, gc50⟩ := pf_6_8 W t_a0 (x := 24) (trivial)
        refine wb ec50 ?_
        have e120 := (Zfr.gr fc50 t_a0 (by decide)).trans h0Zrd0
        have e121 := (Zfr.gi fc50 tt0 (by decide)).trans h1Zrd0
        have e122 := (Zfr.gi fc50 t_a0 (by decide)).trans h3Zrd0
        have e123 := (Zfr.gi fc50 t_a0 (by decide)).trans h4Zrd0
        have F124 := Zfr.tr F0 fc50 (by decide)
        unfold f_Reader_takeTail_226
        have := li_24
        exact ⟨_, rfl, Wc50, F124, ⟨bt0, bg0, (24 : Int32), bfa0, bsl0, e120, e121, gc50, e122, e123, tt0, by (try dsimp only); omega, by (try dsimp only); omega, by (try dsimp only); omega, by (try dsimp only); omega, by (try dsimp only); omega⟩⟩
      · have := li_13
        have := i_ge a1
        have := i_up a1
        have hq119 := i_ne hq119
        exact J100
    · have := li_23
      have := i_ge bs0
      have := i_up bs0
      have hq118 := i_ne hq118
      exact J100
  refine wb h2Zrd0 ?_
  refine wi (fun hq130 => ?_) (fun hq130 => ?_)
  · have := li_23
    have := i_ge bs0
    have := i_up bs0
    have hq130 := i_eq hq130
    refine wi (fun hq131 => ?_) (fun hq131 => ?_)
    · have := li_44
      have := i_ge a1
      have := i_up a1
      have hq131 := i_eq hq131
      obtain ⟨c52, ec52, Wc52, fc52, gc52⟩ := pf_6_8 W t_a0 (x := 22) (trivial)
      refine wb ec52 ?_
      have e132 := (Zfr.gr fc52 t_a0 (by decide)).trans h0Zrd0
      have e133 := (Zfr.gi fc52 tt0 (by decide)).trans h1Zrd0
      have e134 := (Zfr.gi fc52 t_a0 (by decide)).trans h3Zrd0
      have e135 := (Zfr.gi fc52 t_a0 (by decide)).trans h4Zrd0
      have F136 := Zfr.tr F0 fc52 (by decide)
      unfold f_Reader_takeTail_226
      have := li_22
      exact ⟨_, rfl, Wc52, F136, ⟨bt0, bg0, (22 : Int32), bfa0, bsl0, e132, e133, gc52, e134, e135, tt0, by (try dsimp only); omega, by (try dsimp only); omega, by (try dsimp only); omega, by (try dsimp only); omega, by (try dsimp only); omega⟩⟩
    · have := li_44
      have := i_ge a1
      have := i_up a1
      have hq131 := i_ne hq131
      exact J117
  · have := li_23
    have := i_ge bs0
    have := i_up bs0
    have hq130 := i_ne hq130
    exact J117

end ZzT
