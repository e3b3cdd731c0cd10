section ZzT
abbrev M_Reader_openGive : List (Nat × Nat) := [(3, 14), (6, 8)]
set_option maxRecDepth 100000 in
set_option maxHeartbeats 400000 in
theorem p_Reader_openGive {nf : Nat} (hn : 8589934592 ≤ nf) {G : List Nat} {c : Zc} (W : Zwt zty G c) {a0 : Nat}  (t_a0 : G[a0]? = some 6) (hb_Zrt : Zrt G c a0) : ∃ q, f_Reader_openGive nf a0 c = some q ∧ Zwt zty G q ∧ Zfr G M_Reader_openGive c q ∧ Zrt G q a0 := by
  have F0 : Zfr G M_Reader_openGive c c := Zfr.rf
  unfold f_Reader_openGive
  obtain ⟨bt0, bg0, bs0, bfa0, bsl0, h0Zrt0, h1Zrt0, h2Zrt0, h3Zrt0, h4Zrt0, tt0, r0Zrt0, r1Zrt0, r2Zrt0, r3Zrt0, r4Zrt0⟩ := hb_Zrt
  refine wb h0Zrt0 ?_
  refine wb h0Zrt0 ?_
  obtain ⟨v3, ev3, lv3, uv3⟩ := gf_3_12 W tt0
  refine wb ev3 ?_
  obtain ⟨c4, ec4, Wc4, fc4, gc4⟩ := pf_3_14 W tt0 (x := v3) (rgi (by omega) (by omega))
  refine wb ec4 ?_
  have e1 := (Zfr.gr fc4 t_a0 (by decide)).trans h0Zrt0
  have e2 := (Zfr.gi fc4 tt0 (by decide)).trans h1Zrt0
  have e3 := (Zfr.gi fc4 t_a0 (by decide)).trans h2Zrt0
  have e4 := (Zfr.gi fc4 t_a0 (by decide)).trans h3Zrt0
  have e5 := (Zfr.gi fc4 t_a0 (by decide)).trans h4Zrt0
  have F6 := Zfr.tr F0 fc4 (by decide)
  obtain ⟨v5, ev5, lv5, uv5⟩ := gf_6_6 Wc4 t_a0
  refine wb ev5 ?_
  refine wi (fun hq7 => ?_) (fun hq7 => ?_)
  · have := li_0
    have hq7 := i_eq hq7
    unfold f_Reader_openGive_29
    obtain ⟨c7, ec7, Wc7, fc7, gc7⟩ := pf_6_8 Wc4 t_a0 (x := 22) (trivial)
    refine wb ec7 ?_
    have e8 := (Zfr.gr fc7 t_a0 (by decide)).trans e1
    have e9 := (Zfr.gi fc7 tt0 (by decide)).trans e2
    have e10 := (Zfr.gi fc7 t_a0 (by decide)).trans e4
    have e11 := (Zfr.gi fc7 t_a0 (by decide)).trans e5
    have F12 := Zfr.tr F6 fc7 (by decide)
    have := li_22
    exact ⟨_, rfl, Wc7, F12, ⟨bt0, bg0, (22 : Int32), bfa0, bsl0, e8, e9, gc7, e10, e11, tt0, by (try dsimp only); omega, by (try dsimp only); omega, by (try dsimp only); omega, by (try dsimp only); omega, by (try dsimp only); omega⟩⟩
  · have := li_0
    have hq7 := i_ne hq7
    unfold f_Reader_openGive_29
    obtain ⟨c7, ec7, Wc7, fc7, gc7⟩ := pf_6_8 Wc4 t_a0 (x := 25) (trivial)
    refine wb ec7 ?_
    have e18 := (Zfr.gr fc7 t_a0 (by decide)).trans e1
    have e19 := (Zfr.gi fc7 tt0 (by decide)).trans e2
    have e20 := (Zfr.gi fc7 t_a0 (by decide)).trans e4
    have e21 := (Zfr.gi fc7 t_a0 (by decide)).trans e5
    have F22 := Zfr.tr F6 fc7 (by decide)
    have := li_25
    exact ⟨_, rfl, Wc7, F22, ⟨bt0, bg0, (25 : Int32), bfa0, bsl0, e18, e19, gc7, e20, e21, tt0, by (try dsimp only); omega, by (try dsimp only); omega, by (try dsimp only); omega, by (try dsimp only); omega, by (try dsimp only); omega⟩⟩

abbrev M_Reader_openWay : List (Nat × Nat) := [(2, 2), (2, 3), (2, 4), (2, 5), (2, 9), (2, 10), (2, 17), (3, 3), (6, 0), (6, 5), (6, 8), (6, 9), (6, 15), (24, 0), (25, 0)]
set_option maxRecDepth 100000 in
set_option maxHeartbeats 400000 in
theorem p_Reader_openWay {nf : Nat} (hn : 8589934592 ≤ nf) {G : List Nat} {c : Zc} (W : Zwt zty G c) {a0 : Nat} {a1 : Int32}  (t_a0 : G[a0]? = some 6) (pl_a1 : 0 ≤ a1.toInt) (pu_a1 : a1.toInt ≤ 1) (hb_Zrt : Zrt G c a0) : ∃ q, f_Reader_openWay nf a0 a1 c = some q ∧ Zwt zty G q ∧ Zfr G M_Reader_openWay c q ∧ Zrt G q a0 := by
  have F0 : Zfr G M_Reader_openWay c c := Zfr.rf
  unfold f_Reader_openWay
  obtain ⟨bt0, bg0, bs0, bfa0, bsl0, h0Zrt0, h1Zrt0, h2Zrt0, h3Zrt0, h4Zrt0, tt0, r0Zrt0, r1Zrt0, r2Zrt0, r3Zrt0, r4Zrt0⟩ := hb_Zrt
  refine wb h0Zrt0 ?_
  obtain ⟨v2, ev2, lv2, uv2⟩ := gf_3_3 W tt0
  refine wb ev2 ?_
  refine wi (fun hq1 => ?_) (fun hq1 => ?_)
  · have := li_10
    have hq1 := i_lt hq1
    refine wb h0Zrt0 ?_
    obtain ⟨v5, ev5, tv5⟩ := gf_3_4 W tt0
    refine wb ev5 ?_
    refine wb h0Zrt0 ?_
    refine wb ev2 ?_
    obtain ⟨v8, ev8, tv8⟩ := ga_29 W tv5 (i := v2) (by omega) (by omega)
    refine wb ev8 ?_
    obtain ⟨c9, ec9, Wc9, fc9, gc9⟩ := pf_6_5 W t_a0 tv8 (by decide)
    refine wb ec9 ?_
    have e2 := (Zfr.gr fc9 t_a0 (by decide)).trans h0Zrt0
    have e3 := (Zfr.gi fc9 tt0 (by decide)).trans h1Zrt0
    have e4 := (Zfr.gi fc9 t_a0 (by decide)).trans h2Zrt0
    have e5 := (Zfr.gi fc9 t_a0 (by decide)).trans h3Zrt0
    have e6 := (Zfr.gi fc9 t_a0 (by decide)).trans h4Zrt0
    have e7 := (Zfr.gi fc9 tt0 (by decide)).trans ev2
    have F8 := Zfr.tr F0 fc9 (by decide)
    refine wb gc9 ?_
    obtain ⟨w12, ew12⟩ := go_2 Wc9 tv8
    refine wb ew12 ?_
    obtain ⟨q11, eq11, Wq11, fq11⟩ := p_Way_open hn Wc9 (a1 := a1) tv8 (by omega) (by omega)
    refine wb eq11 ?_
    have e9 := (Zfr.gr fq11 t_a0 (by decide)).trans e2
    have e10 := (Zfr.gi fq11 tt0 (by decide)).trans e3
    have e11 := (Zfr.gi fq11 t_a0 (by decide)).trans e4
    have e12 := (Zfr.gi fq11 t_a0 (by decide)).trans e5
    have e13 := (Zfr.gi fq11 t_a0 (by decide)).trans e6
    have e14 := (Zfr.gi fq11 tt0 (by decide)).trans e7
    have F15 := Zfr.tr F8 fq11 (by decide)
    refine wb e9 ?_
    refine wb e14 ?_
    have := li_1
    have := i_add (a := v2) (b := 1) (by omega) (by omega)
    obtain ⟨c15, ec15, Wc15, fc15, gc15⟩ := pf_3_3 Wq11 tt0 (x := (v2 + 1)) (rgi (by omega) (by omega))
    refine wb ec15 ?_
    have e16 := (Zfr.gr fc15 t_a0 (by decide)).trans e9
    have e17 := (Zfr.gi fc15 tt0 (by decide)).trans e10
    have e18 := (Zfr.gi fc15 t_a0 (by decide)).trans e11
    have e19 := (Zfr.gi fc15 t_a0 (by decide)).trans e12
    have e20 := (Zfr.gi fc15 t_a0 (by decide)).trans e13
    have F21 := Zfr.tr F15 fc15 (by decide)
    refine wb e20 ?_
    obtain ⟨c17, ec17, Wc17, fc17, gc17⟩ := pf_6_15 Wc15 t_a0 (x := bsl0) (rgi (by omega) (by omega))
    refine wb ec17 ?_
    have e22 := (Zfr.gr fc17 t_a0 (by decide)).trans e16
    have e23 := (Zfr.gi fc17 tt0 (by decide)).trans e17
    have e24 := (Zfr.gi fc17 t_a0 (by decide)).trans e18
    have e25 := (Zfr.gi fc17 t_a0 (by decide)).trans e19
    have e26 := (Zfr.gi fc17 t_a0 (by decide)).trans e20
    have F27 := Zfr.tr F21 fc17 (by decide)
    obtain ⟨c18, ec18, Wc18, fc18, gc18⟩ := pf_6_8 Wc17 t_a0 (x := 8) (trivial)
    refine wb ec18 ?_
    have e28 := (Zfr.gr fc18 t_a0 (by decide)).trans e22
    have e29 := (Zfr.gi fc18 tt0 (by decide)).trans e23
    have e30 := (Zfr.gi fc18 t_a0 (by decide)).trans e25
    have e31 := (Zfr.gi fc18 t_a0 (by decide)).trans e26
    have F32 := Zfr.tr F27 fc18 (by decide)
    unfold f_Reader_openWay_74
    have := li_8
    exact ⟨_, rfl, Wc18, F32, ⟨bt0, bg0, (8 : Int32), bfa0, bsl0, e28, e29, gc18, e30, e31, tt0, by (try dsimp only); omega, by (try dsimp only); omega, by (try dsimp only); omega, by (try dsimp only); omega, by (try dsimp only); omega⟩⟩
  · have := li_10
    have hq1 := i_nlt hq1
    obtain ⟨w20, ew20⟩ := go_6 W t_a0
    refine wb ew20 ?_
    have := li_3
    obtain ⟨q19, eq19, Wq19, fq19, pbZrfq19⟩ := p_Reader_fail hn W (a1 := 3) t_a0 (by omega) (by omega) ⟨bt0, bg0, bs0, bfa0, bsl0, h0Zrt0, h1Zrt0, h2Zrt0, h3Zrt0, h4Zrt0, tt0, by (try dsimp only); omega, by (try dsimp only); omega, by (try dsimp only); omega, by (try dsimp only); omega⟩
    refine wb eq19 ?_
    have e43 := (Zfr.gr fq19 t_a0 (by decide)).trans h0Zrt0
    have e44 := (Zfr.gi fq19 tt0 (by decide)).trans h1Zrt0
    have e45 := (Zfr.gi fq19 t_a0 (by decide)).trans h2Zrt0
    have e46 := (Zfr.gi fq19 t_a0 (by decide)).trans h4Zrt0
    have F47 := Zfr.tr F0 fq19 (by decide)
    obtain ⟨btq19, bgq19, bsq19, bfaq19, bslq19, h0Zrfq19, h1Zrfq19, h2Zrfq19, h3Zrfq19, h4Zrfq19, ttq19, r0Zrfq19, r1Zrfq19, r2Zrfq19, r3Zrfq19, r4Zrfq19⟩ := pbZrfq19
    unfold f_Reader_openWay_74
    exact ⟨_, rfl, Wq19, F47, ⟨btq19, bgq19, bsq19, bfaq19, bslq19, h0Zrfq19, h1Zrfq19, h2Zrfq19, h3Zrfq19, h4Zrfq19, ttq19, by (try dsimp only); omega, by (try dsimp only); omega, by (try dsimp only); omega, by (try dsimp only); omega, by (try dsimp only); omega⟩⟩

abbrev M_Reader_takeAfterNode : List (Nat × Nat) := [(2, 2), (2, 3), (2, 4), (2, 5), (2, 9), (2, 10), (2, 17), (3, 3), (3, 12), (3, 14), (5, 0), (5, 4), (6, 0), (6, 5), (6, 8), (6, 9), (6, 11), (6, 13), (6, 15), (6, 19), (24, 0), (25, 0), (35, 0)]
set_option maxRecDepth 100000 in
set_option maxHeartbeats 400000 in
theorem p_Reader_takeAfterNode {nf : Nat} (hn : 8589934592 ≤ nf) {G : List Nat} {c : Zc} (W : Zwt zty G c) {a0 : Nat} {a1 : Int32}  (t_a0 : G[a0]? = some 6) (hb_Zrd : Zrd G c a0 a1) : ∃ q, f_Reader_takeAfterNode nf a0 a1 c = some q ∧ Zwt zty G q ∧ Zfr G M_Reader_takeAfterNode c q ∧ Zrt G q a0 := by
  have F0 : Zfr G M_Reader_takeAfterNode c c := Zfr.rf
  unfold f_Reader_takeAfterNode
  obtain ⟨bt0, bg0, bs0, bfa0, bsl0, btk0, bat_0, bvl0, bv0, h0Zrd0, h1Zrd0, h2Zrd0, h3Zrd0, h4Zrd0, h5Zrd0, h6Zrd0, h7Zrd0, h8Zrd0, tt0, ttk0, tvl0, r0Zrd0, r1Zrd0, r2Zrd0, r3Zrd0, r4Zrd0, r5Zrd0, r6Zrd0, r7Zrd0, r8Zrd0, r9Zrd0, r10Zrd0⟩ := hb_Zrd
  have J1 : ∃ q, f_Reader_takeAfterNode_13 nf a0 a1 c = some q ∧ Zwt zty G q ∧ Zfr G M_Reader_takeAfterNode c q ∧ Zrt G q a0 := by
    unfold f_Reader_takeAfterNode_13
    refine wi (fun hq2 => ?_) (fun hq2 => ?_)
    · have := li_257
      have := i_ge a1
      have := i_up a1
      have hq2 := i_eq hq2
      unfold f_Reader_takeAfterNode_26
      obtain ⟨w4, ew4⟩ := go_6 W t_a0
      refine wb ew4 ?_
      have := li_1
      obtain ⟨q3, eq3, Wq3, fq3, pbZrtq3⟩ := p_Reader_openWay hn W (a1 := 1) t_a0 (by omega) (by omega) ⟨bt0, bg0, bs0, bfa0, bsl0, h0Zrd0, h1Zrd0, h2Zrd0, h3Zrd0, h4Zrd0, tt0, by (try dsimp only); omega, by (try dsimp only); omega, by (try dsimp only); omega, by (try dsimp only); omega, by (try dsimp only); omega⟩
      refine wb eq3 ?_
      have e8 := (Zfr.gr fq3 t_a0 (by decide)).trans h0Zrd0
      have e9 := (Zfr.gi fq3 tt0 (by decide)).trans h1Zrd0
      have e10 := (Zfr.gi fq3 t_a0 (by decide)).trans h4Zrd0
      have F11 := Zfr.tr F0 fq3 (by decide)
      obtain ⟨btq3, bgq3, bsq3, bfaq3, bslq3, h0Zrtq3, h1Zrtq3, h2Zrtq3, h3Zrtq3, h4Zrtq3, ttq3, r0Zrtq3, r1Zrtq3, r2Zrtq3, r3Zrtq3, r4Zrtq3⟩ := pbZrtq3
      exact ⟨_, rfl, Wq3, F11, ⟨btq3, bgq3, bsq3, bfaq3, bslq3, h0Zrtq3, h1Zrtq3, h2Zrtq3, h3Zrtq3, h4Zrtq3, ttq3, by (try dsimp only); omega, by (try dsimp only); omega, by (try dsimp only); omega, by (try dsimp only); omega, by (try dsimp only); omega⟩⟩
    · have := li_257
      have := i_ge a1
      have := i_up a1
      have hq2 := i_ne hq2
      unfold f_Reader_takeAfterNode_26
      obtain ⟨w4, ew4⟩ := go_6 W t_a0
      refine wb ew4 ?_
      have := li_0
      obtain ⟨q3, eq3, Wq3, fq3, pbZrtq3⟩ := p_Reader_openWay hn W (a1 := 0) t_a0 (by omega) (by omega) ⟨bt0, bg0, bs0, bfa0, bsl0, h0Zrd0, h1Zrd0, h2Zrd0, h3Zrd0, h4Zrd0, tt0, by (try dsimp only); omega, by (try dsimp only); omega, by (try dsimp only); omega, by (try dsimp only); omega, by (try dsimp only); omega⟩
      refine wb eq3 ?_
      have e22 := (Zfr.gr fq3 t_a0 (by decide)).trans h0Zrd0
      have e23 := (Zfr.gi fq3 tt0 (by decide)).trans h1Zrd0
      have e24 := (Zfr.gi fq3 t_a0 (by decide)).trans h4Zrd0
      have F25 := Zfr.tr F0 fq3 (by decide)
      obtain ⟨btq3, bgq3, bsq3, bfaq3, bslq3, h0Zrtq3, h1Zrtq3, h2Zrtq3, h3Zrtq3, h4Zrtq3, ttq3, r0Zrtq3, r1Zrtq3, r2Zrtq3, r3Zrtq3, r4Zrtq3⟩ := pbZrtq3
      exact ⟨_, rfl, Wq3, F25, ⟨btq3, bgq3, bsq3, bfaq3, bslq3, h0Zrtq3, h1Zrtq3, h2Zrtq3, h3Zrtq3, h4Zrtq3, ttq3, by (try dsimp only); omega, by (try dsimp only); omega, by (try dsimp only); omega, by (try dsimp only); omega, by (try dsimp only); omega⟩⟩
  refine wi (fun hq31 => ?_) (fun hq31 => ?_)
  · have := li_45
    have := i_ge a1
    have := i_up a1
    have hq31 := i_eq hq31
    exact J1
  · have := li_45
    have := i_ge a1
    have := i_up a1
    have hq31 := i_ne hq31
    refine wi (fun hq32 => ?_) (fun hq32 => ?_)
    · have := li_257
      have hq32 := i_eq hq32
      exact J1
    · have := li_257
      have hq32 := i_ne hq32
      have := li_m1
      obtain ⟨c6, ec6, Wc6, fc6, gc6⟩ := pf_6_15 W t_a0 (x := (-1)) (rgi (by omega) (by omega))
      refine wb ec6 ?_
      have e33 := (Zfr.gr fc6 t_a0 (by decide)).trans h0Zrd0
      have e34 := (Zfr.gi fc6 tt0 (by decide)).trans h1Zrd0
      have e35 := (Zfr.gi fc6 t_a0 (by decide)).trans h2Zrd0
      have e36 := (Zfr.gi fc6 t_a0 (by decide)).trans h3Zrd0
      have e37 := (Zfr.gi fc6 t_a0 (by decide)).trans h4Zrd0
      have F38 := Zfr.tr F0 fc6 (by decide)
      obtain ⟨v7, ev7, _⟩ := gf_6_13 Wc6 t_a0
      refine wb ev7 ?_
      refine wi (fun hq39 => ?_) (fun hq39 => ?_)
      · have := i_ge v7
        have := i_up v7
        have hq39 := i_eq hq39
        refine wi (fun hq40 => ?_) (fun hq40 => ?_)
        · have := li_44
          have hq40 := i_eq hq40
          obtain ⟨c17, ec17, Wc17, fc17, gc17⟩ := pf_6_8 Wc6 t_a0 (x := 3) (trivial)
          refine wb ec17 ?_
          have e41 := (Zfr.gr fc17 t_a0 (by decide)).trans e33
          have e42 := (Zfr.gi fc17 tt0 (by decide)).trans e34
          have e43 := (Zfr.gi fc17 t_a0 (by decide)).trans e36
          have e44 := (Zfr.gi fc17 t_a0 (by decide)).trans e37
          have F45 := Zfr.tr F38 fc17 (by decide)
          unfold f_Reader_takeAfterNode_138
          have := li_3
          exact ⟨_, rfl, Wc17, F45, ⟨bt0, bg0, (3 : Int32), bfa0, bsl0, e41, e42, gc17, e43, e44, tt0, by (try dsimp only); omega, by (try dsimp only); omega, by (try dsimp only); omega, by (try dsimp only); omega, by (try dsimp only); omega⟩⟩
        · have := li_44
          have hq40 := i_ne hq40
          refine wi (fun hq51 => ?_) (fun hq51 => ?_)
          · have := li_11
            have hq51 := i_eq hq51
            obtain ⟨c16, ec16, Wc16, fc16, gc16⟩ := pf_6_8 Wc6 t_a0 (x := 16) (trivial)
            refine wb ec16 ?_
            have e52 := (Zfr.gr fc16 t_a0 (by decide)).trans e33
            have e53 := (Zfr.gi fc16 tt0 (by decide)).trans e34
            have e54 := (Zfr.gi fc16 t_a0 (by decide)).trans e36
            have e55 := (Zfr.gi fc16 t_a0 (by decide)).trans e37
            have F56 := Zfr.tr F38 fc16 (by decide)
            unfold f_Reader_takeAfterNode_138
            have := li_16
            exact ⟨_, rfl, Wc16, F56, ⟨bt0, bg0, (16 : Int32), bfa0, bsl0, e52, e53, gc16, e54, e55, tt0, by (try dsimp only); omega, by (try dsimp only); omega, by (try dsimp only); omega, by (try dsimp only); omega, by (try dsimp only); omega⟩⟩
          · have := li_11
            have hq51 := i_ne hq51
            refine wi (fun hq62 => ?_) (fun hq62 => ?_)
            · have := li_12
              have hq62 := i_eq hq62
              obtain ⟨w15, ew15⟩ := go_6 Wc6 t_a0
              refine wb ew15 ?_
              obtain ⟨q14, eq14, Wq14, fq14, pbZrtq14⟩ := p_Reader_openGive hn Wc6  t_a0 ⟨bt0, bg0, bs0, bfa0, bsl0, e33, e34, e35, e36, e37, tt0, by (try dsimp only); omega, by (try dsimp only); omega, by (try dsimp only); omega, by (try dsimp only); omega, by (try dsimp only); omega⟩
              refine wb eq14 ?_
              have e68 := (Zfr.gr fq14 t_a0 (by decide)).trans e33
              have e69 := (Zfr.gi fq14 tt0 (by decide)).trans e34
              have e70 := (Zfr.gi fq14 t_a0 (by decide)).trans e36
              have e71 := (Zfr.gi fq14 t_a0 (by decide)).trans e37
              have F72 := Zfr.tr F38 fq14 (by decide)
              obtain ⟨btq14, bgq14, bsq14, bfaq14, bslq14, h0Zrtq14, h1Zrtq14, h2Zrtq14, h3Zrtq14, h4Zrtq14, ttq14, r0Zrtq14, r1Zrtq14, r2Zrtq14, r3Zrtq14, r4Zrtq14⟩ := pbZrtq14
              unfold f_Reader_takeAfterNode_138
              exact ⟨_, rfl, Wq14, F72, ⟨btq14, bgq14, bsq14, bfaq14, bslq14, h0Zrtq14, h1Zrtq14, h2Zrtq14, h3Zrtq14, h4Zrtq14, ttq14, by (try dsimp only); omega, by (try dsimp only); omega, by (try dsimp only); omega, by (try dsimp only); omega, by (try dsimp only); omega⟩⟩
            · have := li_12
              have hq62 := i_ne hq62
              obtain ⟨w13, ew13⟩ := go_6 Wc6 t_a0
              refine wb ew13 ?_
              have := li_2
              obtain ⟨q12, eq12, Wq12, fq12, pbZrfq12⟩ := p_Reader_fail hn Wc6 (a1 := 2) t_a0 (by omega) (by omega) ⟨bt0, bg0, bs0, bfa0, bsl0, e33, e34, e35, e36, e37, tt0, by (try dsimp only); omega, by (try dsimp only); omega, by (try dsimp only); omega, by (try dsimp only); omega⟩
              refine wb eq12 ?_
              have e83 := (Zfr.gr fq12 t_a0 (by decide)).trans e33
              have e84 := (Zfr.gi fq12 tt0 (by decide)).trans e34
              have e85 := (Zfr.gi fq12 t_a0 (by decide)).trans e35
              have e86 := (Zfr.gi fq12 t_a0 (by decide)).trans e37
              have F87 := Zfr.tr F38 fq12 (by decide)
              obtain ⟨btq12, bgq12, bsq12, bfaq12, bslq12, h0Zrfq12, h1Zrfq12, h2Zrfq12, h3Zrfq12, h4Zrfq12, ttq12, r0Zrfq12, r1Zrfq12, r2Zrfq12, r3Zrfq12, r4Zrfq12⟩ := pbZrfq12
              unfold f_Reader_takeAfterNode_138
              exact ⟨_, rfl, Wq12, F87, ⟨btq12, bgq12, bsq12, bfaq12, bslq12, h0Zrfq12, h1Zrfq12, h2Zrfq12, h3Zrfq12, h4Zrfq12, ttq12, by (try dsimp only); omega, by (try dsimp only); omega, by (try dsimp only); omega, by (try dsimp only); omega, by (try dsimp only); omega⟩⟩
      · have := i_ge v7
        have := i_up v7
        have hq39 := i_ne hq39
        refine wb e33 ?_
        refine wb e33 ?_
        refine wb e34 ?_
        obtain ⟨w22, ew22⟩ := go_3 Wc6 tt0
        refine wb ew22 ?_
        have := li_4
        have := li_1
        have := i_sub (a := bg0) (b := 1) (by omega) (by omega)
        have := li_32
        have := i_mulr (a := (bg0 - 1)) (b := 32) (n := 32) li_32 (by omega) (by omega)
        have := i_add (a := 4) (b := ((bg0 - 1) * 32)) (by omega) (by omega)
        obtain ⟨q21, eq21, Wq21, fq21⟩ := p_Text_emit hn Wc6 (a1 := 4) (a2 := (bg0 - 1)) tt0 (okCi (by omega) (by omega) (by omega) (by omega) (by omega) (by omega))
        refine wb eq21 ?_
        have e93 := (Zfr.gr fq21 t_a0 (by decide)).trans e33
        have e94 := (Zfr.gi fq21 tt0 (by decide)).trans e34
        have e95 := (Zfr.gi fq21 t_a0 (by decide)).trans e35
        have e96 := (Zfr.gi fq21 t_a0 (by decide)).trans e36
        have e97 := (Zfr.gi fq21 t_a0 (by decide)).trans e37
        have e98 := (Zfr.gi fq21 t_a0 (by decide)).trans ev7
        have F99 := Zfr.tr F38 fq21 (by decide)
        refine wb e98 ?_
        obtain ⟨c24, ec24, Wc24, fc24, gc24⟩ := pf_6_11 Wq21 t_a0 (x := v7) (trivial)
        refine wb ec24 ?_
        have e100 := (Zfr.gr fc24 t_a0 (by decide)).trans e93
        have e101 := (Zfr.gi fc24 tt0 (by decide)).trans e94
        have e102 := (Zfr.gi fc24 t_a0 (by decide)).trans e95
        have e103 := (Zfr.gi fc24 t_a0 (by decide)).trans e96
        have e104 := (Zfr.gi fc24 t_a0 (by decide)).trans e97
        have F105 := Zfr.tr F99 fc24 (by decide)
        obtain ⟨c25, ec25, Wc25, fc25, gc25⟩ := pf_6_13 Wc24 t_a0 (x := (-1)) (trivial)
        refine wb ec25 ?_
        have e106 := (Zfr.gr fc25 t_a0 (by decide)).trans e100
        have e107 := (Zfr.gi fc25 tt0 (by decide)).trans e101
        have e108 := (Zfr.gi fc25 t_a0 (by decide)).trans e102
        have e109 := (Zfr.gi fc25 t_a0 (by decide)).trans e103
        have e110 := (Zfr.gi fc25 t_a0 (by decide)).trans e104
        have F111 := Zfr.tr F105 fc25 (by decide)
        obtain ⟨v26, ev26, tv26⟩ := gf_6_2 Wc25 t_a0
        refine wb ev26 ?_
        obtain ⟨w28, ew28⟩ := go_5 Wc25 tv26
        refine wb ew28 ?_
        have := li_3
        obtain ⟨q27, eq27, Wq27, fq27⟩ := p_Operators_unwind hn Wc25 (a1 := 3) tv26
        refine wb eq27 ?_
        have e112 := (Zfr.gr fq27 t_a0 (by decide)).trans e106
        have e113 := (Zfr.gi fq27 tt0 (by decide)).trans e107
        have e114 := (Zfr.gi fq27 t_a0 (by decide)).trans e108
        have e115 := (Zfr.gi fq27 t_a0 (by decide)).trans e109
        have e116 := (Zfr.gi fq27 t_a0 (by decide)).trans e110
        have F117 := Zfr.tr F111 fq27 (by decide)
        obtain ⟨w30, ew30⟩ := go_6 Wq27 t_a0
        refine wb ew30 ?_
        have := li_17
        obtain ⟨q29, eq29, Wq29, fq29, pbZrtq29⟩ := p_Reader_passOn hn Wq27 (a1 := 17) t_a0 (by omega) (by omega) (by omega) ⟨bt0, bg0, bs0, bfa0, bsl0, e112, e113, e114, e115, e116, tt0, by (try dsimp only); omega, by (try dsimp only); omega, by (try dsimp only); omega, by (try dsimp only); omega, by (try dsimp only); omega⟩
        refine wb eq29 ?_
        have e123 := (Zfr.gr fq29 t_a0 (by decide)).trans e112
        have e124 := (Zfr.gi fq29 tt0 (by decide)).trans e113
        have e125 := (Zfr.gi fq29 t_a0 (by decide)).trans e115
        have e126 := (Zfr.gi fq29 t_a0 (by decide)).trans e116
        have F127 := Zfr.tr F117 fq29 (by decide)
        obtain ⟨btq29, bgq29, bsq29, bfaq29, bslq29, h0Zrtq29, h1Zrtq29, h2Zrtq29, h3Zrtq29, h4Zrtq29, ttq29, r0Zrtq29, r1Zrtq29, r2Zrtq29, r3Zrtq29, r4Zrtq29⟩ := pbZrtq29
        unfold f_Reader_takeAfterNode_138
        exact ⟨_, rfl, Wq29, F127, ⟨btq29, bgq29, bsq29, bfaq29, bslq29, h0Zrtq29, h1Zrtq29, h2Zrtq29, h3Zrtq29, h4Zrtq29, ttq29, by (try dsimp only); omega, by (try dsimp only); omega, by (try dsimp only); omega, by (try dsimp only); omega, by (try dsimp only); omega⟩⟩

abbrev M_Reader_nameLeast : List (Nat × Nat) := [(2, 2), (6, 0), (6, 9), (6, 10), (6, 11), (6, 12), (6, 16), (46, 0)]
set_option maxRecDepth 100000 in
set_option maxHeartbeats 400000 in
theorem p_Reader_nameLeast {nf : Nat} (hn : 8589934592 ≤ nf) {G : List Nat} {c : Zc} (W : Zwt zty G c) {a0 : Nat} {a1 : Int32}  (t_a0 : G[a0]? = some 6) (pl_a1 : 0 ≤ a1.toInt) (pu_a1 : a1.toInt ≤ 65) (hb_Zrt : Zrt G c a0) : ∃ q, f_Reader_nameLeast nf a0 a1 c = some q ∧ Zwt zty G q ∧ Zfr G M_Reader_nameLeast c q ∧ Zrt G q a0 := by
  have F0 : Zfr G M_Reader_nameLeast c c := Zfr.rf
  unfold f_Reader_nameLeast
  obtain ⟨bt0, bg0, bs0, bfa0, bsl0, h0Zrt0, h1Zrt0, h2Zrt0, h3Zrt0, h4Zrt0, tt0, r0Zrt0, r1Zrt0, r2Zrt0, r3Zrt0, r4Zrt0⟩ := hb_Zrt
  obtain ⟨v1, ev1, tv1⟩ := gf_6_3 W t_a0
  refine wb ev1 ?_
  obtain ⟨v2, ev2, lv2, uv2⟩ := ga_46 W tv1 (i := a1) (by omega) (by omega)
  refine wb ev2 ?_
  refine wi (fun hq1 => ?_) (fun hq1 => ?_)
  · have := li_m1
    have hq1 := i_eq hq1
    obtain ⟨v4, ev4, lv4, uv4⟩ := gf_6_7 W t_a0
    refine wb ev4 ?_
    obtain ⟨w6, ew6⟩ := go_6 W t_a0
    refine wb ew6 ?_
    obtain ⟨q5, eq5, Wq5, fq5, pbZrsq5⟩ := p_Reader_takeSlot hn W (a1 := v4) t_a0 (by omega) (by omega) ⟨bt0, bg0, bs0, bfa0, bsl0, h0Zrt0, h1Zrt0, h2Zrt0, h3Zrt0, h4Zrt0, tt0, by (try dsimp only); omega, by (try dsimp only); omega, by (try dsimp only); omega, by (try dsimp only); omega⟩
    refine wb eq5 ?_
    have e7 := (Zfr.gr fq5 t_a0 (by decide)).trans h0Zrt0
    have e8 := (Zfr.gi fq5 tt0 (by decide)).trans h1Zrt0
    have e9 := (Zfr.gi fq5 t_a0 (by decide)).trans h2Zrt0
    have e10 := (Zfr.gr fq5 t_a0 (by decide)).trans ev1
    have F11 := Zfr.tr F0 fq5 (by decide)
    obtain ⟨btq5, bgq5, bsq5, bfaq5, bslq5, h0Zrsq5, h1Zrsq5, h2Zrsq5, h3Zrsq5, h4Zrsq5, ttq5, r0Zrsq5, r1Zrsq5, r2Zrsq5, r3Zrsq5, r4Zrsq5⟩ := pbZrsq5
    refine wb h3Zrsq5 ?_
    refine wi (fun hq12 => ?_) (fun hq12 => ?_)
    · have := li_0
      have := i_ge bfaq5
      have := i_up bfaq5
      have hq12 := i_eq hq12
      refine wb e10 ?_
      refine wb h4Zrsq5 ?_
      obtain ⟨c11, ec11, Wc11, fc11, gc11⟩ := pa_46 Wq5 tv1 (i := a1) (by omega) (by omega) (x := bslq5) (rgi (by omega) (by omega))
      refine wb ec11 ?_
      have e13 := (Zfr.gr fc11 t_a0 (by decide)).trans h0Zrsq5
      have e14 := (Zfr.gi fc11 tt0 (by decide)).trans e8
      have e15 := (Zfr.gi fc11 t_a0 (by decide)).trans h2Zrsq5
      have e16 := (Zfr.gi fc11 ttq5 (by decide)).trans h1Zrsq5
      have e17 := (Zfr.gi fc11 t_a0 (by decide)).trans h3Zrsq5
      have e18 := (Zfr.gi fc11 t_a0 (by decide)).trans h4Zrsq5
      have F19 := Zfr.tr F11 fc11 (by decide)
      obtain ⟨v12, ev12, tv12⟩ := gf_6_5 Wc11 t_a0
      refine wb ev12 ?_
      refine wb e18 ?_
      obtain ⟨c14, ec14, Wc14, fc14, gc14⟩ := pf_2_2 Wc11 tv12 (x := bslq5) (trivial)
      refine wb ec14 ?_
      have e20 := (Zfr.gr fc14 t_a0 (by decide)).trans e13
      have e21 := (Zfr.gi fc14 tt0 (by decide)).trans e14
      have e22 := (Zfr.gi fc14 t_a0 (by decide)).trans e15
      have e23 := (Zfr.gi fc14 ttq5 (by decide)).trans e16
      have e24 := (Zfr.gi fc14 t_a0 (by decide)).trans e17
      have e25 := (Zfr.gi fc14 t_a0 (by decide)).trans e18
      have F26 := Zfr.tr F19 fc14 (by decide)
      obtain ⟨v15, ev15, _⟩ := gf_6_12 Wc14 t_a0
      refine wb ev15 ?_
      refine wb e25 ?_
      obtain ⟨c17, ec17, Wc17, fc17, gc17⟩ := pf_6_12 Wc14 t_a0 (x := (v15 ||| ((1 : Int32) <<< (bslq5 &&& 31)))) (trivial)
      refine wb ec17 ?_
      have e27 := (Zfr.gr fc17 t_a0 (by decide)).trans e20
      have e28 := (Zfr.gi fc17 tt0 (by decide)).trans e21
      have e29 := (Zfr.gi fc17 t_a0 (by decide)).trans e22
      have e30 := (Zfr.gi fc17 ttq5 (by decide)).trans e23
      have e31 := (Zfr.gi fc17 t_a0 (by decide)).trans e24
      have e32 := (Zfr.gi fc17 t_a0 (by decide)).trans e25
      have F33 := Zfr.tr F26 fc17 (by decide)
      obtain ⟨v18, ev18, _⟩ := gf_6_11 Wc17 t_a0
      refine wb ev18 ?_
      refine wb e32 ?_
      obtain ⟨c20, ec20, Wc20, fc20, gc20⟩ := pf_6_11 Wc17 t_a0 (x := (v18 ||| ((1 : Int32) <<< (bslq5 &&& 31)))) (trivial)
      refine wb ec20 ?_
      have e34 := (Zfr.gr fc20 t_a0 (by decide)).trans e27
      have e35 := (Zfr.gi fc20 tt0 (by decide)).trans e28
      have e36 := (Zfr.gi fc20 t_a0 (by decide)).trans e29
      have e37 := (Zfr.gi fc20 ttq5 (by decide)).trans e30
      have e38 := (Zfr.gi fc20 t_a0 (by decide)).trans e31
      have e39 := (Zfr.gi fc20 t_a0 (by decide)).trans e32
      have F40 := Zfr.tr F33 fc20 (by decide)
      unfold f_Reader_nameLeast_82
      exact ⟨_, rfl, Wc20, F40, ⟨btq5, bgq5, bsq5, bfaq5, bslq5, e34, e37, e36, e38, e39, ttq5, by (try dsimp only); omega, by (try dsimp only); omega, by (try dsimp only); omega, by (try dsimp only); omega, by (try dsimp only); omega⟩⟩
    · have := li_0
      have := i_ge bfaq5
      have := i_up bfaq5
      have hq12 := i_ne hq12
      unfold f_Reader_nameLeast_82
      exact ⟨_, rfl, Wq5, F11, ⟨btq5, bgq5, bsq5, bfaq5, bslq5, h0Zrsq5, h1Zrsq5, h2Zrsq5, h3Zrsq5, h4Zrsq5, ttq5, by (try dsimp only); omega, by (try dsimp only); omega, by (try dsimp only); omega, by (try dsimp only); omega, by (try dsimp only); omega⟩⟩
  · have := li_m1
    have hq1 := i_ne hq1
    obtain ⟨w22, ew22⟩ := go_6 W t_a0
    refine wb ew22 ?_
    have := li_4
    obtain ⟨q21, eq21, Wq21, fq21, pbZrfq21⟩ := p_Reader_fail hn W (a1 := 4) t_a0 (by omega) (by omega) ⟨bt0, bg0, bs0, bfa0, bsl0, h0Zrt0, h1Zrt0, h2Zrt0, h3Zrt0, h4Zrt0, tt0, by (try dsimp only); omega, by (try dsimp only); omega, by (try dsimp only); omega, by (try dsimp only); omega⟩
    refine wb eq21 ?_
    have e56 := (Zfr.gr fq21 t_a0 (by decide)).trans h0Zrt0
    have e57 := (Zfr.gi fq21 tt0 (by decide)).trans h1Zrt0
    have e58 := (Zfr.gi fq21 t_a0 (by decide)).trans h2Zrt0
    have e59 := (Zfr.gi fq21 t_a0 (by decide)).trans h4Zrt0
    have F60 := Zfr.tr F0 fq21 (by decide)
    obtain ⟨btq21, bgq21, bsq21, bfaq21, bslq21, h0Zrfq21, h1Zrfq21, h2Zrfq21, h3Zrfq21, h4Zrfq21, ttq21, r0Zrfq21, r1Zrfq21, r2Zrfq21, r3Zrfq21, r4Zrfq21⟩ := pbZrfq21
    exact ⟨_, rfl, Wq21, F60, ⟨btq21, bgq21, bsq21, bfaq21, bslq21, h0Zrfq21, h1Zrfq21, h2Zrfq21, h3Zrfq21, h4Zrfq21, ttq21, by (try dsimp only); omega, by (try dsimp only); omega, by (try dsimp only); omega, by (try dsimp only); omega, by (try dsimp only); omega⟩⟩

abbrev M_Reader_takeInWay : List (Nat × Nat) := [(2, 2), (6, 0), (6, 8), (6, 9), (6, 10), (6, 11), (6, 12), (6, 16), (46, 0)]
set_option maxRecDepth 100000 in
set_option maxHeartbeats 400000 in
theorem p_Reader_takeInWay {nf : Nat} (hn : 8589934592 ≤ nf) {G : List Nat} {c : Zc} (W : Zwt zty G c) {a0 : Nat} {a1 : Int32}  (t_a0 : G[a0]? = some 6) (hb_Zrd : Zrd G c a0 a1) : ∃ q, f_Reader_takeInWay nf a0 a1 c = some q ∧ Zwt zty G q ∧ Zfr G M_Reader_takeInWay c q ∧ Zrt G q a0 := by
  have F0 : Zfr G M_Reader_takeInWay c c := Zfr.rf
  unfold f_Reader_takeInWay
  obtain ⟨bt0, bg0, bs0, bfa0, bsl0, btk0, bat_0, bvl0, bv0, h0Zrd0, h1Zrd0, h2Zrd0, h3Zrd0, h4Zrd0, h5Zrd0, h6Zrd0, h7Zrd0, h8Zrd0, tt0, ttk0, tvl0, r0Zrd0, r1Zrd0, r2Zrd0, r3Zrd0, r4Zrd0, r5Zrd0, r6Zrd0, r7Zrd0, r8Zrd0, r9Zrd0, r10Zrd0⟩ := hb_Zrd
  have J1 : ∃ q, f_Reader_takeInWay_135 nf a0 c = some q ∧ Zwt zty G q ∧ Zfr G M_Reader_takeInWay c q ∧ Zrt G q a0 := by
    unfold f_Reader_takeInWay_135
    obtain ⟨w11, ew11⟩ := go_6 W t_a0
    refine wb ew11 ?_
    have := li_2
    obtain ⟨q10, eq10, Wq10, fq10, pbZrfq10⟩ := p_Reader_fail hn W (a1 := 2) t_a0 (by omega) (by omega) ⟨bt0, bg0, bs0, bfa0, bsl0, h0Zrd0, h1Zrd0, h2Zrd0, h3Zrd0, h4Zrd0, tt0, by (try dsimp only); omega, by (try dsimp only); omega, by (try dsimp only); omega, by (try dsimp only); omega⟩
    refine wb eq10 ?_
    have e7 := (Zfr.gr fq10 t_a0 (by decide)).trans h0Zrd0
    have e8 := (Zfr.gi fq10 tt0 (by decide)).trans h1Zrd0
    have e9 := (Zfr.gi fq10 t_a0 (by decide)).trans h2Zrd0
    have e10 := (Zfr.gi fq10 t_a0 (by decide)).trans h4Zrd0
    have F11 := Zfr.tr F0 fq10 (by decide)
    obtain ⟨btq10, bgq10, bsq10, bfaq10, bslq10, h0Zrfq10, h1Zrfq10, h2Zrfq10, h3Zrfq10, h4Zrfq10, ttq10, r0Zrfq10, r1Zrfq10, r2Zrfq10, r3Zrfq10, r4Zrfq10⟩ := pbZrfq10
    unfold f_Reader_takeInWay_140
    exact ⟨_, rfl, Wq10, F11, ⟨btq10, bgq10, bsq10, bfaq10, bslq10, h0Zrfq10, h1Zrfq10, h2Zrfq10, h3Zrfq10, h4Zrfq10, ttq10, by (try dsimp only); omega, by (try dsimp only); omega, by (try dsimp only); omega, by (try dsimp only); omega, by (try dsimp only); omega⟩⟩
  have J17 : ∃ q, f_Reader_takeInWay_96 nf a0 a1 c = some q ∧ Zwt zty G q ∧ Zfr G M_Reader_takeInWay c q ∧ Zrt G q a0 := by
    unfold f_Reader_takeInWay_96
    refine wb h2Zrd0 ?_
    refine wi (fun hq18 => ?_) (fun hq18 => ?_)
    · have := li_11
      have := i_ge bs0
      have := i_up bs0
      have hq18 := i_eq hq18
      obtain ⟨v12, ev12, tv12⟩ := gf_6_5 W t_a0
      refine wb ev12 ?_
      obtain ⟨v13, ev13, lv13, uv13⟩ := gf_2_3 W tv12
      refine wb ev13 ?_
      refine wi (fun hq19 => ?_) (fun hq19 => ?_)
      · have := li_0
        have hq19 := i_eq hq19
        unfold f_Reader_takeInWay_124
        refine wi (fun hq20 => ?_) (fun hq20 => ?_)
        · have := li_256
          have := i_ge a1
          have := i_up a1
          have hq20 := i_eq hq20
          obtain ⟨c16, ec16, Wc16, fc16, gc16⟩ := pf_6_8 W t_a0 (x := 3) (trivial)
          refine wb ec16 ?_
          have e21 := (Zfr.gr fc16 t_a0 (by decide)).trans h0Zrd0
          have e22 := (Zfr.gi fc16 tt0 (by decide)).trans h1Zrd0
          have e23 := (Zfr.gi fc16 t_a0 (by decide)).trans h3Zrd0
          have e24 := (Zfr.gi fc16 t_a0 (by decide)).trans h4Zrd0
          have F25 := Zfr.tr F0 fc16 (by decide)
          unfold f_Reader_takeInWay_140
          have := li_3
          exact ⟨_, rfl, Wc16, F25, ⟨bt0, bg0, (3 : Int32), bfa0, bsl0, e21, e22, gc16, e23, e24, tt0, by (try dsimp only); omega, by (try dsimp only); omega, by (try dsimp only); omega, by (try dsimp only); omega, by (try dsimp only); omega⟩⟩
        · have := li_256
          have := i_ge a1
          have := i_up a1
          have hq20 := i_ne hq20
          exact J1
      · have := li_0
        have hq19 := i_ne hq19
        unfold f_Reader_takeInWay_124
        refine wi (fun hq31 => ?_) (fun hq31 => ?_)
        · have := li_45
          have := i_ge a1
          have := i_up a1
          have hq31 := i_eq hq31
          obtain ⟨c16, ec16, Wc16, fc16, gc16⟩ := pf_6_8 W t_a0 (x := 3) (trivial)
          refine wb ec16 ?_
          have e32 := (Zfr.gr fc16 t_a0 (by decide)).trans h0Zrd0
          have e33 := (Zfr.gi fc16 tt0 (by decide)).trans h1Zrd0
          have e34 := (Zfr.gi fc16 t_a0 (by decide)).trans h3Zrd0
          have e35 := (Zfr.gi fc16 t_a0 (by decide)).trans h4Zrd0
          have F36 := Zfr.tr F0 fc16 (by decide)
          unfold f_Reader_takeInWay_140
          have := li_3
          exact ⟨_, rfl, Wc16, F36, ⟨bt0, bg0, (3 : Int32), bfa0, bsl0, e32, e33, gc16, e34, e35, tt0, by (try dsimp only); omega, by (try dsimp only); omega, by (try dsimp only); omega, by (try dsimp only); omega, by (try dsimp only); omega⟩⟩
        · have := li_45
          have := i_ge a1
          have := i_up a1
          have hq31 := i_ne hq31
          exact J1
    · have := li_11
      have := i_ge bs0
      have := i_up bs0
      have hq18 := i_ne hq18
      exact J1
  have J42 : ∃ q, f_Reader_takeInWay_81 nf a0 a1 c = some q ∧ Zwt zty G q ∧ Zfr G M_Reader_takeInWay c q ∧ Zrt G q a0 := by
    unfold f_Reader_takeInWay_81
    refine wi (fun hq43 => ?_) (fun hq43 => ?_)
    · have := li_91
      have := i_ge a1
      have := i_up a1
      have hq43 := i_eq hq43
      obtain ⟨c17, ec17, Wc17, fc17, gc17⟩ := pf_6_8 W t_a0 (x := 12) (trivial)
      refine wb ec17 ?_
      have e44 := (Zfr.gr fc17 t_a0 (by decide)).trans h0Zrd0
      have e45 := (Zfr.gi fc17 tt0 (by decide)).trans h1Zrd0
      have e46 := (Zfr.gi fc17 t_a0 (by decide)).trans h3Zrd0
      have e47 := (Zfr.gi fc17 t_a0 (by decide)).trans h4Zrd0
      have F48 := Zfr.tr F0 fc17 (by decide)
      unfold f_Reader_takeInWay_140
      have := li_12
      exact ⟨_, rfl, Wc17, F48, ⟨bt0, bg0, (12 : Int32), bfa0, bsl0, e44, e45, gc17, e46, e47, tt0, by (try dsimp only); omega, by (try dsimp only); omega, by (try dsimp only); omega, by (try dsimp only); omega, by (try dsimp only); omega⟩⟩
    · have := li_91
      have := i_ge a1
      have := i_up a1
      have hq43 := i_ne hq43
      exact J17
  have J54 : ∃ q, f_Reader_takeInWay_63 nf a0 a1 c = some q ∧ Zwt zty G q ∧ Zfr G M_Reader_takeInWay c q ∧ Zrt G q a0 := by
    unfold f_Reader_takeInWay_63
    refine wb h2Zrd0 ?_
    refine wi (fun hq55 => ?_) (fun hq55 => ?_)
    · have := li_8
      have := i_ge bs0
      have := i_up bs0
      have hq55 := i_eq hq55
      exact J42
    · have := li_8
      have := i_ge bs0
      have := i_up bs0
      have hq55 := i_ne hq55
      refine wb h2Zrd0 ?_
      refine wi (fun hq56 => ?_) (fun hq56 => ?_)
      · have := li_10
        have hq56 := i_eq hq56
        exact J42
      · have := li_10
        have hq56 := i_ne hq56
        exact J17
  have J57 : ∃ q, f_Reader_takeInWay_24 nf a0 a1 c = some q ∧ Zwt zty G q ∧ Zfr G M_Reader_takeInWay c q ∧ Zrt G q a0 := by
    unfold f_Reader_takeInWay_24
    refine wb h2Zrd0 ?_
    refine wi (fun hq58 => ?_) (fun hq58 => ?_)
    · have := li_9
      have := i_ge bs0
      have := i_up bs0
      have hq58 := i_eq hq58
      refine wi (fun hq59 => ?_) (fun hq59 => ?_)
      · have := li_2
        have := i_ge a1
        have := i_up a1
        have hq59 := i_eq hq59
        have := tkr2 r10Zrd0 (by omega)
        refine wb h5Zrd0 ?_
        refine wb h7Zrd0 ?_
        refine wb h6Zrd0 ?_
        refine wb h8Zrd0 ?_
        obtain ⟨w26, ew26⟩ := go_6 W t_a0
        refine wb ew26 ?_
        obtain ⟨q25, eq25, Wq25, fq25, pbZrtq25⟩ := p_Reader_nameLeast hn W (a1 := bv0) t_a0 (by omega) (by omega) ⟨bt0, bg0, bs0, bfa0, bsl0, h0Zrd0, h1Zrd0, h2Zrd0, h3Zrd0, h4Zrd0, tt0, by (try dsimp only); omega, by (try dsimp only); omega, by (try dsimp only); omega, by (try dsimp only); omega, by (try dsimp only); omega⟩
        refine wb eq25 ?_
        have e65 := (Zfr.gr fq25 t_a0 (by decide)).trans h0Zrd0
        have e66 := (Zfr.gi fq25 tt0 (by decide)).trans h1Zrd0
        have e67 := (Zfr.gi fq25 t_a0 (by decide)).trans h2Zrd0
        have F68 := Zfr.tr F0 fq25 (by decide)
        obtain ⟨btq25, bgq25, bsq25, bfaq25, bslq25, h0Zrtq25, h1Zrtq25, h2Zrtq25, h3Zrtq25, h4Zrtq25, ttq25, r0Zrtq25, r1Zrtq25, r2Zrtq25, r3Zrtq25, r4Zrtq25⟩ := pbZrtq25
        obtain ⟨c27, ec27, Wc27, fc27, gc27⟩ := pf_6_8 Wq25 t_a0 (x := 10) (trivial)
        refine wb ec27 ?_
        have e69 := (Zfr.gr fc27 t_a0 (by decide)).trans h0Zrtq25
        have e70 := (Zfr.gi fc27 tt0 (by decide)).trans e66
        have e71 := (Zfr.gi fc27 ttq25 (by decide)).trans h1Zrtq25
        have e72 := (Zfr.gi fc27 t_a0 (by decide)).trans h3Zrtq25
        have e73 := (Zfr.gi fc27 t_a0 (by decide)).trans h4Zrtq25
        have F74 := Zfr.tr F68 fc27 (by decide)
        unfold f_Reader_takeInWay_140
        have := li_10
        exact ⟨_, rfl, Wc27, F74, ⟨btq25, bgq25, (10 : Int32), bfaq25, bslq25, e69, e71, gc27, e72, e73, ttq25, by (try dsimp only); omega, by (try dsimp only); omega, by (try dsimp only); omega, by (try dsimp only); omega, by (try dsimp only); omega⟩⟩
      · have := li_2
        have := i_ge a1
        have := i_up a1
        have hq59 := i_ne hq59
        exact J54
    · have := li_9
      have := i_ge bs0
      have := i_up bs0
      have hq58 := i_ne hq58
      exact J54
  refine wb h2Zrd0 ?_
  refine wi (fun hq80 => ?_) (fun hq80 => ?_)
  · have := li_8
    have := i_ge bs0
    have := i_up bs0
    have hq80 := i_eq hq80
    refine wi (fun hq81 => ?_) (fun hq81 => ?_)
    · have := li_18
      have := i_ge a1
      have := i_up a1
      have hq81 := i_eq hq81
      obtain ⟨c29, ec29, Wc29, fc29, gc29⟩ := pf_6_8 W t_a0 (x := 9) (trivial)
      refine wb ec29 ?_
      have e82 := (Zfr.gr fc29 t_a0 (by decide)).trans h0Zrd0
      have e83 := (Zfr.gi fc29 tt0 (by decide)).trans h1Zrd0
      have e84 := (Zfr.gi fc29 t_a0 (by decide)).trans h3Zrd0
      have e85 := (Zfr.gi fc29 t_a0 (by decide)).trans h4Zrd0
      have F86 := Zfr.tr F0 fc29 (by decide)
      unfold f_Reader_takeInWay_140
      have := li_9
      exact ⟨_, rfl, Wc29, F86, ⟨bt0, bg0, (9 : Int32), bfa0, bsl0, e82, e83, gc29, e84, e85, tt0, by (try dsimp only); omega, by (try dsimp only); omega, by (try dsimp only); omega, by (try dsimp only); omega, by (try dsimp only); omega⟩⟩
    · have := li_18
      have := i_ge a1
      have := i_up a1
      have hq81 := i_ne hq81
      exact J57
  · have := li_8
    have := i_ge bs0
    have := i_up bs0
    have hq80 := i_ne hq80
    exact J57

abbrev M_Reader_addStep : List (Nat × Nat) := [(2, 4), (2, 5), (2, 10), (6, 0), (6, 8), (6, 9), (22, 0), (23, 0), (25, 0)]
set_option maxRecDepth 100000 in
set_option maxHeartbeats 400000 in
theorem p_Reader_addStep {nf : Nat} (hn : 8589934592 ≤ nf) {G : List Nat} {c : Zc} (W : Zwt zty G c) {a0 : Nat} {a1 : Int32}  (t_a0 : G[a0]? = some 6) (pl_a1 : 0 ≤ a1.toInt) (pu_a1 : a1.toInt ≤ 12) (hb_Zrt : Zrt G c a0) : ∃ q, f_Reader_addStep nf a0 a1 c = some q ∧ Zwt zty G q ∧ Zfr G M_Reader_addStep c q ∧ Zrt G q a0 := by
  have F0 : Zfr G M_Reader_addStep c c := Zfr.rf
  unfold f_Reader_addStep
  obtain ⟨bt0, bg0, bs0, bfa0, bsl0, h0Zrt0, h1Zrt0, h2Zrt0, h3Zrt0, h4Zrt0, tt0, r0Zrt0, r1Zrt0, r2Zrt0, r3Zrt0, r4Zrt0⟩ := hb_Zrt
  have J1 : ∃ q, f_Reader_addStep_26 nf a0 a1 c = some q ∧ Zwt zty G q ∧ Zfr G M_Reader_addStep c q ∧ Zrt G q a0 := by
    unfold f_Reader_addStep_26
    obtain ⟨v3, ev3, tv3⟩ := gf_6_5 W t_a0
    refine wb ev3 ?_
    refine wb h2Zrt0 ?_
    refine wi (fun hq2 => ?_) (fun hq2 => ?_)
    · have := li_13
      have := i_ge bs0
      have := i_up bs0
      have hq2 := i_eq hq2
      unfold f_Reader_addStep_45
      obtain ⟨w7, ew7⟩ := go_2 W tv3
      refine wb ew7 ?_
      have := li_1
      obtain ⟨q6, eq6, Wq6, fq6⟩ := p_Way_addStep hn W (a1 := a1) (a2 := 1) tv3 (by omega) (by omega) (by omega) (by omega)
      refine wb eq6 ?_
      have e3 := (Zfr.gr fq6 t_a0 (by decide)).trans h0Zrt0
      have e4 := (Zfr.gi fq6 tt0 (by decide)).trans h1Zrt0
      have e5 := (Zfr.gi fq6 t_a0 (by decide)).trans h2Zrt0
      have e6 := (Zfr.gi fq6 t_a0 (by decide)).trans h3Zrt0
      have e7 := (Zfr.gi fq6 t_a0 (by decide)).trans h4Zrt0
      have F8 := Zfr.tr F0 fq6 (by decide)
      obtain ⟨c8, ec8, Wc8, fc8, gc8⟩ := pf_6_8 Wq6 t_a0 (x := 14) (trivial)
      refine wb ec8 ?_
      have e9 := (Zfr.gr fc8 t_a0 (by decide)).trans e3
      have e10 := (Zfr.gi fc8 tt0 (by decide)).trans e4
      have e11 := (Zfr.gi fc8 t_a0 (by decide)).trans e6
      have e12 := (Zfr.gi fc8 t_a0 (by decide)).trans e7
      have F13 := Zfr.tr F8 fc8 (by decide)
      have := li_14
      exact ⟨_, rfl, Wc8, F13, ⟨bt0, bg0, (14 : Int32), bfa0, bsl0, e9, e10, gc8, e11, e12, tt0, by (try dsimp only); omega, by (try dsimp only); omega, by (try dsimp only); omega, by (try dsimp only); omega, by (try dsimp only); omega⟩⟩
    · have := li_13
      have := i_ge bs0
      have := i_up bs0
      have hq2 := i_ne hq2
      unfold f_Reader_addStep_45
      obtain ⟨w7, ew7⟩ := go_2 W tv3
      refine wb ew7 ?_
      have := li_0
      obtain ⟨q6, eq6, Wq6, fq6⟩ := p_Way_addStep hn W (a1 := a1) (a2 := 0) tv3 (by omega) (by omega) (by omega) (by omega)
      refine wb eq6 ?_
      have e19 := (Zfr.gr fq6 t_a0 (by decide)).trans h0Zrt0
      have e20 := (Zfr.gi fq6 tt0 (by decide)).trans h1Zrt0
      have e21 := (Zfr.gi fq6 t_a0 (by decide)).trans h2Zrt0
      have e22 := (Zfr.gi fq6 t_a0 (by decide)).trans h3Zrt0
      have e23 := (Zfr.gi fq6 t_a0 (by decide)).trans h4Zrt0
      have F24 := Zfr.tr F0 fq6 (by decide)
      obtain ⟨c8, ec8, Wc8, fc8, gc8⟩ := pf_6_8 Wq6 t_a0 (x := 14) (trivial)
      refine wb ec8 ?_
      have e25 := (Zfr.gr fc8 t_a0 (by decide)).trans e19
      have e26 := (Zfr.gi fc8 tt0 (by decide)).trans e20
      have e27 := (Zfr.gi fc8 t_a0 (by decide)).trans e22
      have e28 := (Zfr.gi fc8 t_a0 (by decide)).trans e23
      have F29 := Zfr.tr F24 fc8 (by decide)
      have := li_14
      exact ⟨_, rfl, Wc8, F29, ⟨bt0, bg0, (14 : Int32), bfa0, bsl0, e25, e26, gc8, e27, e28, tt0, by (try dsimp only); omega, by (try dsimp only); omega, by (try dsimp only); omega, by (try dsimp only); omega, by (try dsimp only); omega⟩⟩
  obtain ⟨v1, ev1, _⟩ := gf_6_13 W t_a0
  refine wb ev1 ?_
  refine wi (fun hq35 => ?_) (fun hq35 => ?_)
  · have := li_m1
    have := i_ge v1
    have := i_up v1
    have hq35 := i_eq hq35
    exact J1
  · have := li_m1
    have := i_ge v1
    have := i_up v1
    have hq35 := i_ne hq35
    refine wi (fun hq36 => ?_) (fun hq36 => ?_)
    · have := li_8
      have hq36 := i_lt hq36
      exact J1
    · have := li_8
      have hq36 := i_nlt hq36
      refine wi (fun hq37 => ?_) (fun hq37 => ?_)
      · have := li_12
        have hq37 := i_le hq37
        exact J1
      · have := li_12
        have hq37 := i_nle hq37
        obtain ⟨w12, ew12⟩ := go_6 W t_a0
        refine wb ew12 ?_
        have := li_6
        obtain ⟨q11, eq11, Wq11, fq11, pbZrfq11⟩ := p_Reader_fail hn W (a1 := 6) t_a0 (by omega) (by omega) ⟨bt0, bg0, bs0, bfa0, bsl0, h0Zrt0, h1Zrt0, h2Zrt0, h3Zrt0, h4Zrt0, tt0, by (try dsimp only); omega, by (try dsimp only); omega, by (try dsimp only); omega, by (try dsimp only); omega⟩
        refine wb eq11 ?_
        have e43 := (Zfr.gr fq11 t_a0 (by decide)).trans h0Zrt0
        have e44 := (Zfr.gi fq11 tt0 (by decide)).trans h1Zrt0
        have e45 := (Zfr.gi fq11 t_a0 (by decide)).trans h2Zrt0
        have e46 := (Zfr.gi fq11 t_a0 (by decide)).trans h4Zrt0
        have F47 := Zfr.tr F0 fq11 (by decide)
        obtain ⟨btq11, bgq11, bsq11, bfaq11, bslq11, h0Zrfq11, h1Zrfq11, h2Zrfq11, h3Zrfq11, h4Zrfq11, ttq11, r0Zrfq11, r1Zrfq11, r2Zrfq11, r3Zrfq11, r4Zrfq11⟩ := pbZrfq11
        unfold f_Reader_addStep_26
        obtain ⟨v3, ev3, tv3⟩ := gf_6_5 Wq11 t_a0
        refine wb ev3 ?_
        refine wb h2Zrfq11 ?_
        refine wi (fun hq48 => ?_) (fun hq48 => ?_)
        · have := li_13
          have := i_ge bsq11
          have := i_up bsq11
          have hq48 := i_eq hq48
          unfold f_Reader_addStep_45
          obtain ⟨w7, ew7⟩ := go_2 Wq11 tv3
          refine wb ew7 ?_
          have := li_1
          obtain ⟨q6, eq6, Wq6, fq6⟩ := p_Way_addStep hn Wq11 (a1 := a1) (a2 := 1) tv3 (by omega) (by omega) (by omega) (by omega)
          refine wb eq6 ?_
          have e49 := (Zfr.gr fq6 t_a0 (by decide)).trans h0Zrfq11
          have e50 := (Zfr.gi fq6 tt0 (by decide)).trans e44
          have e51 := (Zfr.gi fq6 t_a0 (by decide)).trans h2Zrfq11
          have e52 := (Zfr.gi fq6 t_a0 (by decide)).trans h4Zrfq11
          have e53 := (Zfr.gi fq6 ttq11 (by decide)).trans h1Zrfq11
          have e54 := (Zfr.gi fq6 t_a0 (by decide)).trans h3Zrfq11
          have F55 := Zfr.tr F47 fq6 (by decide)
          obtain ⟨c8, ec8, Wc8, fc8, gc8⟩ := pf_6_8 Wq6 t_a0 (x := 14) (trivial)
          refine wb ec8 ?_
          have e56 := (Zfr.gr fc8 t_a0 (by decide)).trans e49
          have e57 := (Zfr.gi fc8 tt0 (by decide)).trans e50
          have e58 := (Zfr.gi fc8 t_a0 (by decide)).trans e52
          have e59 := (Zfr.gi fc8 ttq11 (by decide)).trans e53
          have e60 := (Zfr.gi fc8 t_a0 (by decide)).trans e54
          have F61 := Zfr.tr F55 fc8 (by decide)
          have := li_14
          exact ⟨_, rfl, Wc8, F61, ⟨btq11, bgq11, (14 : Int32), bfaq11, bslq11, e56, e59, gc8, e60, e58, ttq11, by (try dsimp only); omega, by (try dsimp only); omega, by (try dsimp only); omega, by (try dsimp only); omega, by (try dsimp only); omega⟩⟩
        · have := li_13
          have := i_ge bsq11
          have := i_up bsq11
          have hq48 := i_ne hq48
          unfold f_Reader_addStep_45
          obtain ⟨w7, ew7⟩ := go_2 Wq11 tv3
          refine wb ew7 ?_
          have := li_0
          obtain ⟨q6, eq6, Wq6, fq6⟩ := p_Way_addStep hn Wq11 (a1 := a1) (a2 := 0) tv3 (by omega) (by omega) (by omega) (by omega)
          refine wb eq6 ?_
          have e67 := (Zfr.gr fq6 t_a0 (by decide)).trans h0Zrfq11
          have e68 := (Zfr.gi fq6 tt0 (by decide)).trans e44
          have e69 := (Zfr.gi fq6 t_a0 (by decide)).trans h2Zrfq11
          have e70 := (Zfr.gi fq6 t_a0 (by decide)).trans h4Zrfq11
          have e71 := (Zfr.gi fq6 ttq11 (by decide)).trans h1Zrfq11
          have e72 := (Zfr.gi fq6 t_a0 (by decide)).trans h3Zrfq11
          have F73 := Zfr.tr F47 fq6 (by decide)
          obtain ⟨c8, ec8, Wc8, fc8, gc8⟩ := pf_6_8 Wq6 t_a0 (x := 14) (trivial)
          refine wb ec8 ?_
          have e74 := (Zfr.gr fc8 t_a0 (by decide)).trans e67
          have e75 := (Zfr.gi fc8 tt0 (by decide)).trans e68
          have e76 := (Zfr.gi fc8 t_a0 (by decide)).trans e70
          have e77 := (Zfr.gi fc8 ttq11 (by decide)).trans e71
          have e78 := (Zfr.gi fc8 t_a0 (by decide)).trans e72
          have F79 := Zfr.tr F73 fc8 (by decide)
          have := li_14
          exact ⟨_, rfl, Wc8, F79, ⟨btq11, bgq11, (14 : Int32), bfaq11, bslq11, e74, e77, gc8, e78, e76, ttq11, by (try dsimp only); omega, by (try dsimp only); omega, by (try dsimp only); omega, by (try dsimp only); omega, by (try dsimp only); omega⟩⟩

abbrev M_Reader_takeStep : List (Nat × Nat) := [(2, 4), (2, 5), (2, 9), (2, 10), (5, 0), (6, 0), (6, 8), (6, 9), (22, 0), (23, 0), (24, 0), (25, 0)]
set_option maxRecDepth 100000 in
set_option maxHeartbeats 400000 in
theorem p_Reader_takeStep {nf : Nat} (hn : 8589934592 ≤ nf) {G : List Nat} {c : Zc} (W : Zwt zty G c) {a0 : Nat} {a1 : Int32}  (t_a0 : G[a0]? = some 6) (hb_Zrd : Zrd G c a0 a1) : ∃ q, f_Reader_takeStep nf a0 a1 c = some q ∧ Zwt zty G q ∧ Zfr G M_Reader_takeStep c q ∧ Zrt G q a0 := by
  have F0 : Zfr G M_Reader_takeStep c c := Zfr.rf
  unfold f_Reader_takeStep
  obtain ⟨bt0, bg0, bs0, bfa0, bsl0, btk0, bat_0, bvl0, bv0, h0Zrd0, h1Zrd0, h2Zrd0, h3Zrd0, h4Zrd0, h5Zrd0, h6Zrd0, h7Zrd0, h8Zrd0, tt0, ttk0, tvl0, r0Zrd0, r1Zrd0, r2Zrd0, r3Zrd0, r4Zrd0, r5Zrd0, r6Zrd0, r7Zrd0, r8Zrd0, r9Zrd0, r10Zrd0⟩ := hb_Zrd
  refine wb h2Zrd0 ?_
  refine wi (fun hq1 => ?_) (fun hq1 => ?_)
  · have := li_12
    have := i_ge bs0
    have := i_up bs0
    have hq1 := i_eq hq1
    unfold f_Reader_takeStep_14
    refine wi (fun hq2 => ?_) (fun hq2 => ?_)
    · have := li_5
      have := i_ge a1
      have := i_up a1
      have hq2 := i_eq hq2
      have := tkr5 r10Zrd0 (by omega)
      unfold f_Reader_takeStep_26
      unfold f_Reader_takeStep_31
      refine wi (fun hq3 => ?_) (fun hq3 => ?_)
      · have := li_1
        have := li_0
        have hq3 := i_eq hq3
        unfold f_Reader_takeStep_65
        refine wi (fun hq4 => ?_) (fun hq4 => ?_)
        · have hq4 := i_eq hq4
          refine wi (fun hq5 => ?_) (fun hq5 => ?_)
          · have hq5 := i_eq hq5
            unfold f_Reader_takeStep_79
            obtain ⟨w22, ew22⟩ := go_6 W t_a0
            refine wb ew22 ?_
            have := li_2
            obtain ⟨q21, eq21, Wq21, fq21, pbZrfq21⟩ := p_Reader_fail hn W (a1 := 2) t_a0 (by omega) (by omega) ⟨bt0, bg0, bs0, bfa0, bsl0, h0Zrd0, h1Zrd0, h2Zrd0, h3Zrd0, h4Zrd0, tt0, by (try dsimp only); omega, by (try dsimp only); omega, by (try dsimp only); omega, by (try dsimp only); omega⟩
            refine wb eq21 ?_
            have e11 := (Zfr.gr fq21 t_a0 (by decide)).trans h0Zrd0
            have e12 := (Zfr.gi fq21 tt0 (by decide)).trans h1Zrd0
            have e13 := (Zfr.gi fq21 t_a0 (by decide)).trans h2Zrd0
            have e14 := (Zfr.gi fq21 t_a0 (by decide)).trans h4Zrd0
            have F15 := Zfr.tr F0 fq21 (by decide)
            obtain ⟨btq21, bgq21, bsq21, bfaq21, bslq21, h0Zrfq21, h1Zrfq21, h2Zrfq21, h3Zrfq21, h4Zrfq21, ttq21, r0Zrfq21, r1Zrfq21, r2Zrfq21, r3Zrfq21, r4Zrfq21⟩ := pbZrfq21
            unfold f_Reader_takeStep_147
            exact ⟨_, rfl, Wq21, F15, ⟨btq21, bgq21, bsq21, bfaq21, bslq21, h0Zrfq21, h1Zrfq21, h2Zrfq21, h3Zrfq21, h4Zrfq21, ttq21, by (try dsimp only); omega, by (try dsimp only); omega, by (try dsimp only); omega, by (try dsimp only); omega, by (try dsimp only); omega⟩⟩
          · have hq5 := i_ne hq5
            refine wi (fun hq21 => ?_) (fun hq21 => ?_)
            · have := li_94
              have hq21 := i_eq hq21
              exfalso
              omega
            · have := li_94
              have hq21 := i_ne hq21
              unfold f_Reader_takeStep_79
              obtain ⟨w22, ew22⟩ := go_6 W t_a0
              refine wb ew22 ?_
              have := li_2
              obtain ⟨q21, eq21, Wq21, fq21, pbZrfq21⟩ := p_Reader_fail hn W (a1 := 2) t_a0 (by omega) (by omega) ⟨bt0, bg0, bs0, bfa0, bsl0, h0Zrd0, h1Zrd0, h2Zrd0, h3Zrd0, h4Zrd0, tt0, by (try dsimp only); omega, by (try dsimp only); omega, by (try dsimp only); omega, by (try dsimp only); omega⟩
              refine wb eq21 ?_
              have e27 := (Zfr.gr fq21 t_a0 (by decide)).trans h0Zrd0
              have e28 := (Zfr.gi fq21 tt0 (by decide)).trans h1Zrd0
              have e29 := (Zfr.gi fq21 t_a0 (by decide)).trans h2Zrd0
              have e30 := (Zfr.gi fq21 t_a0 (by decide)).trans h4Zrd0
              have F31 := Zfr.tr F0 fq21 (by decide)
              obtain ⟨btq21, bgq21, bsq21, bfaq21, bslq21, h0Zrfq21, h1Zrfq21, h2Zrfq21, h3Zrfq21, h4Zrfq21, ttq21, r0Zrfq21, r1Zrfq21, r2Zrfq21, r3Zrfq21, r4Zrfq21⟩ := pbZrfq21
              unfold f_Reader_takeStep_147
              exact ⟨_, rfl, Wq21, F31, ⟨btq21, bgq21, bsq21, bfaq21, bslq21, h0Zrfq21, h1Zrfq21, h2Zrfq21, h3Zrfq21, h4Zrfq21, ttq21, by (try dsimp only); omega, by (try dsimp only); omega, by (try dsimp only); omega, by (try dsimp only); omega, by (try dsimp only); omega⟩⟩
        · have hq4 := i_ne hq4
          unfold f_Reader_takeStep_87
          obtain ⟨v6, ev6, tv6⟩ := gf_6_5 W t_a0
          refine wb ev6 ?_
          obtain ⟨v7, ev7, lv7, uv7⟩ := gf_2_5 W tv6
          refine wb ev7 ?_
          refine wi (fun hq37 => ?_) (fun hq37 => ?_)
          · have := li_16
            have hq37 := i_lt hq37
            refine wi (fun hq38 => ?_) (fun hq38 => ?_)
            · have hq38 := i_eq hq38
              obtain ⟨c17, ec17, Wc17, fc17, gc17⟩ := pf_6_8 W t_a0 (x := 13) (trivial)
              refine wb ec17 ?_
              have e39 := (Zfr.gr fc17 t_a0 (by decide)).trans h0Zrd0
              have e40 := (Zfr.gi fc17 tt0 (by decide)).trans h1Zrd0
              have e41 := (Zfr.gi fc17 t_a0 (by decide)).trans h3Zrd0
              have e42 := (Zfr.gi fc17 t_a0 (by decide)).trans h4Zrd0
              have F43 := Zfr.tr F0 fc17 (by decide)
              unfold f_Reader_takeStep_147
              have := li_13
              exact ⟨_, rfl, Wc17, F43, ⟨bt0, bg0, (13 : Int32), bfa0, bsl0, e39, e40, gc17, e41, e42, tt0, by (try dsimp only); omega, by (try dsimp only); omega, by (try dsimp only); omega, by (try dsimp only); omega, by (try dsimp only); omega⟩⟩
            · have hq38 := i_ne hq38
              refine wi (fun hq49 => ?_) (fun hq49 => ?_)
              · have := li_95
                have hq49 := i_eq hq49
                exfalso
                omega
              · have := li_95
                have hq49 := i_ne hq49
                refine wb h5Zrd0 ?_
                refine wb h7Zrd0 ?_
                refine wb h6Zrd0 ?_
                refine wb h8Zrd0 ?_
                unfold f_Reader_takeStep_144
                obtain ⟨w16, ew16⟩ := go_6 W t_a0
                refine wb ew16 ?_
                obtain ⟨q15, eq15, Wq15, fq15, pbZrtq15⟩ := p_Reader_addStep hn W (a1 := bv0) t_a0 (by omega) (by omega) ⟨bt0, bg0, bs0, bfa0, bsl0, h0Zrd0, h1Zrd0, h2Zrd0, h3Zrd0, h4Zrd0, tt0, by (try dsimp only); omega, by (try dsimp only); omega, by (try dsimp only); omega, by (try dsimp only); omega, by (try dsimp only); omega⟩
                refine wb eq15 ?_
                have e55 := (Zfr.gr fq15 t_a0 (by decide)).trans h0Zrd0
                have e56 := (Zfr.gi fq15 tt0 (by decide)).trans h1Zrd0
                have e57 := (Zfr.gi fq15 t_a0 (by decide)).trans h4Zrd0
                have F58 := Zfr.tr F0 fq15 (by decide)
                obtain ⟨btq15, bgq15, bsq15, bfaq15, bslq15, h0Zrtq15, h1Zrtq15, h2Zrtq15, h3Zrtq15, h4Zrtq15, ttq15, r0Zrtq15, r1Zrtq15, r2Zrtq15, r3Zrtq15, r4Zrtq15⟩ := pbZrtq15
                unfold f_Reader_takeStep_147
                exact ⟨_, rfl, Wq15, F58, ⟨btq15, bgq15, bsq15, bfaq15, bslq15, h0Zrtq15, h1Zrtq15, h2Zrtq15, h3Zrtq15, h4Zrtq15, ttq15, by (try dsimp only); omega, by (try dsimp only); omega, by (try dsimp only); omega, by (try dsimp only); omega, by (try dsimp only); omega⟩⟩
          · have := li_16
            have hq37 := i_nlt hq37
            obtain ⟨w19, ew19⟩ := go_6 W t_a0
            refine wb ew19 ?_
            have := li_3
            obtain ⟨q18, eq18, Wq18, fq18, pbZrfq18⟩ := p_Reader_fail hn W (a1 := 3) t_a0 (by omega) (by omega) ⟨bt0, bg0, bs0, bfa0, bsl0, h0Zrd0, h1Zrd0, h2Zrd0, h3Zrd0, h4Zrd0, tt0, by (try dsimp only); omega, by (try dsimp only); omega, by (try dsimp only); omega, by (try dsimp only); omega⟩
            refine wb eq18 ?_
            have e69 := (Zfr.gr fq18 t_a0 (by decide)).trans h0Zrd0
            have e70 := (Zfr.gi fq18 tt0 (by decide)).trans h1Zrd0
            have e71 := (Zfr.gi fq18 t_a0 (by decide)).trans h2Zrd0
            have e72 := (Zfr.gi fq18 t_a0 (by decide)).trans h4Zrd0
            have F73 := Zfr.tr F0 fq18 (by decide)
            obtain ⟨btq18, bgq18, bsq18, bfaq18, bslq18, h0Zrfq18, h1Zrfq18, h2Zrfq18, h3Zrfq18, h4Zrfq18, ttq18, r0Zrfq18, r1Zrfq18, r2Zrfq18, r3Zrfq18, r4Zrfq18⟩ := pbZrfq18
            unfold f_Reader_takeStep_147
            exact ⟨_, rfl, Wq18, F73, ⟨btq18, bgq18, bsq18, bfaq18, bslq18, h0Zrfq18, h1Zrfq18, h2Zrfq18, h3Zrfq18, h4Zrfq18, ttq18, by (try dsimp only); omega, by (try dsimp only); omega, by (try dsimp only); omega, by (try dsimp only); omega, by (try dsimp only); omega⟩⟩
      · have := li_1
        have := li_0
        have hq3 := i_ne hq3
        refine wi (fun hq79 => ?_) (fun hq79 => ?_)
        · have := li_40
          have hq79 := i_eq hq79
          exfalso
          omega
        · have := li_40
          have hq79 := i_ne hq79
          unfold f_Reader_takeStep_65
          refine wi (fun hq80 => ?_) (fun hq80 => ?_)
          · have hq80 := i_eq hq80
            refine wi (fun hq81 => ?_) (fun hq81 => ?_)
            · have hq81 := i_eq hq81
              unfold f_Reader_takeStep_79
              obtain ⟨w22, ew22⟩ := go_6 W t_a0
              refine wb ew22 ?_
              have := li_2
              obtain ⟨q21, eq21, Wq21, fq21, pbZrfq21⟩ := p_Reader_fail hn W (a1 := 2) t_a0 (by omega) (by omega) ⟨bt0, bg0, bs0, bfa0, bsl0, h0Zrd0, h1Zrd0, h2Zrd0, h3Zrd0, h4Zrd0, tt0, by (try dsimp only); omega, by (try dsimp only); omega, by (try dsimp only); omega, by (try dsimp only); omega⟩
              refine wb eq21 ?_
              have e87 := (Zfr.gr fq21 t_a0 (by decide)).trans h0Zrd0
              have e88 := (Zfr.gi fq21 tt0 (by decide)).trans h1Zrd0
              have e89 := (Zfr.gi fq21 t_a0 (by decide)).trans h2Zrd0
              have e90 := (Zfr.gi fq21 t_a0 (by decide)).trans h4Zrd0
              have F91 := Zfr.tr F0 fq21 (by decide)
              obtain ⟨btq21, bgq21, bsq21, bfaq21, bslq21, h0Zrfq21, h1Zrfq21, h2Zrfq21, h3Zrfq21, h4Zrfq21, ttq21, r0Zrfq21, r1Zrfq21, r2Zrfq21, r3Zrfq21, r4Zrfq21⟩ := pbZrfq21
              unfold f_Reader_takeStep_147
              exact ⟨_, rfl, Wq21, F91, ⟨btq21, bgq21, bsq21, bfaq21, bslq21, h0Zrfq21, h1Zrfq21, h2Zrfq21, h3Zrfq21, h4Zrfq21, ttq21, by (try dsimp only); omega, by (try dsimp only); omega, by (try dsimp only); omega, by (try dsimp only); omega, by (try dsimp only); omega⟩⟩
            · have hq81 := i_ne hq81
              refine wi (fun hq97 => ?_) (fun hq97 => ?_)
              · have := li_94
                have hq97 := i_eq hq97
                exfalso
                omega
              · have := li_94
                have hq97 := i_ne hq97
                unfold f_Reader_takeStep_79
                obtain ⟨w22, ew22⟩ := go_6 W t_a0
                refine wb ew22 ?_
                have := li_2
                obtain ⟨q21, eq21, Wq21, fq21, pbZrfq21⟩ := p_Reader_fail hn W (a1 := 2) t_a0 (by omega) (by omega) ⟨bt0, bg0, bs0, bfa0, bsl0, h0Zrd0, h1Zrd0, h2Zrd0, h3Zrd0, h4Zrd0, tt0, by (try dsimp only); omega, by (try dsimp only); omega, by (try dsimp only); omega, by (try dsimp only); omega⟩
                refine wb eq21 ?_
                have e103 := (Zfr.gr fq21 t_a0 (by decide)).trans h0Zrd0
                have e104 := (Zfr.gi fq21 tt0 (by decide)).trans h1Zrd0
                have e105 := (Zfr.gi fq21 t_a0 (by decide)).trans h2Zrd0
                have e106 := (Zfr.gi fq21 t_a0 (by decide)).trans h4Zrd0
                have F107 := Zfr.tr F0 fq21 (by decide)
                obtain ⟨btq21, bgq21, bsq21, bfaq21, bslq21, h0Zrfq21, h1Zrfq21, h2Zrfq21, h3Zrfq21, h4Zrfq21, ttq21, r0Zrfq21, r1Zrfq21, r2Zrfq21, r3Zrfq21, r4Zrfq21⟩ := pbZrfq21
                unfold f_Reader_takeStep_147
                exact ⟨_, rfl, Wq21, F107, ⟨btq21, bgq21, bsq21, bfaq21, bslq21, h0Zrfq21, h1Zrfq21, h2Zrfq21, h3Zrfq21, h4Zrfq21, ttq21, by (try dsimp only); omega, by (try dsimp only); omega, by (try dsimp only); omega, by (try dsimp only); omega, by (try dsimp only); omega⟩⟩
          · have hq80 := i_ne hq80
            unfold f_Reader_takeStep_87
            obtain ⟨v6, ev6, tv6⟩ := gf_6_5 W t_a0
            refine wb ev6 ?_
            obtain ⟨v7, ev7, lv7, uv7⟩ := gf_2_5 W tv6
            refine wb ev7 ?_
            refine wi (fun hq113 => ?_) (fun hq113 => ?_)
            · have := li_16
              have hq113 := i_lt hq113
              refine wi (fun hq114 => ?_) (fun hq114 => ?_)
              · have hq114 := i_eq hq114
                obtain ⟨c17, ec17, Wc17, fc17, gc17⟩ := pf_6_8 W t_a0 (x := 13) (trivial)
                refine wb ec17 ?_
                have e115 := (Zfr.gr fc17 t_a0 (by decide)).trans h0Zrd0
                have e116 := (Zfr.gi fc17 tt0 (by decide)).trans h1Zrd0
                have e117 := (Zfr.gi fc17 t_a0 (by decide)).trans h3Zrd0
                have e118 := (Zfr.gi fc17 t_a0 (by decide)).trans h4Zrd0
                have F119 := Zfr.tr F0 fc17 (by decide)
                unfold f_Reader_takeStep_147
                have := li_13
                exact ⟨_, rfl, Wc17, F119, ⟨bt0, bg0, (13 : Int32), bfa0, bsl0, e115, e116, gc17, e117, e118, tt0, by (try dsimp only); omega, by (try dsimp only); omega, by (try dsimp only); omega, by (try dsimp only); omega, by (try dsimp only); omega⟩⟩
              · have hq114 := i_ne hq114
                refine wi (fun hq125 => ?_) (fun hq125 => ?_)
                · have := li_95
                  have hq125 := i_eq hq125
                  exfalso
                  omega
                · have := li_95
                  have hq125 := i_ne hq125
                  refine wb h5Zrd0 ?_
                  refine wb h7Zrd0 ?_
                  refine wb h6Zrd0 ?_
                  refine wb h8Zrd0 ?_
                  unfold f_Reader_takeStep_144
                  obtain ⟨w16, ew16⟩ := go_6 W t_a0
                  refine wb ew16 ?_
                  obtain ⟨q15, eq15, Wq15, fq15, pbZrtq15⟩ := p_Reader_addStep hn W (a1 := bv0) t_a0 (by omega) (by omega) ⟨bt0, bg0, bs0, bfa0, bsl0, h0Zrd0, h1Zrd0, h2Zrd0, h3Zrd0, h4Zrd0, tt0, by (try dsimp only); omega, by (try dsimp only); omega, by (try dsimp only); omega, by (try dsimp only); omega, by (try dsimp only); omega⟩
                  refine wb eq15 ?_
                  have e131 := (Zfr.gr fq15 t_a0 (by decide)).trans h0Zrd0
                  have e132 := (Zfr.gi fq15 tt0 (by decide)).trans h1Zrd0
                  have e133 := (Zfr.gi fq15 t_a0 (by decide)).trans h4Zrd0
                  have F134 := Zfr.tr F0 fq15 (by decide)
                  obtain ⟨btq15, bgq15, bsq15, bfaq15, bslq15, h0Zrtq15, h1Zrtq15, h2Zrtq15, h3Zrtq15, h4Zrtq15, ttq15, r0Zrtq15, r1Zrtq15, r2Zrtq15, r3Zrtq15, r4Zrtq15⟩ := pbZrtq15
                  unfold f_Reader_takeStep_147
                  exact ⟨_, rfl, Wq15, F134, ⟨btq15, bgq15, bsq15, bfaq15, bslq15, h0Zrtq15, h1Zrtq15, h2Zrtq15, h3Zrtq15, h4Zrtq15, ttq15, by (try dsimp only); omega, by (try dsimp only); omega, by (try dsimp only); omega, by (try dsimp only); omega, by (try dsimp only); omega⟩⟩
            · have := li_16
              have hq113 := i_nlt hq113
              obtain ⟨w19, ew19⟩ := go_6 W t_a0
              refine wb ew19 ?_
              have := li_3
              obtain ⟨q18, eq18, Wq18, fq18, pbZrfq18⟩ := p_Reader_fail hn W (a1 := 3) t_a0 (by omega) (by omega) ⟨bt0, bg0, bs0, bfa0, bsl0, h0Zrd0, h1Zrd0, h2Zrd0, h3Zrd0, h4Zrd0, tt0, by (try dsimp only); omega, by (try dsimp only); omega, by (try dsimp only); omega, by (try dsimp only); omega⟩
              refine wb eq18 ?_
              have e145 := (Zfr.gr fq18 t_a0 (by decide)).trans h0Zrd0
              have e146 := (Zfr.gi fq18 tt0 (by decide)).trans h1Zrd0
              have e147 := (Zfr.gi fq18 t_a0 (by decide)).trans h2Zrd0
              have e148 := (Zfr.gi fq18 t_a0 (by decide)).trans h4Zrd0
              have F149 := Zfr.tr F0 fq18 (by decide)
              obtain ⟨btq18, bgq18, bsq18, bfaq18, bslq18, h0Zrfq18, h1Zrfq18, h2Zrfq18, h3Zrfq18, h4Zrfq18, ttq18, r0Zrfq18, r1Zrfq18, r2Zrfq18, r3Zrfq18, r4Zrfq18⟩ := pbZrfq18
              unfold f_Reader_takeStep_147
              exact ⟨_, rfl, Wq18, F149, ⟨btq18, bgq18, bsq18, bfaq18, bslq18, h0Zrfq18, h1Zrfq18, h2Zrfq18, h3Zrfq18, h4Zrfq18, ttq18, by (try dsimp only); omega, by (try dsimp only); omega, by (try dsimp only); omega, by (try dsimp only); omega, by (try dsimp only); omega⟩⟩
    · have := li_5
      have := i_ge a1
      have := i_up a1
      have hq2 := i_ne hq2
      refine wi (fun hq155 => ?_) (fun hq155 => ?_)
      · have := li_95
        have hq155 := i_eq hq155
        unfold f_Reader_takeStep_26
        unfold f_Reader_takeStep_31
        refine wi (fun hq156 => ?_) (fun hq156 => ?_)
        · have := li_1
          have := li_0
          have hq156 := i_eq hq156
          unfold f_Reader_takeStep_65
          refine wi (fun hq157 => ?_) (fun hq157 => ?_)
          · have hq157 := i_eq hq157
            refine wi (fun hq158 => ?_) (fun hq158 => ?_)
            · have hq158 := i_eq hq158
              unfold f_Reader_takeStep_79
              obtain ⟨w22, ew22⟩ := go_6 W t_a0
              refine wb ew22 ?_
              have := li_2
              obtain ⟨q21, eq21, Wq21, fq21, pbZrfq21⟩ := p_Reader_fail hn W (a1 := 2) t_a0 (by omega) (by omega) ⟨bt0, bg0, bs0, bfa0, bsl0, h0Zrd0, h1Zrd0, h2Zrd0, h3Zrd0, h4Zrd0, tt0, by (try dsimp only); omega, by (try dsimp only); omega, by (try dsimp only); omega, by (try dsimp only); omega⟩
              refine wb eq21 ?_
              have e164 := (Zfr.gr fq21 t_a0 (by decide)).trans h0Zrd0
              have e165 := (Zfr.gi fq21 tt0 (by decide)).trans h1Zrd0
              have e166 := (Zfr.gi fq21 t_a0 (by decide)).trans h2Zrd0
              have e167 := (Zfr.gi fq21 t_a0 (by decide)).trans h4Zrd0
              have F168 := Zfr.tr F0 fq21 (by decide)
              obtain ⟨btq21, bgq21, bsq21, bfaq21, bslq21, h0Zrfq21, h1Zrfq21, h2Zrfq21, h3Zrfq21, h4Zrfq21, ttq21, r0Zrfq21, r1Zrfq21, r2Zrfq21, r3Zrfq21, r4Zrfq21⟩ := pbZrfq21
              unfold f_Reader_takeStep_147
              exact ⟨_, rfl, Wq21, F168, ⟨btq21, bgq21, bsq21, bfaq21, bslq21, h0Zrfq21, h1Zrfq21, h2Zrfq21, h3Zrfq21, h4Zrfq21, ttq21, by (try dsimp only); omega, by (try dsimp only); omega, by (try dsimp only); omega, by (try dsimp only); omega, by (try dsimp only); omega⟩⟩
            · have hq158 := i_ne hq158
              refine wi (fun hq174 => ?_) (fun hq174 => ?_)
              · have := li_94
                have hq174 := i_eq hq174
                exfalso
                omega
              · have := li_94
                have hq174 := i_ne hq174
                unfold f_Reader_takeStep_79
                obtain ⟨w22, ew22⟩ := go_6 W t_a0
                refine wb ew22 ?_
                have := li_2
                obtain ⟨q21, eq21, Wq21, fq21, pbZrfq21⟩ := p_Reader_fail hn W (a1 := 2) t_a0 (by omega) (by omega) ⟨bt0, bg0, bs0, bfa0, bsl0, h0Zrd0, h1Zrd0, h2Zrd0, h3Zrd0, h4Zrd0, tt0, by (try dsimp only); omega, by (try dsimp only); omega, by (try dsimp only); omega, by (try dsimp only); omega⟩
                refine wb eq21 ?_
                have e180 := (Zfr.gr fq21 t_a0 (by decide)).trans h0Zrd0
                have e181 := (Zfr.gi fq21 tt0 (by decide)).trans h1Zrd0
                have e182 := (Zfr.gi fq21 t_a0 (by decide)).trans h2Zrd0
                have e183 := (Zfr.gi fq21 t_a0 (by decide)).trans h4Zrd0
                have F184 := Zfr.tr F0 fq21 (by decide)
                obtain ⟨btq21, bgq21, bsq21, bfaq21, bslq21, h0Zrfq21, h1Zrfq21, h2Zrfq21, h3Zrfq21, h4Zrfq21, ttq21, r0Zrfq21, r1Zrfq21, r2Zrfq21, r3Zrfq21, r4Zrfq21⟩ := pbZrfq21
                unfold f_Reader_takeStep_147
                exact ⟨_, rfl, Wq21, F184, ⟨btq21, bgq21, bsq21, bfaq21, bslq21, h0Zrfq21, h1Zrfq21, h2Zrfq21, h3Zrfq21, h4Zrfq21, ttq21, by (try dsimp only); omega, by (try dsimp only); omega, by (try dsimp only); omega, by (try dsimp only); omega, by (try dsimp only); omega⟩⟩
          · have hq157 := i_ne hq157
            unfold f_Reader_takeStep_87
            obtain ⟨v6, ev6, tv6⟩ := gf_6_5 W t_a0
            refine wb ev6 ?_
            obtain ⟨v7, ev7, lv7, uv7⟩ := gf_2_5 W tv6
            refine wb ev7 ?_
            refine wi (fun hq190 => ?_) (fun hq190 => ?_)
            · have := li_16
              have hq190 := i_lt hq190
              refine wi (fun hq191 => ?_) (fun hq191 => ?_)
              · have hq191 := i_eq hq191
                obtain ⟨c17, ec17, Wc17, fc17, gc17⟩ := pf_6_8 W t_a0 (x := 13) (trivial)
                refine wb ec17 ?_
                have e192 := (Zfr.gr fc17 t_a0 (by decide)).trans h0Zrd0
                have e193 := (Zfr.gi fc17 tt0 (by decide)).trans h1Zrd0
                have e194 := (Zfr.gi fc17 t_a0 (by decide)).trans h3Zrd0
                have e195 := (Zfr.gi fc17 t_a0 (by decide)).trans h4Zrd0
                have F196 := Zfr.tr F0 fc17 (by decide)
                unfold f_Reader_takeStep_147
                have := li_13
                exact ⟨_, rfl, Wc17, F196, ⟨bt0, bg0, (13 : Int32), bfa0, bsl0, e192, e193, gc17, e194, e195, tt0, by (try dsimp only); omega, by (try dsimp only); omega, by (try dsimp only); omega, by (try dsimp only); omega, by (try dsimp only); omega⟩⟩
              · have hq191 := i_ne hq191
                refine wi (fun hq202 => ?_) (fun hq202 => ?_)
                · have hq202 := i_eq hq202
                  unfold f_Reader_takeStep_144
                  obtain ⟨w16, ew16⟩ := go_6 W t_a0
                  refine wb ew16 ?_
                  obtain ⟨q15, eq15, Wq15, fq15, pbZrtq15⟩ := p_Reader_addStep hn W (a1 := 12) t_a0 (by omega) (by omega) ⟨bt0, bg0, bs0, bfa0, bsl0, h0Zrd0, h1Zrd0, h2Zrd0, h3Zrd0, h4Zrd0, tt0, by (try dsimp only); omega, by (try dsimp only); omega, by (try dsimp only); omega, by (try dsimp only); omega, by (try dsimp only); omega⟩
                  refine wb eq15 ?_
                  have e208 := (Zfr.gr fq15 t_a0 (by decide)).trans h0Zrd0
                  have e209 := (Zfr.gi fq15 tt0 (by decide)).trans h1Zrd0
                  have e210 := (Zfr.gi fq15 t_a0 (by decide)).trans h4Zrd0
                  have F211 := Zfr.tr F0 fq15 (by decide)
                  obtain ⟨btq15, bgq15, bsq15, bfaq15, bslq15, h0Zrtq15, h1Zrtq15, h2Zrtq15, h3Zrtq15, h4Zrtq15, ttq15, r0Zrtq15, r1Zrtq15, r2Zrtq15, r3Zrtq15, r4Zrtq15⟩ := pbZrtq15
                  unfold f_Reader_takeStep_147
                  exact ⟨_, rfl, Wq15, F211, ⟨btq15, bgq15, bsq15, bfaq15, bslq15, h0Zrtq15, h1Zrtq15, h2Zrtq15, h3Zrtq15, h4Zrtq15, ttq15, by (try dsimp only); omega, by (try dsimp only); omega, by (try dsimp only); omega, by (try dsimp only); omega, by (try dsimp only); omega⟩⟩
                · have hq202 := i_ne hq202
                  exfalso
                  omega
            · have := li_16
              have hq190 := i_nlt hq190
              obtain ⟨w19, ew19⟩ := go_6 W t_a0
              refine wb ew19 ?_
              have := li_3
              obtain ⟨q18, eq18, Wq18, fq18, pbZrfq18⟩ := p_Reader_fail hn W (a1 := 3) t_a0 (by omega) (by omega) ⟨bt0, bg0, bs0, bfa0, bsl0, h0Zrd0, h1Zrd0, h2Zrd0, h3Zrd0, h4Zrd0, tt0, by (try dsimp only); omega, by (try dsimp only); omega, by (try dsimp only); omega, by (try dsimp only); omega⟩
              refine wb eq18 ?_
              have e222 := (Zfr.gr fq18 t_a0 (by decide)).trans h0Zrd0
              have e223 := (Zfr.gi fq18 tt0 (by decide)).trans h1Zrd0
              have e224 := (Zfr.gi fq18 t_a0 (by decide)).trans h2Zrd0
              have e225 := (Zfr.gi fq18 t_a0 (by decide)).trans h4Zrd0
              have F226 := Zfr.tr F0 fq18 (by decide)
              obtain ⟨btq18, bgq18, bsq18, bfaq18, bslq18, h0Zrfq18, h1Zrfq18, h2Zrfq18, h3Zrfq18, h4Zrfq18, ttq18, r0Zrfq18, r1Zrfq18, r2Zrfq18, r3Zrfq18, r4Zrfq18⟩ := pbZrfq18
              unfold f_Reader_takeStep_147
              exact ⟨_, rfl, Wq18, F226, ⟨btq18, bgq18, bsq18, bfaq18, bslq18, h0Zrfq18, h1Zrfq18, h2Zrfq18, h3Zrfq18, h4Zrfq18, ttq18, by (try dsimp only); omega, by (try dsimp only); omega, by (try dsimp only); omega, by (try dsimp only); omega, by (try dsimp only); omega⟩⟩
        · have := li_1
          have := li_0
          have hq156 := i_ne hq156
          refine wi (fun hq232 => ?_) (fun hq232 => ?_)
          · have := li_40
            have hq232 := i_eq hq232
            exfalso
            omega
          · have := li_40
            have hq232 := i_ne hq232
            unfold f_Reader_takeStep_65
            refine wi (fun hq233 => ?_) (fun hq233 => ?_)
            · have hq233 := i_eq hq233
              refine wi (fun hq234 => ?_) (fun hq234 => ?_)
              · have hq234 := i_eq hq234
                unfold f_Reader_takeStep_79
                obtain ⟨w22, ew22⟩ := go_6 W t_a0
                refine wb ew22 ?_
                have := li_2
                obtain ⟨q21, eq21, Wq21, fq21, pbZrfq21⟩ := p_Reader_fail hn W (a1 := 2) t_a0 (by omega) (by omega) ⟨bt0, bg0, bs0, bfa0, bsl0, h0Zrd0, h1Zrd0, h2Zrd0, h3Zrd0, h4Zrd0, tt0, by (try dsimp only); omega, by (try dsimp only); omega, by (try dsimp only); omega, by (try dsimp only); omega⟩
                refine wb eq21 ?_
                have e240 := (Zfr.gr fq21 t_a0 (by decide)).trans h0Zrd0
                have e241 := (Zfr.gi fq21 tt0 (by decide)).trans h1Zrd0
                have e242 := (Zfr.gi fq21 t_a0 (by decide)).trans h2Zrd0
                have e243 := (Zfr.gi fq21 t_a0 (by decide)).trans h4Zrd0
                have F244 := Zfr.tr F0 fq21 (by decide)
                obtain ⟨btq21, bgq21, bsq21, bfaq21, bslq21, h0Zrfq21, h1Zrfq21, h2Zrfq21, h3Zrfq21, h4Zrfq21, ttq21, r0Zrfq21, r1Zrfq21, r2Zrfq21, r3Zrfq21, r4Zrfq21⟩ := pbZrfq21
                unfold f_Reader_takeStep_147
                exact ⟨_, rfl, Wq21, F244, ⟨btq21, bgq21, bsq21, bfaq21, bslq21, h0Zrfq21, h1Zrfq21, h2Zrfq21, h3Zrfq21, h4Zrfq21, ttq21, by (try dsimp only); omega, by (try dsimp only); omega, by (try dsimp only); omega, by (try dsimp only); omega, by (try dsimp only); omega⟩⟩
              · have hq234 := i_ne hq234
                refine wi (fun hq250 => ?_) (fun hq250 => ?_)
                · have := li_94
                  have hq250 := i_eq hq250
                  exfalso
                  omega
                · have := li_94
                  have hq250 := i_ne hq250
                  unfold f_Reader_takeStep_79
                  obtain ⟨w22, ew22⟩ := go_6 W t_a0
                  refine wb ew22 ?_
                  have := li_2
                  obtain ⟨q21, eq21, Wq21, fq21, pbZrfq21⟩ := p_Reader_fail hn W (a1 := 2) t_a0 (by omega) (by omega) ⟨bt0, bg0, bs0, bfa0, bsl0, h0Zrd0, h1Zrd0, h2Zrd0, h3Zrd0, h4Zrd0, tt0, by (try dsimp only); omega, by (try dsimp only); omega, by (try dsimp only); omega, by (try dsimp only); omega⟩
                  refine wb eq21 ?_
                  have e256 := (Zfr.gr fq21 t_a0 (by decide)).trans h0Zrd0
                  have e257 := (Zfr.gi fq21 tt0 (by decide)).trans h1Zrd0
                  have e258 := (Zfr.gi fq21 t_a0 (by decide)).trans h2Zrd0
                  have e259 := (Zfr.gi fq21 t_a0 (by decide)).trans h4Zrd0
                  have F260 := Zfr.tr F0 fq21 (by decide)
                  obtain ⟨btq21, bgq21, bsq21, bfaq21, bslq21, h0Zrfq21, h1Zrfq21, h2Zrfq21, h3Zrfq21, h4Zrfq21, ttq21, r0Zrfq21, r1Zrfq21, r2Zrfq21, r3Zrfq21, r4Zrfq21⟩ := pbZrfq21
                  unfold f_Reader_takeStep_147
                  exact ⟨_, rfl, Wq21, F260, ⟨btq21, bgq21, bsq21, bfaq21, bslq21, h0Zrfq21, h1Zrfq21, h2Zrfq21, h3Zrfq21, h4Zrfq21, ttq21, by (try dsimp only); omega, by (try dsimp only); omega, by (try dsimp only); omega, by (try dsimp only); omega, by (try dsimp only); omega⟩⟩
            · have hq233 := i_ne hq233
              unfold f_Reader_takeStep_87
              obtain ⟨v6, ev6, tv6⟩ := gf_6_5 W t_a0
              refine wb ev6 ?_
              obtain ⟨v7, ev7, lv7, uv7⟩ := gf_2_5 W tv6
              refine wb ev7 ?_
              refine wi (fun hq266 => ?_) (fun hq266 => ?_)
              · have := li_16
                have hq266 := i_lt hq266
                refine wi (fun hq267 => ?_) (fun hq267 => ?_)
                · have hq267 := i_eq hq267
                  obtain ⟨c17, ec17, Wc17, fc17, gc17⟩ := pf_6_8 W t_a0 (x := 13) (trivial)
                  refine wb ec17 ?_
                  have e268 := (Zfr.gr fc17 t_a0 (by decide)).trans h0Zrd0
                  have e269 := (Zfr.gi fc17 tt0 (by decide)).trans h1Zrd0
                  have e270 := (Zfr.gi fc17 t_a0 (by decide)).trans h3Zrd0
                  have e271 := (Zfr.gi fc17 t_a0 (by decide)).trans h4Zrd0
                  have F272 := Zfr.tr F0 fc17 (by decide)
                  unfold f_Reader_takeStep_147
                  have := li_13
                  exact ⟨_, rfl, Wc17, F272, ⟨bt0, bg0, (13 : Int32), bfa0, bsl0, e268, e269, gc17, e270, e271, tt0, by (try dsimp only); omega, by (try dsimp only); omega, by (try dsimp only); omega, by (try dsimp only); omega, by (try dsimp only); omega⟩⟩
                · have hq267 := i_ne hq267
                  refine wi (fun hq278 => ?_) (fun hq278 => ?_)
                  · have hq278 := i_eq hq278
                    unfold f_Reader_takeStep_144
                    obtain ⟨w16, ew16⟩ := go_6 W t_a0
                    refine wb ew16 ?_
                    obtain ⟨q15, eq15, Wq15, fq15, pbZrtq15⟩ := p_Reader_addStep hn W (a1 := 12) t_a0 (by omega) (by omega) ⟨bt0, bg0, bs0, bfa0, bsl0, h0Zrd0, h1Zrd0, h2Zrd0, h3Zrd0, h4Zrd0, tt0, by (try dsimp only); omega, by (try dsimp only); omega, by (try dsimp only); omega, by (try dsimp only); omega, by (try dsimp only); omega⟩
                    refine wb eq15 ?_
                    have e284 := (Zfr.gr fq15 t_a0 (by decide)).trans h0Zrd0
                    have e285 := (Zfr.gi fq15 tt0 (by decide)).trans h1Zrd0
                    have e286 := (Zfr.gi fq15 t_a0 (by decide)).trans h4Zrd0
                    have F287 := Zfr.tr F0 fq15 (by decide)
                    obtain ⟨btq15, bgq15, bsq15, bfaq15, bslq15, h0Zrtq15, h1Zrtq15, h2Zrtq15, h3Zrtq15, h4Zrtq15, ttq15, r0Zrtq15, r1Zrtq15, r2Zrtq15, r3Zrtq15, r4Zrtq15⟩ := pbZrtq15
                    unfold f_Reader_takeStep_147
                    exact ⟨_, rfl, Wq15, F287, ⟨btq15, bgq15, bsq15, bfaq15, bslq15, h0Zrtq15, h1Zrtq15, h2Zrtq15, h3Zrtq15, h4Zrtq15, ttq15, by (try dsimp only); omega, by (try dsimp only); omega, by (try dsimp only); omega, by (try dsimp only); omega, by (try dsimp only); omega⟩⟩
                  · have hq278 := i_ne hq278
                    exfalso
                    omega
              · have := li_16
                have hq266 := i_nlt hq266
                obtain ⟨w19, ew19⟩ := go_6 W t_a0
                refine wb ew19 ?_
                have := li_3
                obtain ⟨q18, eq18, Wq18, fq18, pbZrfq18⟩ := p_Reader_fail hn W (a1 := 3) t_a0 (by omega) (by omega) ⟨bt0, bg0, bs0, bfa0, bsl0, h0Zrd0, h1Zrd0, h2Zrd0, h3Zrd0, h4Zrd0, tt0, by (try dsimp only); omega, by (try dsimp only); omega, by (try dsimp only); omega, by (try dsimp only); omega⟩
                refine wb eq18 ?_
                have e298 := (Zfr.gr fq18 t_a0 (by decide)).trans h0Zrd0
                have e299 := (Zfr.gi fq18 tt0 (by decide)).trans h1Zrd0
                have e300 := (Zfr.gi fq18 t_a0 (by decide)).trans h2Zrd0
                have e301 := (Zfr.gi fq18 t_a0 (by decide)).trans h4Zrd0
                have F302 := Zfr.tr F0 fq18 (by decide)
                obtain ⟨btq18, bgq18, bsq18, bfaq18, bslq18, h0Zrfq18, h1Zrfq18, h2Zrfq18, h3Zrfq18, h4Zrfq18, ttq18, r0Zrfq18, r1Zrfq18, r2Zrfq18, r3Zrfq18, r4Zrfq18⟩ := pbZrfq18
                unfold f_Reader_takeStep_147
                exact ⟨_, rfl, Wq18, F302, ⟨btq18, bgq18, bsq18, bfaq18, bslq18, h0Zrfq18, h1Zrfq18, h2Zrfq18, h3Zrfq18, h4Zrfq18, ttq18, by (try dsimp only); omega, by (try dsimp only); omega, by (try dsimp only); omega, by (try dsimp only); omega, by (try dsimp only); omega⟩⟩
      · have := li_95
        have hq155 := i_ne hq155
        unfold f_Reader_takeStep_31
        refine wi (fun hq308 => ?_) (fun hq308 => ?_)
        · have := li_1
          have := li_0
          have hq308 := i_eq hq308
          unfold f_Reader_takeStep_65
          refine wi (fun hq309 => ?_) (fun hq309 => ?_)
          · have hq309 := i_eq hq309
            refine wi (fun hq310 => ?_) (fun hq310 => ?_)
            · have hq310 := i_eq hq310
              unfold f_Reader_takeStep_79
              obtain ⟨w22, ew22⟩ := go_6 W t_a0
              refine wb ew22 ?_
              have := li_2
              obtain ⟨q21, eq21, Wq21, fq21, pbZrfq21⟩ := p_Reader_fail hn W (a1 := 2) t_a0 (by omega) (by omega) ⟨bt0, bg0, bs0, bfa0, bsl0, h0Zrd0, h1Zrd0, h2Zrd0, h3Zrd0, h4Zrd0, tt0, by (try dsimp only); omega, by (try dsimp only); omega, by (try dsimp only); omega, by (try dsimp only); omega⟩
              refine wb eq21 ?_
              have e316 := (Zfr.gr fq21 t_a0 (by decide)).trans h0Zrd0
              have e317 := (Zfr.gi fq21 tt0 (by decide)).trans h1Zrd0
              have e318 := (Zfr.gi fq21 t_a0 (by decide)).trans h2Zrd0
              have e319 := (Zfr.gi fq21 t_a0 (by decide)).trans h4Zrd0
              have F320 := Zfr.tr F0 fq21 (by decide)
              obtain ⟨btq21, bgq21, bsq21, bfaq21, bslq21, h0Zrfq21, h1Zrfq21, h2Zrfq21, h3Zrfq21, h4Zrfq21, ttq21, r0Zrfq21, r1Zrfq21, r2Zrfq21, r3Zrfq21, r4Zrfq21⟩ := pbZrfq21
              unfold f_Reader_takeStep_147
              exact ⟨_, rfl, Wq21, F320, ⟨btq21, bgq21, bsq21, bfaq21, bslq21, h0Zrfq21, h1Zrfq21, h2Zrfq21, h3Zrfq21, h4Zrfq21, ttq21, by (try dsimp only); omega, by (try dsimp only); omega, by (try dsimp only); omega, by (try dsimp only); omega, by (try dsimp only); omega⟩⟩
            · have hq310 := i_ne hq310
              refine wi (fun hq326 => ?_) (fun hq326 => ?_)
              · have := li_94
                have hq326 := i_eq hq326
                unfold f_Reader_takeStep_87
                obtain ⟨v6, ev6, tv6⟩ := gf_6_5 W t_a0
                refine wb ev6 ?_
                obtain ⟨v7, ev7, lv7, uv7⟩ := gf_2_5 W tv6
                refine wb ev7 ?_
                refine wi (fun hq327 => ?_) (fun hq327 => ?_)
                · have := li_16
                  have hq327 := i_lt hq327
                  refine wi (fun hq328 => ?_) (fun hq328 => ?_)
                  · have hq328 := i_eq hq328
                    obtain ⟨c17, ec17, Wc17, fc17, gc17⟩ := pf_6_8 W t_a0 (x := 13) (trivial)
                    refine wb ec17 ?_
                    have e329 := (Zfr.gr fc17 t_a0 (by decide)).trans h0Zrd0
                    have e330 := (Zfr.gi fc17 tt0 (by decide)).trans h1Zrd0
                    have e331 := (Zfr.gi fc17 t_a0 (by decide)).trans h3Zrd0
                    have e332 := (Zfr.gi fc17 t_a0 (by decide)).trans h4Zrd0
                    have F333 := Zfr.tr F0 fc17 (by decide)
                    unfold f_Reader_takeStep_147
                    have := li_13
                    exact ⟨_, rfl, Wc17, F333, ⟨bt0, bg0, (13 : Int32), bfa0, bsl0, e329, e330, gc17, e331, e332, tt0, by (try dsimp only); omega, by (try dsimp only); omega, by (try dsimp only); omega, by (try dsimp only); omega, by (try dsimp only); omega⟩⟩
                  · have hq328 := i_ne hq328
                    refine wi (fun hq339 => ?_) (fun hq339 => ?_)
                    · have hq339 := i_eq hq339
                      exfalso
                      omega
                    · have hq339 := i_ne hq339
                      refine wb h5Zrd0 ?_
                      refine wb h7Zrd0 ?_
                      refine wb h6Zrd0 ?_
                      refine wb h8Zrd0 ?_
                      unfold f_Reader_takeStep_144
                      obtain ⟨w16, ew16⟩ := go_6 W t_a0
                      refine wb ew16 ?_
                      obtain ⟨q15, eq15, Wq15, fq15, pbZrtq15⟩ := p_Reader_addStep hn W (a1 := bv0) t_a0 (by omega) (by omega) ⟨bt0, bg0, bs0, bfa0, bsl0, h0Zrd0, h1Zrd0, h2Zrd0, h3Zrd0, h4Zrd0, tt0, by (try dsimp only); omega, by (try dsimp only); omega, by (try dsimp only); omega, by (try dsimp only); omega, by (try dsimp only); omega⟩
                      refine wb eq15 ?_
                      have e345 := (Zfr.gr fq15 t_a0 (by decide)).trans h0Zrd0
                      have e346 := (Zfr.gi fq15 tt0 (by decide)).trans h1Zrd0
                      have e347 := (Zfr.gi fq15 t_a0 (by decide)).trans h4Zrd0
                      have F348 := Zfr.tr F0 fq15 (by decide)
                      obtain ⟨btq15, bgq15, bsq15, bfaq15, bslq15, h0Zrtq15, h1Zrtq15, h2Zrtq15, h3Zrtq15, h4Zrtq15, ttq15, r0Zrtq15, r1Zrtq15, r2Zrtq15, r3Zrtq15, r4Zrtq15⟩ := pbZrtq15
                      unfold f_Reader_takeStep_147
                      exact ⟨_, rfl, Wq15, F348, ⟨btq15, bgq15, bsq15, bfaq15, bslq15, h0Zrtq15, h1Zrtq15, h2Zrtq15, h3Zrtq15, h4Zrtq15, ttq15, by (try dsimp only); omega, by (try dsimp only); omega, by (try dsimp only); omega, by (try dsimp only); omega, by (try dsimp only); omega⟩⟩
                · have := li_16
                  have hq327 := i_nlt hq327
                  obtain ⟨w19, ew19⟩ := go_6 W t_a0
                  refine wb ew19 ?_
                  have := li_3
                  obtain ⟨q18, eq18, Wq18, fq18, pbZrfq18⟩ := p_Reader_fail hn W (a1 := 3) t_a0 (by omega) (by omega) ⟨bt0, bg0, bs0, bfa0, bsl0, h0Zrd0, h1Zrd0, h2Zrd0, h3Zrd0, h4Zrd0, tt0, by (try dsimp only); omega, by (try dsimp only); omega, by (try dsimp only); omega, by (try dsimp only); omega⟩
                  refine wb eq18 ?_
                  have e359 := (Zfr.gr fq18 t_a0 (by decide)).trans h0Zrd0
                  have e360 := (Zfr.gi fq18 tt0 (by decide)).trans h1Zrd0
                  have e361 := (Zfr.gi fq18 t_a0 (by decide)).trans h2Zrd0
                  have e362 := (Zfr.gi fq18 t_a0 (by decide)).trans h4Zrd0
                  have F363 := Zfr.tr F0 fq18 (by decide)
                  obtain ⟨btq18, bgq18, bsq18, bfaq18, bslq18, h0Zrfq18, h1Zrfq18, h2Zrfq18, h3Zrfq18, h4Zrfq18, ttq18, r0Zrfq18, r1Zrfq18, r2Zrfq18, r3Zrfq18, r4Zrfq18⟩ := pbZrfq18
                  unfold f_Reader_takeStep_147
                  exact ⟨_, rfl, Wq18, F363, ⟨btq18, bgq18, bsq18, bfaq18, bslq18, h0Zrfq18, h1Zrfq18, h2Zrfq18, h3Zrfq18, h4Zrfq18, ttq18, by (try dsimp only); omega, by (try dsimp only); omega, by (try dsimp only); omega, by (try dsimp only); omega, by (try dsimp only); omega⟩⟩
              · have := li_94
                have hq326 := i_ne hq326
                unfold f_Reader_takeStep_79
                obtain ⟨w22, ew22⟩ := go_6 W t_a0
                refine wb ew22 ?_
                have := li_2
                obtain ⟨q21, eq21, Wq21, fq21, pbZrfq21⟩ := p_Reader_fail hn W (a1 := 2) t_a0 (by omega) (by omega) ⟨bt0, bg0, bs0, bfa0, bsl0, h0Zrd0, h1Zrd0, h2Zrd0, h3Zrd0, h4Zrd0, tt0, by (try dsimp only); omega, by (try dsimp only); omega, by (try dsimp only); omega, by (try dsimp only); omega⟩
                refine wb eq21 ?_
                have e374 := (Zfr.gr fq21 t_a0 (by decide)).trans h0Zrd0
                have e375 := (Zfr.gi fq21 tt0 (by decide)).trans h1Zrd0
                have e376 := (Zfr.gi fq21 t_a0 (by decide)).trans h2Zrd0
                have e377 := (Zfr.gi fq21 t_a0 (by decide)).trans h4Zrd0
                have F378 := Zfr.tr F0 fq21 (by decide)
                obtain ⟨btq21, bgq21, bsq21, bfaq21, bslq21, h0Zrfq21, h1Zrfq21, h2Zrfq21, h3Zrfq21, h4Zrfq21, ttq21, r0Zrfq21, r1Zrfq21, r2Zrfq21, r3Zrfq21, r4Zrfq21⟩ := pbZrfq21
                unfold f_Reader_takeStep_147
                exact ⟨_, rfl, Wq21, F378, ⟨btq21, bgq21, bsq21, bfaq21, bslq21, h0Zrfq21, h1Zrfq21, h2Zrfq21, h3Zrfq21, h4Zrfq21, ttq21, by (try dsimp only); omega, by (try dsimp only); omega, by (try dsimp only); omega, by (try dsimp only); omega, by (try dsimp only); omega⟩⟩
          · have hq309 := i_ne hq309
            unfold f_Reader_takeStep_87
            obtain ⟨v6, ev6, tv6⟩ := gf_6_5 W t_a0
            refine wb ev6 ?_
            obtain ⟨v7, ev7, lv7, uv7⟩ := gf_2_5 W tv6
            refine wb ev7 ?_
            refine wi (fun hq384 => ?_) (fun hq384 => ?_)
            · have := li_16
              have hq384 := i_lt hq384
              refine wi (fun hq385 => ?_) (fun hq385 => ?_)
              · have hq385 := i_eq hq385
                obtain ⟨c17, ec17, Wc17, fc17, gc17⟩ := pf_6_8 W t_a0 (x := 13) (trivial)
                refine wb ec17 ?_
                have e386 := (Zfr.gr fc17 t_a0 (by decide)).trans h0Zrd0
                have e387 := (Zfr.gi fc17 tt0 (by decide)).trans h1Zrd0
                have e388 := (Zfr.gi fc17 t_a0 (by decide)).trans h3Zrd0
                have e389 := (Zfr.gi fc17 t_a0 (by decide)).trans h4Zrd0
                have F390 := Zfr.tr F0 fc17 (by decide)
                unfold f_Reader_takeStep_147
                have := li_13
                exact ⟨_, rfl, Wc17, F390, ⟨bt0, bg0, (13 : Int32), bfa0, bsl0, e386, e387, gc17, e388, e389, tt0, by (try dsimp only); omega, by (try dsimp only); omega, by (try dsimp only); omega, by (try dsimp only); omega, by (try dsimp only); omega⟩⟩
              · have hq385 := i_ne hq385
                refine wi (fun hq396 => ?_) (fun hq396 => ?_)
                · have hq396 := i_eq hq396
                  unfold f_Reader_takeStep_144
                  obtain ⟨w16, ew16⟩ := go_6 W t_a0
                  refine wb ew16 ?_
                  obtain ⟨q15, eq15, Wq15, fq15, pbZrtq15⟩ := p_Reader_addStep hn W (a1 := 12) t_a0 (by omega) (by omega) ⟨bt0, bg0, bs0, bfa0, bsl0, h0Zrd0, h1Zrd0, h2Zrd0, h3Zrd0, h4Zrd0, tt0, by (try dsimp only); omega, by (try dsimp only); omega, by (try dsimp only); omega, by (try dsimp only); omega, by (try dsimp only); omega⟩
                  refine wb eq15 ?_
                  have e402 := (Zfr.gr fq15 t_a0 (by decide)).trans h0Zrd0
                  have e403 := (Zfr.gi fq15 tt0 (by decide)).trans h1Zrd0
                  have e404 := (Zfr.gi fq15 t_a0 (by decide)).trans h4Zrd0
                  have F405 := Zfr.tr F0 fq15 (by decide)
                  obtain ⟨btq15, bgq15, bsq15, bfaq15, bslq15, h0Zrtq15, h1Zrtq15, h2Zrtq15, h3Zrtq15, h4Zrtq15, ttq15, r0Zrtq15, r1Zrtq15, r2Zrtq15, r3Zrtq15, r4Zrtq15⟩ := pbZrtq15
                  unfold f_Reader_takeStep_147
                  exact ⟨_, rfl, Wq15, F405, ⟨btq15, bgq15, bsq15, bfaq15, bslq15, h0Zrtq15, h1Zrtq15, h2Zrtq15, h3Zrtq15, h4Zrtq15, ttq15, by (try dsimp only); omega, by (try dsimp only); omega, by (try dsimp only); omega, by (try dsimp only); omega, by (try dsimp only); omega⟩⟩
                · have hq396 := i_ne hq396
                  refine wb h5Zrd0 ?_
                  refine wb h7Zrd0 ?_
                  refine wb h6Zrd0 ?_
                  refine wb h8Zrd0 ?_
                  unfold f_Reader_takeStep_144
                  obtain ⟨w16, ew16⟩ := go_6 W t_a0
                  refine wb ew16 ?_
                  obtain ⟨q15, eq15, Wq15, fq15, pbZrtq15⟩ := p_Reader_addStep hn W (a1 := bv0) t_a0 (by omega) (by omega) ⟨bt0, bg0, bs0, bfa0, bsl0, h0Zrd0, h1Zrd0, h2Zrd0, h3Zrd0, h4Zrd0, tt0, by (try dsimp only); omega, by (try dsimp only); omega, by (try dsimp only); omega, by (try dsimp only); omega, by (try dsimp only); omega⟩
                  refine wb eq15 ?_
                  have e416 := (Zfr.gr fq15 t_a0 (by decide)).trans h0Zrd0
                  have e417 := (Zfr.gi fq15 tt0 (by decide)).trans h1Zrd0
                  have e418 := (Zfr.gi fq15 t_a0 (by decide)).trans h4Zrd0
                  have F419 := Zfr.tr F0 fq15 (by decide)
                  obtain ⟨btq15, bgq15, bsq15, bfaq15, bslq15, h0Zrtq15, h1Zrtq15, h2Zrtq15, h3Zrtq15, h4Zrtq15, ttq15, r0Zrtq15, r1Zrtq15, r2Zrtq15, r3Zrtq15, r4Zrtq15⟩ := pbZrtq15
                  unfold f_Reader_takeStep_147
                  exact ⟨_, rfl, Wq15, F419, ⟨btq15, bgq15, bsq15, bfaq15, bslq15, h0Zrtq15, h1Zrtq15, h2Zrtq15, h3Zrtq15, h4Zrtq15, ttq15, by (try dsimp only); omega, by (try dsimp only); omega, by (try dsimp only); omega, by (try dsimp only); omega, by (try dsimp only); omega⟩⟩
            · have := li_16
              have hq384 := i_nlt hq384
              obtain ⟨w19, ew19⟩ := go_6 W t_a0
              refine wb ew19 ?_
              have := li_3
              obtain ⟨q18, eq18, Wq18, fq18, pbZrfq18⟩ := p_Reader_fail hn W (a1 := 3) t_a0 (by omega) (by omega) ⟨bt0, bg0, bs0, bfa0, bsl0, h0Zrd0, h1Zrd0, h2Zrd0, h3Zrd0, h4Zrd0, tt0, by (try dsimp only); omega, by (try dsimp only); omega, by (try dsimp only); omega, by (try dsimp only); omega⟩
              refine wb eq18 ?_
              have e430 := (Zfr.gr fq18 t_a0 (by decide)).trans h0Zrd0
              have e431 := (Zfr.gi fq18 tt0 (by decide)).trans h1Zrd0
              have e432 := (Zfr.gi fq18 t_a0 (by decide)).trans h2Zrd0
              have e433 := (Zfr.gi fq18 t_a0 (by decide)).trans h4Zrd0
              have F434 := Zfr.tr F0 fq18 (by decide)
              obtain ⟨btq18, bgq18, bsq18, bfaq18, bslq18, h0Zrfq18, h1Zrfq18, h2Zrfq18, h3Zrfq18, h4Zrfq18, ttq18, r0Zrfq18, r1Zrfq18, r2Zrfq18, r3Zrfq18, r4Zrfq18⟩ := pbZrfq18
              unfold f_Reader_takeStep_147
              exact ⟨_, rfl, Wq18, F434, ⟨btq18, bgq18, bsq18, bfaq18, bslq18, h0Zrfq18, h1Zrfq18, h2Zrfq18, h3Zrfq18, h4Zrfq18, ttq18, by (try dsimp only); omega, by (try dsimp only); omega, by (try dsimp only); omega, by (try dsimp only); omega, by (try dsimp only); omega⟩⟩
        · have := li_1
          have := li_0
          have hq308 := i_ne hq308
          refine wi (fun hq440 => ?_) (fun hq440 => ?_)
          · have := li_40
            have hq440 := i_eq hq440
            obtain ⟨v25, ev25, tv25⟩ := gf_6_5 W t_a0
            refine wb ev25 ?_
            obtain ⟨w27, ew27⟩ := go_2 W tv25
            refine wb ew27 ?_
            obtain ⟨q26, eq26, Wq26, fq26⟩ := p_Way_openRows hn W  tv25
            refine wb eq26 ?_
            have e441 := (Zfr.gr fq26 t_a0 (by decide)).trans h0Zrd0
            have e442 := (Zfr.gi fq26 tt0 (by decide)).trans h1Zrd0
            have e443 := (Zfr.gi fq26 t_a0 (by decide)).trans h2Zrd0
            have e444 := (Zfr.gi fq26 t_a0 (by decide)).trans h3Zrd0
            have e445 := (Zfr.gi fq26 t_a0 (by decide)).trans h4Zrd0
            have F446 := Zfr.tr F0 fq26 (by decide)
            obtain ⟨v28, ev28, tv28⟩ := gf_6_2 Wq26 t_a0
            refine wb ev28 ?_
            obtain ⟨v29, ev29, _⟩ := gf_5_0 Wq26 tv28
            refine wb ev29 ?_
            obtain ⟨c30, ec30, Wc30, fc30, gc30⟩ := pf_5_0 Wq26 tv28 (x := (v29 + 1)) (trivial)
            refine wb ec30 ?_
            have e447 := (Zfr.gr fc30 t_a0 (by decide)).trans e441
            have e448 := (Zfr.gi fc30 tt0 (by decide)).trans e442
            have e449 := (Zfr.gi fc30 t_a0 (by decide)).trans e443
            have e450 := (Zfr.gi fc30 t_a0 (by decide)).trans e444
            have e451 := (Zfr.gi fc30 t_a0 (by decide)).trans e445
            have F452 := Zfr.tr F446 fc30 (by decide)
            unfold f_Reader_takeStep_147
            exact ⟨_, rfl, Wc30, F452, ⟨bt0, bg0, bs0, bfa0, bsl0, e447, e448, e449, e450, e451, tt0, by (try dsimp only); omega, by (try dsimp only); omega, by (try dsimp only); omega, by (try dsimp only); omega, by (try dsimp only); omega⟩⟩
          · have := li_40
            have hq440 := i_ne hq440
            unfold f_Reader_takeStep_65
            refine wi (fun hq458 => ?_) (fun hq458 => ?_)
            · have hq458 := i_eq hq458
              refine wi (fun hq459 => ?_) (fun hq459 => ?_)
              · have hq459 := i_eq hq459
                unfold f_Reader_takeStep_79
                obtain ⟨w22, ew22⟩ := go_6 W t_a0
                refine wb ew22 ?_
                have := li_2
                obtain ⟨q21, eq21, Wq21, fq21, pbZrfq21⟩ := p_Reader_fail hn W (a1 := 2) t_a0 (by omega) (by omega) ⟨bt0, bg0, bs0, bfa0, bsl0, h0Zrd0, h1Zrd0, h2Zrd0, h3Zrd0, h4Zrd0, tt0, by (try dsimp only); omega, by (try dsimp only); omega, by (try dsimp only); omega, by (try dsimp only); omega⟩
                refine wb eq21 ?_
                have e465 := (Zfr.gr fq21 t_a0 (by decide)).trans h0Zrd0
                have e466 := (Zfr.gi fq21 tt0 (by decide)).trans h1Zrd0
                have e467 := (Zfr.gi fq21 t_a0 (by decide)).trans h2Zrd0
                have e468 := (Zfr.gi fq21 t_a0 (by decide)).trans h4Zrd0
                have F469 := Zfr.tr F0 fq21 (by decide)
                obtain ⟨btq21, bgq21, bsq21, bfaq21, bslq21, h0Zrfq21, h1Zrfq21, h2Zrfq21, h3Zrfq21, h4Zrfq21, ttq21, r0Zrfq21, r1Zrfq21, r2Zrfq21, r3Zrfq21, r4Zrfq21⟩ := pbZrfq21
                unfold f_Reader_takeStep_147
                exact ⟨_, rfl, Wq21, F469, ⟨btq21, bgq21, bsq21, bfaq21, bslq21, h0Zrfq21, h1Zrfq21, h2Zrfq21, h3Zrfq21, h4Zrfq21, ttq21, by (try dsimp only); omega, by (try dsimp only); omega, by (try dsimp only); omega, by (try dsimp only); omega, by (try dsimp only); omega⟩⟩
              · have hq459 := i_ne hq459
                refine wi (fun hq475 => ?_) (fun hq475 => ?_)
                · have := li_94
                  have hq475 := i_eq hq475
                  unfold f_Reader_takeStep_87
                  obtain ⟨v6, ev6, tv6⟩ := gf_6_5 W t_a0
                  refine wb ev6 ?_
                  obtain ⟨v7, ev7, lv7, uv7⟩ := gf_2_5 W tv6
                  refine wb ev7 ?_
                  refine wi (fun hq476 => ?_) (fun hq476 => ?_)
                  · have := li_16
                    have hq476 := i_lt hq476
                    refine wi (fun hq477 => ?_) (fun hq477 => ?_)
                    · have hq477 := i_eq hq477
                      obtain ⟨c17, ec17, Wc17, fc17, gc17⟩ := pf_6_8 W t_a0 (x := 13) (trivial)
                      refine wb ec17 ?_
                      have e478 := (Zfr.gr fc17 t_a0 (by decide)).trans h0Zrd0
                      have e479 := (Zfr.gi fc17 tt0 (by decide)).trans h1Zrd0
                      have e480 := (Zfr.gi fc17 t_a0 (by decide)).trans h3Zrd0
                      have e481 := (Zfr.gi fc17 t_a0 (by decide)).trans h4Zrd0
                      have F482 := Zfr.tr F0 fc17 (by decide)
                      unfold f_Reader_takeStep_147
                      have := li_13
                      exact ⟨_, rfl, Wc17, F482, ⟨bt0, bg0, (13 : Int32), bfa0, bsl0, e478, e479, gc17, e480, e481, tt0, by (try dsimp only); omega, by (try dsimp only); omega, by (try dsimp only); omega, by (try dsimp only); omega, by (try dsimp only); omega⟩⟩
                    · have hq477 := i_ne hq477
                      refine wi (fun hq488 => ?_) (fun hq488 => ?_)
                      · have hq488 := i_eq hq488
                        exfalso
                        omega
                      · have hq488 := i_ne hq488
                        refine wb h5Zrd0 ?_
                        refine wb h7Zrd0 ?_
                        refine wb h6Zrd0 ?_
                        refine wb h8Zrd0 ?_
                        unfold f_Reader_takeStep_144
                        obtain ⟨w16, ew16⟩ := go_6 W t_a0
                        refine wb ew16 ?_
                        obtain ⟨q15, eq15, Wq15, fq15, pbZrtq15⟩ := p_Reader_addStep hn W (a1 := bv0) t_a0 (by omega) (by omega) ⟨bt0, bg0, bs0, bfa0, bsl0, h0Zrd0, h1Zrd0, h2Zrd0, h3Zrd0, h4Zrd0, tt0, by (try dsimp only); omega, by (try dsimp only); omega, by (try dsimp only); omega, by (try dsimp only); omega, by (try dsimp only); omega⟩
                        refine wb eq15 ?_
                        have e494 := (Zfr.gr fq15 t_a0 (by decide)).trans h0Zrd0
                        have e495 := (Zfr.gi fq15 tt0 (by decide)).trans h1Zrd0
                        have e496 := (Zfr.gi fq15 t_a0 (by decide)).trans h4Zrd0
                        have F497 := Zfr.tr F0 fq15 (by decide)
                        obtain ⟨btq15, bgq15, bsq15, bfaq15, bslq15, h0Zrtq15, h1Zrtq15, h2Zrtq15, h3Zrtq15, h4Zrtq15, ttq15, r0Zrtq15, r1Zrtq15, r2Zrtq15, r3Zrtq15, r4Zrtq15⟩ := pbZrtq15
                        unfold f_Reader_takeStep_147
                        exact ⟨_, rfl, Wq15, F497, ⟨btq15, bgq15, bsq15, bfaq15, bslq15, h0Zrtq15, h1Zrtq15, h2Zrtq15, h3Zrtq15, h4Zrtq15, ttq15, by (try dsimp only); omega, by (try dsimp only); omega, by (try dsimp only); omega, by (try dsimp only); omega, by (try dsimp only); omega⟩⟩
                  · have := li_16
                    have hq476 := i_nlt hq476
                    obtain ⟨w19, ew19⟩ := go_6 W t_a0
                    refine wb ew19 ?_
                    have := li_3
                    obtain ⟨q18, eq18, Wq18, fq18, pbZrfq18⟩ := p_Reader_fail hn W (a1 := 3) t_a0 (by omega) (by omega) ⟨bt0, bg0, bs0, bfa0, bsl0, h0Zrd0, h1Zrd0, h2Zrd0, h3Zrd0, h4Zrd0, tt0, by (try dsimp only); omega, by (try dsimp only); omega, by (try dsimp only); omega, by (try dsimp only); omega⟩
                    refine wb eq18 ?_
                    have e508 := (Zfr.gr fq18 t_a0 (by decide)).trans h0Zrd0
                    have e509 := (Zfr.gi fq18 tt0 (by decide)).trans h1Zrd0
                    have e510 := (Zfr.gi fq18 t_a0 (by decide)).trans h2Zrd0
                    have e511 := (Zfr.gi fq18 t_a0 (by decide)).trans h4Zrd0
                    have F512 := Zfr.tr F0 fq18 (by decide)
                    obtain ⟨btq18, bgq18, bsq18, bfaq18, bslq18, h0Zrfq18, h1Zrfq18, h2Zrfq18, h3Zrfq18, h4Zrfq18, ttq18, r0Zrfq18, r1Zrfq18, r2Zrfq18, r3Zrfq18, r4Zrfq18⟩ := pbZrfq18
                    unfold f_Reader_takeStep_147
                    exact ⟨_, rfl, Wq18, F512, ⟨btq18, bgq18, bsq18, bfaq18, bslq18, h0Zrfq18, h1Zrfq18, h2Zrfq18, h3Zrfq18, h4Zrfq18, ttq18, by (try dsimp only); omega, by (try dsimp only); omega, by (try dsimp only); omega, by (try dsimp only); omega, by (try dsimp only); omega⟩⟩
                · have := li_94
                  have hq475 := i_ne hq475
                  unfold f_Reader_takeStep_79
                  obtain ⟨w22, ew22⟩ := go_6 W t_a0
                  refine wb ew22 ?_
                  have := li_2
                  obtain ⟨q21, eq21, Wq21, fq21, pbZrfq21⟩ := p_Reader_fail hn W (a1 := 2) t_a0 (by omega) (by omega) ⟨bt0, bg0, bs0, bfa0, bsl0, h0Zrd0, h1Zrd0, h2Zrd0, h3Zrd0, h4Zrd0, tt0, by (try dsimp only); omega, by (try dsimp only); omega, by (try dsimp only); omega, by (try dsimp only); omega⟩
                  refine wb eq21 ?_
                  have e523 := (Zfr.gr fq21 t_a0 (by decide)).trans h0Zrd0
                  have e524 := (Zfr.gi fq21 tt0 (by decide)).trans h1Zrd0
                  have e525 := (Zfr.gi fq21 t_a0 (by decide)).trans h2Zrd0
                  have e526 := (Zfr.gi fq21 t_a0 (by decide)).trans h4Zrd0
                  have F527 := Zfr.tr F0 fq21 (by decide)
                  obtain ⟨btq21, bgq21, bsq21, bfaq21, bslq21, h0Zrfq21, h1Zrfq21, h2Zrfq21, h3Zrfq21, h4Zrfq21, ttq21, r0Zrfq21, r1Zrfq21, r2Zrfq21, r3Zrfq21, r4Zrfq21⟩ := pbZrfq21
                  unfold f_Reader_takeStep_147
                  exact ⟨_, rfl, Wq21, F527, ⟨btq21, bgq21, bsq21, bfaq21, bslq21, h0Zrfq21, h1Zrfq21, h2Zrfq21, h3Zrfq21, h4Zrfq21, ttq21, by (try dsimp only); omega, by (try dsimp only); omega, by (try dsimp only); omega, by (try dsimp only); omega, by (try dsimp only); omega⟩⟩
            · have hq458 := i_ne hq458
              unfold f_Reader_takeStep_87
              obtain ⟨v6, ev6, tv6⟩ := gf_6_5 W t_a0
              refine wb ev6 ?_
              obtain ⟨v7, ev7, lv7, uv7⟩ := gf_2_5 W tv6
              refine wb ev7 ?_
              refine wi (fun hq533 => ?_) (fun hq533 => ?_)
              · have := li_16
                have hq533 := i_lt hq533
                refine wi (fun hq534 => ?_) (fun hq534 => ?_)
                · have hq534 := i_eq hq534
                  obtain ⟨c17, ec17, Wc17, fc17, gc17⟩ := pf_6_8 W t_a0 (x := 13) (trivial)
                  refine wb ec17 ?_
                  have e535 := (Zfr.gr fc17 t_a0 (by decide)).trans h0Zrd0
                  have e536 := (Zfr.gi fc17 tt0 (by decide)).trans h1Zrd0
                  have e537 := (Zfr.gi fc17 t_a0 (by decide)).trans h3Zrd0
                  have e538 := (Zfr.gi fc17 t_a0 (by decide)).trans h4Zrd0
                  have F539 := Zfr.tr F0 fc17 (by decide)
                  unfold f_Reader_takeStep_147
                  have := li_13
                  exact ⟨_, rfl, Wc17, F539, ⟨bt0, bg0, (13 : Int32), bfa0, bsl0, e535, e536, gc17, e537, e538, tt0, by (try dsimp only); omega, by (try dsimp only); omega, by (try dsimp only); omega, by (try dsimp only); omega, by (try dsimp only); omega⟩⟩
                · have hq534 := i_ne hq534
                  refine wi (fun hq545 => ?_) (fun hq545 => ?_)
                  · have hq545 := i_eq hq545
                    unfold f_Reader_takeStep_144
                    obtain ⟨w16, ew16⟩ := go_6 W t_a0
                    refine wb ew16 ?_
                    obtain ⟨q15, eq15, Wq15, fq15, pbZrtq15⟩ := p_Reader_addStep hn W (a1 := 12) t_a0 (by omega) (by omega) ⟨bt0, bg0, bs0, bfa0, bsl0, h0Zrd0, h1Zrd0, h2Zrd0, h3Zrd0, h4Zrd0, tt0, by (try dsimp only); omega, by (try dsimp only); omega, by (try dsimp only); omega, by (try dsimp only); omega, by (try dsimp only); omega⟩
                    refine wb eq15 ?_
                    have e551 := (Zfr.gr fq15 t_a0 (by decide)).trans h0Zrd0
                    have e552 := (Zfr.gi fq15 tt0 (by decide)).trans h1Zrd0
                    have e553 := (Zfr.gi fq15 t_a0 (by decide)).trans h4Zrd0
                    have F554 := Zfr.tr F0 fq15 (by decide)
                    obtain ⟨btq15, bgq15, bsq15, bfaq15, bslq15, h0Zrtq15, h1Zrtq15, h2Zrtq15, h3Zrtq15, h4Zrtq15, ttq15, r0Zrtq15, r1Zrtq15, r2Zrtq15, r3Zrtq15, r4Zrtq15⟩ := pbZrtq15
                    unfold f_Reader_takeStep_147
                    exact ⟨_, rfl, Wq15, F554, ⟨btq15, bgq15, bsq15, bfaq15, bslq15, h0Zrtq15, h1Zrtq15, h2Zrtq15, h3Zrtq15, h4Zrtq15, ttq15, by (try dsimp only); omega, by (try dsimp only); omega, by (try dsimp only); omega, by (try dsimp only); omega, by (try dsimp only); omega⟩⟩
                  · have hq545 := i_ne hq545
                    refine wb h5Zrd0 ?_
                    refine wb h7Zrd0 ?_
                    refine wb h6Zrd0 ?_
                    refine wb h8Zrd0 ?_
                    unfold f_Reader_takeStep_144
                    obtain ⟨w16, ew16⟩ := go_6 W t_a0
                    refine wb ew16 ?_
                    obtain ⟨q15, eq15, Wq15, fq15, pbZrtq15⟩ := p_Reader_addStep hn W (a1 := bv0) t_a0 (by omega) (by omega) ⟨bt0, bg0, bs0, bfa0, bsl0, h0Zrd0, h1Zrd0, h2Zrd0, h3Zrd0, h4Zrd0, tt0, by (try dsimp only); omega, by (try dsimp only); omega, by (try dsimp only); omega, by (try dsimp only); omega, by (try dsimp only); omega⟩
                    refine wb eq15 ?_
                    have e565 := (Zfr.gr fq15 t_a0 (by decide)).trans h0Zrd0
                    have e566 := (Zfr.gi fq15 tt0 (by decide)).trans h1Zrd0
                    have e567 := (Zfr.gi fq15 t_a0 (by decide)).trans h4Zrd0
                    have F568 := Zfr.tr F0 fq15 (by decide)
                    obtain ⟨btq15, bgq15, bsq15, bfaq15, bslq15, h0Zrtq15, h1Zrtq15, h2Zrtq15, h3Zrtq15, h4Zrtq15, ttq15, r0Zrtq15, r1Zrtq15, r2Zrtq15, r3Zrtq15, r4Zrtq15⟩ := pbZrtq15
                    unfold f_Reader_takeStep_147
                    exact ⟨_, rfl, Wq15, F568, ⟨btq15, bgq15, bsq15, bfaq15, bslq15, h0Zrtq15, h1Zrtq15, h2Zrtq15, h3Zrtq15, h4Zrtq15, ttq15, by (try dsimp only); omega, by (try dsimp only); omega, by (try dsimp only); omega, by (try dsimp only); omega, by (try dsimp only); omega⟩⟩
              · have := li_16
                have hq533 := i_nlt hq533
                obtain ⟨w19, ew19⟩ := go_6 W t_a0
                refine wb ew19 ?_
                have := li_3
                obtain ⟨q18, eq18, Wq18, fq18, pbZrfq18⟩ := p_Reader_fail hn W (a1 := 3) t_a0 (by omega) (by omega) ⟨bt0, bg0, bs0, bfa0, bsl0, h0Zrd0, h1Zrd0, h2Zrd0, h3Zrd0, h4Zrd0, tt0, by (try dsimp only); omega, by (try dsimp only); omega, by (try dsimp only); omega, by (try dsimp only); omega⟩
                refine wb eq18 ?_
                have e579 := (Zfr.gr fq18 t_a0 (by decide)).trans h0Zrd0
                have e580 := (Zfr.gi fq18 tt0 (by decide)).trans h1Zrd0
                have e581 := (Zfr.gi fq18 t_a0 (by decide)).trans h2Zrd0
                have e582 := (Zfr.gi fq18 t_a0 (by decide)).trans h4Zrd0
                have F583 := Zfr.tr F0 fq18 (by decide)
                obtain ⟨btq18, bgq18, bsq18, bfaq18, bslq18, h0Zrfq18, h1Zrfq18, h2Zrfq18, h3Zrfq18, h4Zrfq18, ttq18, r0Zrfq18, r1Zrfq18, r2Zrfq18, r3Zrfq18, r4Zrfq18⟩ := pbZrfq18
                unfold f_Reader_takeStep_147
                exact ⟨_, rfl, Wq18, F583, ⟨btq18, bgq18, bsq18, bfaq18, bslq18, h0Zrfq18, h1Zrfq18, h2Zrfq18, h3Zrfq18, h4Zrfq18, ttq18, by (try dsimp only); omega, by (try dsimp only); omega, by (try dsimp only); omega, by (try dsimp only); omega, by (try dsimp only); omega⟩⟩
  · have := li_12
    have := i_ge bs0
    have := i_up bs0
    have hq1 := i_ne hq1
    unfold f_Reader_takeStep_14
    refine wi (fun hq589 => ?_) (fun hq589 => ?_)
    · have := li_5
      have := i_ge a1
      have := i_up a1
      have hq589 := i_eq hq589
      have := tkr5 r10Zrd0 (by omega)
      unfold f_Reader_takeStep_26
      unfold f_Reader_takeStep_31
      refine wi (fun hq590 => ?_) (fun hq590 => ?_)
      · have := li_0
        have hq590 := i_eq hq590
        unfold f_Reader_takeStep_65
        refine wi (fun hq591 => ?_) (fun hq591 => ?_)
        · have := li_1
          have hq591 := i_eq hq591
          refine wi (fun hq592 => ?_) (fun hq592 => ?_)
          · have hq592 := i_eq hq592
            unfold f_Reader_takeStep_79
            obtain ⟨w22, ew22⟩ := go_6 W t_a0
            refine wb ew22 ?_
            have := li_2
            obtain ⟨q21, eq21, Wq21, fq21, pbZrfq21⟩ := p_Reader_fail hn W (a1 := 2) t_a0 (by omega) (by omega) ⟨bt0, bg0, bs0, bfa0, bsl0, h0Zrd0, h1Zrd0, h2Zrd0, h3Zrd0, h4Zrd0, tt0, by (try dsimp only); omega, by (try dsimp only); omega, by (try dsimp only); omega, by (try dsimp only); omega⟩
            refine wb eq21 ?_
            have e598 := (Zfr.gr fq21 t_a0 (by decide)).trans h0Zrd0
            have e599 := (Zfr.gi fq21 tt0 (by decide)).trans h1Zrd0
            have e600 := (Zfr.gi fq21 t_a0 (by decide)).trans h2Zrd0
            have e601 := (Zfr.gi fq21 t_a0 (by decide)).trans h4Zrd0
            have F602 := Zfr.tr F0 fq21 (by decide)
            obtain ⟨btq21, bgq21, bsq21, bfaq21, bslq21, h0Zrfq21, h1Zrfq21, h2Zrfq21, h3Zrfq21, h4Zrfq21, ttq21, r0Zrfq21, r1Zrfq21, r2Zrfq21, r3Zrfq21, r4Zrfq21⟩ := pbZrfq21
            unfold f_Reader_takeStep_147
            exact ⟨_, rfl, Wq21, F602, ⟨btq21, bgq21, bsq21, bfaq21, bslq21, h0Zrfq21, h1Zrfq21, h2Zrfq21, h3Zrfq21, h4Zrfq21, ttq21, by (try dsimp only); omega, by (try dsimp only); omega, by (try dsimp only); omega, by (try dsimp only); omega, by (try dsimp only); omega⟩⟩
          · have hq592 := i_ne hq592
            refine wi (fun hq608 => ?_) (fun hq608 => ?_)
            · have := li_94
              have hq608 := i_eq hq608
              exfalso
              omega
            · have := li_94
              have hq608 := i_ne hq608
              unfold f_Reader_takeStep_79
              obtain ⟨w22, ew22⟩ := go_6 W t_a0
              refine wb ew22 ?_
              have := li_2
              obtain ⟨q21, eq21, Wq21, fq21, pbZrfq21⟩ := p_Reader_fail hn W (a1 := 2) t_a0 (by omega) (by omega) ⟨bt0, bg0, bs0, bfa0, bsl0, h0Zrd0, h1Zrd0, h2Zrd0, h3Zrd0, h4Zrd0, tt0, by (try dsimp only); omega, by (try dsimp only); omega, by (try dsimp only); omega, by (try dsimp only); omega⟩
              refine wb eq21 ?_
              have e614 := (Zfr.gr fq21 t_a0 (by decide)).trans h0Zrd0
              have e615 := (Zfr.gi fq21 tt0 (by decide)).trans h1Zrd0
              have e616 := (Zfr.gi fq21 t_a0 (by decide)).trans h2Zrd0
              have e617 := (Zfr.gi fq21 t_a0 (by decide)).trans h4Zrd0
              have F618 := Zfr.tr F0 fq21 (by decide)
              obtain ⟨btq21, bgq21, bsq21, bfaq21, bslq21, h0Zrfq21, h1Zrfq21, h2Zrfq21, h3Zrfq21, h4Zrfq21, ttq21, r0Zrfq21, r1Zrfq21, r2Zrfq21, r3Zrfq21, r4Zrfq21⟩ := pbZrfq21
              unfold f_Reader_takeStep_147
              exact ⟨_, rfl, Wq21, F618, ⟨btq21, bgq21, bsq21, bfaq21, bslq21, h0Zrfq21, h1Zrfq21, h2Zrfq21, h3Zrfq21, h4Zrfq21, ttq21, by (try dsimp only); omega, by (try dsimp only); omega, by (try dsimp only); omega, by (try dsimp only); omega, by (try dsimp only); omega⟩⟩
        · have := li_1
          have hq591 := i_ne hq591
          unfold f_Reader_takeStep_87
          obtain ⟨v6, ev6, tv6⟩ := gf_6_5 W t_a0
          refine wb ev6 ?_
          obtain ⟨v7, ev7, lv7, uv7⟩ := gf_2_5 W tv6
          refine wb ev7 ?_
          refine wi (fun hq624 => ?_) (fun hq624 => ?_)
          · have := li_16
            have hq624 := i_lt hq624
            refine wi (fun hq625 => ?_) (fun hq625 => ?_)
            · have hq625 := i_eq hq625
              obtain ⟨c17, ec17, Wc17, fc17, gc17⟩ := pf_6_8 W t_a0 (x := 13) (trivial)
              refine wb ec17 ?_
              have e626 := (Zfr.gr fc17 t_a0 (by decide)).trans h0Zrd0
              have e627 := (Zfr.gi fc17 tt0 (by decide)).trans h1Zrd0
              have e628 := (Zfr.gi fc17 t_a0 (by decide)).trans h3Zrd0
              have e629 := (Zfr.gi fc17 t_a0 (by decide)).trans h4Zrd0
              have F630 := Zfr.tr F0 fc17 (by decide)
              unfold f_Reader_takeStep_147
              have := li_13
              exact ⟨_, rfl, Wc17, F630, ⟨bt0, bg0, (13 : Int32), bfa0, bsl0, e626, e627, gc17, e628, e629, tt0, by (try dsimp only); omega, by (try dsimp only); omega, by (try dsimp only); omega, by (try dsimp only); omega, by (try dsimp only); omega⟩⟩
            · have hq625 := i_ne hq625
              refine wi (fun hq636 => ?_) (fun hq636 => ?_)
              · have := li_95
                have hq636 := i_eq hq636
                exfalso
                omega
              · have := li_95
                have hq636 := i_ne hq636
                refine wb h5Zrd0 ?_
                refine wb h7Zrd0 ?_
                refine wb h6Zrd0 ?_
                refine wb h8Zrd0 ?_
                unfold f_Reader_takeStep_144
                obtain ⟨w16, ew16⟩ := go_6 W t_a0
                refine wb ew16 ?_
                obtain ⟨q15, eq15, Wq15, fq15, pbZrtq15⟩ := p_Reader_addStep hn W (a1 := bv0) t_a0 (by omega) (by omega) ⟨bt0, bg0, bs0, bfa0, bsl0, h0Zrd0, h1Zrd0, h2Zrd0, h3Zrd0, h4Zrd0, tt0, by (try dsimp only); omega, by (try dsimp only); omega, by (try dsimp only); omega, by (try dsimp only); omega, by (try dsimp only); omega⟩
                refine wb eq15 ?_
                have e642 := (Zfr.gr fq15 t_a0 (by decide)).trans h0Zrd0
                have e643 := (Zfr.gi fq15 tt0 (by decide)).trans h1Zrd0
                have e644 := (Zfr.gi fq15 t_a0 (by decide)).trans h4Zrd0
                have F645 := Zfr.tr F0 fq15 (by decide)
                obtain ⟨btq15, bgq15, bsq15, bfaq15, bslq15, h0Zrtq15, h1Zrtq15, h2Zrtq15, h3Zrtq15, h4Zrtq15, ttq15, r0Zrtq15, r1Zrtq15, r2Zrtq15, r3Zrtq15, r4Zrtq15⟩ := pbZrtq15
                unfold f_Reader_takeStep_147
                exact ⟨_, rfl, Wq15, F645, ⟨btq15, bgq15, bsq15, bfaq15, bslq15, h0Zrtq15, h1Zrtq15, h2Zrtq15, h3Zrtq15, h4Zrtq15, ttq15, by (try dsimp only); omega, by (try dsimp only); omega, by (try dsimp only); omega, by (try dsimp only); omega, by (try dsimp only); omega⟩⟩
          · have := li_16
            have hq624 := i_nlt hq624
            obtain ⟨w19, ew19⟩ := go_6 W t_a0
            refine wb ew19 ?_
            have := li_3
            obtain ⟨q18, eq18, Wq18, fq18, pbZrfq18⟩ := p_Reader_fail hn W (a1 := 3) t_a0 (by omega) (by omega) ⟨bt0, bg0, bs0, bfa0, bsl0, h0Zrd0, h1Zrd0, h2Zrd0, h3Zrd0, h4Zrd0, tt0, by (try dsimp only); omega, by (try dsimp only); omega, by (try dsimp only); omega, by (try dsimp only); omega⟩
            refine wb eq18 ?_
            have e656 := (Zfr.gr fq18 t_a0 (by decide)).trans h0Zrd0
            have e657 := (Zfr.gi fq18 tt0 (by decide)).trans h1Zrd0
            have e658 := (Zfr.gi fq18 t_a0 (by decide)).trans h2Zrd0
            have e659 := (Zfr.gi fq18 t_a0 (by decide)).trans h4Zrd0
            have F660 := Zfr.tr F0 fq18 (by decide)
            obtain ⟨btq18, bgq18, bsq18, bfaq18, bslq18, h0Zrfq18, h1Zrfq18, h2Zrfq18, h3Zrfq18, h4Zrfq18, ttq18, r0Zrfq18, r1Zrfq18, r2Zrfq18, r3Zrfq18, r4Zrfq18⟩ := pbZrfq18
            unfold f_Reader_takeStep_147
            exact ⟨_, rfl, Wq18, F660, ⟨btq18, bgq18, bsq18, bfaq18, bslq18, h0Zrfq18, h1Zrfq18, h2Zrfq18, h3Zrfq18, h4Zrfq18, ttq18, by (try dsimp only); omega, by (try dsimp only); omega, by (try dsimp only); omega, by (try dsimp only); omega, by (try dsimp only); omega⟩⟩
      · have := li_0
        have hq590 := i_ne hq590
        refine wi (fun hq666 => ?_) (fun hq666 => ?_)
        · have := li_40
          have hq666 := i_eq hq666
          exfalso
          omega
        · have := li_40
          have hq666 := i_ne hq666
          unfold f_Reader_takeStep_65
          refine wi (fun hq667 => ?_) (fun hq667 => ?_)
          · have := li_1
            have hq667 := i_eq hq667
            refine wi (fun hq668 => ?_) (fun hq668 => ?_)
            · have hq668 := i_eq hq668
              unfold f_Reader_takeStep_79
              obtain ⟨w22, ew22⟩ := go_6 W t_a0
              refine wb ew22 ?_
              have := li_2
              obtain ⟨q21, eq21, Wq21, fq21, pbZrfq21⟩ := p_Reader_fail hn W (a1 := 2) t_a0 (by omega) (by omega) ⟨bt0, bg0, bs0, bfa0, bsl0, h0Zrd0, h1Zrd0, h2Zrd0, h3Zrd0, h4Zrd0, tt0, by (try dsimp only); omega, by (try dsimp only); omega, by (try dsimp only); omega, by (try dsimp only); omega⟩
              refine wb eq21 ?_
              have e674 := (Zfr.gr fq21 t_a0 (by decide)).trans h0Zrd0
              have e675 := (Zfr.gi fq21 tt0 (by decide)).trans h1Zrd0
              have e676 := (Zfr.gi fq21 t_a0 (by decide)).trans h2Zrd0
              have e677 := (Zfr.gi fq21 t_a0 (by decide)).trans h4Zrd0
              have F678 := Zfr.tr F0 fq21 (by decide)
              obtain ⟨btq21, bgq21, bsq21, bfaq21, bslq21, h0Zrfq21, h1Zrfq21, h2Zrfq21, h3Zrfq21, h4Zrfq21, ttq21, r0Zrfq21, r1Zrfq21, r2Zrfq21, r3Zrfq21, r4Zrfq21⟩ := pbZrfq21
              unfold f_Reader_takeStep_147
              exact ⟨_, rfl, Wq21, F678, ⟨btq21, bgq21, bsq21, bfaq21, bslq21, h0Zrfq21, h1Zrfq21, h2Zrfq21, h3Zrfq21, h4Zrfq21, ttq21, by (try dsimp only); omega, by (try dsimp only); omega, by (try dsimp only); omega, by (try dsimp only); omega, by (try dsimp only); omega⟩⟩
            · have hq668 := i_ne hq668
              refine wi (fun hq684 => ?_) (fun hq684 => ?_)
              · have := li_94
                have hq684 := i_eq hq684
                exfalso
                omega
              · have := li_94
                have hq684 := i_ne hq684
                unfold f_Reader_takeStep_79
                obtain ⟨w22, ew22⟩ := go_6 W t_a0
                refine wb ew22 ?_
                have := li_2
                obtain ⟨q21, eq21, Wq21, fq21, pbZrfq21⟩ := p_Reader_fail hn W (a1 := 2) t_a0 (by omega) (by omega) ⟨bt0, bg0, bs0, bfa0, bsl0, h0Zrd0, h1Zrd0, h2Zrd0, h3Zrd0, h4Zrd0, tt0, by (try dsimp only); omega, by (try dsimp only); omega, by (try dsimp only); omega, by (try dsimp only); omega⟩
                refine wb eq21 ?_
                have e690 := (Zfr.gr fq21 t_a0 (by decide)).trans h0Zrd0
                have e691 := (Zfr.gi fq21 tt0 (by decide)).trans h1Zrd0
                have e692 := (Zfr.gi fq21 t_a0 (by decide)).trans h2Zrd0
                have e693 := (Zfr.gi fq21 t_a0 (by decide)).trans h4Zrd0
                have F694 := Zfr.tr F0 fq21 (by decide)
                obtain ⟨btq21, bgq21, bsq21, bfaq21, bslq21, h0Zrfq21, h1Zrfq21, h2Zrfq21, h3Zrfq21, h4Zrfq21, ttq21, r0Zrfq21, r1Zrfq21, r2Zrfq21, r3Zrfq21, r4Zrfq21⟩ := pbZrfq21
                unfold f_Reader_takeStep_147
                exact ⟨_, rfl, Wq21, F694, ⟨btq21, bgq21, bsq21, bfaq21, bslq21, h0Zrfq21, h1Zrfq21, h2Zrfq21, h3Zrfq21, h4Zrfq21, ttq21, by (try dsimp only); omega, by (try dsimp only); omega, by (try dsimp only); omega, by (try dsimp only); omega, by (try dsimp only); omega⟩⟩
          · have := li_1
            have hq667 := i_ne hq667
            unfold f_Reader_takeStep_87
            obtain ⟨v6, ev6, tv6⟩ := gf_6_5 W t_a0
            refine wb ev6 ?_
            obtain ⟨v7, ev7, lv7, uv7⟩ := gf_2_5 W tv6
            refine wb ev7 ?_
            refine wi (fun hq700 => ?_) (fun hq700 => ?_)
            · have := li_16
              have hq700 := i_lt hq700
              refine wi (fun hq701 => ?_) (fun hq701 => ?_)
              · have hq701 := i_eq hq701
                obtain ⟨c17, ec17, Wc17, fc17, gc17⟩ := pf_6_8 W t_a0 (x := 13) (trivial)
                refine wb ec17 ?_
                have e702 := (Zfr.gr fc17 t_a0 (by decide)).trans h0Zrd0
                have e703 := (Zfr.gi fc17 tt0 (by decide)).trans h1Zrd0
                have e704 := (Zfr.gi fc17 t_a0 (by decide)).trans h3Zrd0
                have e705 := (Zfr.gi fc17 t_a0 (by decide)).trans h4Zrd0
                have F706 := Zfr.tr F0 fc17 (by decide)
                unfold f_Reader_takeStep_147
                have := li_13
                exact ⟨_, rfl, Wc17, F706, ⟨bt0, bg0, (13 : Int32), bfa0, bsl0, e702, e703, gc17, e704, e705, tt0, by (try dsimp only); omega, by (try dsimp only); omega, by (try dsimp only); omega, by (try dsimp only); omega, by (try dsimp only); omega⟩⟩
              · have hq701 := i_ne hq701
                refine wi (fun hq712 => ?_) (fun hq712 => ?_)
                · have := li_95
                  have hq712 := i_eq hq712
                  exfalso
                  omega
                · have := li_95
                  have hq712 := i_ne hq712
                  refine wb h5Zrd0 ?_
                  refine wb h7Zrd0 ?_
                  refine wb h6Zrd0 ?_
                  refine wb h8Zrd0 ?_
                  unfold f_Reader_takeStep_144
                  obtain ⟨w16, ew16⟩ := go_6 W t_a0
                  refine wb ew16 ?_
                  obtain ⟨q15, eq15, Wq15, fq15, pbZrtq15⟩ := p_Reader_addStep hn W (a1 := bv0) t_a0 (by omega) (by omega) ⟨bt0, bg0, bs0, bfa0, bsl0, h0Zrd0, h1Zrd0, h2Zrd0, h3Zrd0, h4Zrd0, tt0, by (try dsimp only); omega, by (try dsimp only); omega, by (try dsimp only); omega, by (try dsimp only); omega, by (try dsimp only); omega⟩
                  refine wb eq15 ?_
                  have e718 := (Zfr.gr fq15 t_a0 (by decide)).trans h0Zrd0
                  have e719 := (Zfr.gi fq15 tt0 (by decide)).trans h1Zrd0
                  have e720 := (Zfr.gi fq15 t_a0 (by decide)).trans h4Zrd0
                  have F721 := Zfr.tr F0 fq15 (by decide)
                  obtain ⟨btq15, bgq15, bsq15, bfaq15, bslq15, h0Zrtq15, h1Zrtq15, h2Zrtq15, h3Zrtq15, h4Zrtq15, ttq15, r0Zrtq15, r1Zrtq15, r2Zrtq15, r3Zrtq15, r4Zrtq15⟩ := pbZrtq15
                  unfold f_Reader_takeStep_147
                  exact ⟨_, rfl, Wq15, F721, ⟨btq15, bgq15, bsq15, bfaq15, bslq15, h0Zrtq15, h1Zrtq15, h2Zrtq15, h3Zrtq15, h4Zrtq15, ttq15, by (try dsimp only); omega, by (try dsimp only); omega, by (try dsimp only); omega, by (try dsimp only); omega, by (try dsimp only); omega⟩⟩
            · have := li_16
              have hq700 := i_nlt hq700
              obtain ⟨w19, ew19⟩ := go_6 W t_a0
              refine wb ew19 ?_
              have := li_3
              obtain ⟨q18, eq18, Wq18, fq18, pbZrfq18⟩ := p_Reader_fail hn W (a1 := 3) t_a0 (by omega) (by omega) ⟨bt0, bg0, bs0, bfa0, bsl0, h0Zrd0, h1Zrd0, h2Zrd0, h3Zrd0, h4Zrd0, tt0, by (try dsimp only); omega, by (try dsimp only); omega, by (try dsimp only); omega, by (try dsimp only); omega⟩
              refine wb eq18 ?_
              have e732 := (Zfr.gr fq18 t_a0 (by decide)).trans h0Zrd0
              have e733 := (Zfr.gi fq18 tt0 (by decide)).trans h1Zrd0
              have e734 := (Zfr.gi fq18 t_a0 (by decide)).trans h2Zrd0
              have e735 := (Zfr.gi fq18 t_a0 (by decide)).trans h4Zrd0
              have F736 := Zfr.tr F0 fq18 (by decide)
              obtain ⟨btq18, bgq18, bsq18, bfaq18, bslq18, h0Zrfq18, h1Zrfq18, h2Zrfq18, h3Zrfq18, h4Zrfq18, ttq18, r0Zrfq18, r1Zrfq18, r2Zrfq18, r3Zrfq18, r4Zrfq18⟩ := pbZrfq18
              unfold f_Reader_takeStep_147
              exact ⟨_, rfl, Wq18, F736, ⟨btq18, bgq18, bsq18, bfaq18, bslq18, h0Zrfq18, h1Zrfq18, h2Zrfq18, h3Zrfq18, h4Zrfq18, ttq18, by (try dsimp only); omega, by (try dsimp only); omega, by (try dsimp only); omega, by (try dsimp only); omega, by (try dsimp only); omega⟩⟩
    · have := li_5
      have := i_ge a1
      have := i_up a1
      have hq589 := i_ne hq589
      refine wi (fun hq742 => ?_) (fun hq742 => ?_)
      · have := li_95
        have hq742 := i_eq hq742
        unfold f_Reader_takeStep_26
        unfold f_Reader_takeStep_31
        refine wi (fun hq743 => ?_) (fun hq743 => ?_)
        · have := li_0
          have hq743 := i_eq hq743
          unfold f_Reader_takeStep_65
          refine wi (fun hq744 => ?_) (fun hq744 => ?_)
          · have := li_1
            have hq744 := i_eq hq744
            refine wi (fun hq745 => ?_) (fun hq745 => ?_)
            · have hq745 := i_eq hq745
              unfold f_Reader_takeStep_79
              obtain ⟨w22, ew22⟩ := go_6 W t_a0
              refine wb ew22 ?_
              have := li_2
              obtain ⟨q21, eq21, Wq21, fq21, pbZrfq21⟩ := p_Reader_fail hn W (a1 := 2) t_a0 (by omega) (by omega) ⟨bt0, bg0, bs0, bfa0, bsl0, h0Zrd0, h1Zrd0, h2Zrd0, h3Zrd0, h4Zrd0, tt0, by (try dsimp only); omega, by (try dsimp only); omega, by (try dsimp only); omega, by (try dsimp only); omega⟩
              refine wb eq21 ?_
              have e751 := (Zfr.gr fq21 t_a0 (by decide)).trans h0Zrd0
              have e752 := (Zfr.gi fq21 tt0 (by decide)).trans h1Zrd0
              have e753 := (Zfr.gi fq21 t_a0 (by decide)).trans h2Zrd0
              have e754 := (Zfr.gi fq21 t_a0 (by decide)).trans h4Zrd0
              have F755 := Zfr.tr F0 fq21 (by decide)
              obtain ⟨btq21, bgq21, bsq21, bfaq21, bslq21, h0Zrfq21, h1Zrfq21, h2Zrfq21, h3Zrfq21, h4Zrfq21, ttq21, r0Zrfq21, r1Zrfq21, r2Zrfq21, r3Zrfq21, r4Zrfq21⟩ := pbZrfq21
              unfold f_Reader_takeStep_147
              exact ⟨_, rfl, Wq21, F755, ⟨btq21, bgq21, bsq21, bfaq21, bslq21, h0Zrfq21, h1Zrfq21, h2Zrfq21, h3Zrfq21, h4Zrfq21, ttq21, by (try dsimp only); omega, by (try dsimp only); omega, by (try dsimp only); omega, by (try dsimp only); omega, by (try dsimp only); omega⟩⟩
            · have hq745 := i_ne hq745
              refine wi (fun hq761 => ?_) (fun hq761 => ?_)
              · have := li_94
                have hq761 := i_eq hq761
                exfalso
                omega
              · have := li_94
                have hq761 := i_ne hq761
                unfold f_Reader_takeStep_79
                obtain ⟨w22, ew22⟩ := go_6 W t_a0
                refine wb ew22 ?_
                have := li_2
                obtain ⟨q21, eq21, Wq21, fq21, pbZrfq21⟩ := p_Reader_fail hn W (a1 := 2) t_a0 (by omega) (by omega) ⟨bt0, bg0, bs0, bfa0, bsl0, h0Zrd0, h1Zrd0, h2Zrd0, h3Zrd0, h4Zrd0, tt0, by (try dsimp only); omega, by (try dsimp only); omega, by (try dsimp only); omega, by (try dsimp only); omega⟩
                refine wb eq21 ?_
                have e767 := (Zfr.gr fq21 t_a0 (by decide)).trans h0Zrd0
                have e768 := (Zfr.gi fq21 tt0 (by decide)).trans h1Zrd0
                have e769 := (Zfr.gi fq21 t_a0 (by decide)).trans h2Zrd0
                have e770 := (Zfr.gi fq21 t_a0 (by decide)).trans h4Zrd0
                have F771 := Zfr.tr F0 fq21 (by decide)
                obtain ⟨btq21, bgq21, bsq21, bfaq21, bslq21, h0Zrfq21, h1Zrfq21, h2Zrfq21, h3Zrfq21, h4Zrfq21, ttq21, r0Zrfq21, r1Zrfq21, r2Zrfq21, r3Zrfq21, r4Zrfq21⟩ := pbZrfq21
                unfold f_Reader_takeStep_147
                exact ⟨_, rfl, Wq21, F771, ⟨btq21, bgq21, bsq21, bfaq21, bslq21, h0Zrfq21, h1Zrfq21, h2Zrfq21, h3Zrfq21, h4Zrfq21, ttq21, by (try dsimp only); omega, by (try dsimp only); omega, by (try dsimp only); omega, by (try dsimp only); omega, by (try dsimp only); omega⟩⟩
          · have := li_1
            have hq744 := i_ne hq744
            unfold f_Reader_takeStep_87
            obtain ⟨v6, ev6, tv6⟩ := gf_6_5 W t_a0
            refine wb ev6 ?_
            obtain ⟨v7, ev7, lv7, uv7⟩ := gf_2_5 W tv6
            refine wb ev7 ?_
            refine wi (fun hq777 => ?_) (fun hq777 => ?_)
            · have := li_16
              have hq777 := i_lt hq777
              refine wi (fun hq778 => ?_) (fun hq778 => ?_)
              · have hq778 := i_eq hq778
                obtain ⟨c17, ec17, Wc17, fc17, gc17⟩ := pf_6_8 W t_a0 (x := 13) (trivial)
                refine wb ec17 ?_
                have e779 := (Zfr.gr fc17 t_a0 (by decide)).trans h0Zrd0
                have e780 := (Zfr.gi fc17 tt0 (by decide)).trans h1Zrd0
                have e781 := (Zfr.gi fc17 t_a0 (by decide)).trans h3Zrd0
                have e782 := (Zfr.gi fc17 t_a0 (by decide)).trans h4Zrd0
                have F783 := Zfr.tr F0 fc17 (by decide)
                unfold f_Reader_takeStep_147
                have := li_13
                exact ⟨_, rfl, Wc17, F783, ⟨bt0, bg0, (13 : Int32), bfa0, bsl0, e779, e780, gc17, e781, e782, tt0, by (try dsimp only); omega, by (try dsimp only); omega, by (try dsimp only); omega, by (try dsimp only); omega, by (try dsimp only); omega⟩⟩
              · have hq778 := i_ne hq778
                refine wi (fun hq789 => ?_) (fun hq789 => ?_)
                · have hq789 := i_eq hq789
                  unfold f_Reader_takeStep_144
                  obtain ⟨w16, ew16⟩ := go_6 W t_a0
                  refine wb ew16 ?_
                  obtain ⟨q15, eq15, Wq15, fq15, pbZrtq15⟩ := p_Reader_addStep hn W (a1 := 12) t_a0 (by omega) (by omega) ⟨bt0, bg0, bs0, bfa0, bsl0, h0Zrd0, h1Zrd0, h2Zrd0, h3Zrd0, h4Zrd0, tt0, by (try dsimp only); omega, by (try dsimp only); omega, by (try dsimp only); omega, by (try dsimp only); omega, by (try dsimp only); omega⟩
                  refine wb eq15 ?_
                  have e795 := (Zfr.gr fq15 t_a0 (by decide)).trans h0Zrd0
                  have e796 := (Zfr.gi fq15 tt0 (by decide)).trans h1Zrd0
                  have e797 := (Zfr.gi fq15 t_a0 (by decide)).trans h4Zrd0
                  have F798 := Zfr.tr F0 fq15 (by decide)
                  obtain ⟨btq15, bgq15, bsq15, bfaq15, bslq15, h0Zrtq15, h1Zrtq15, h2Zrtq15, h3Zrtq15, h4Zrtq15, ttq15, r0Zrtq15, r1Zrtq15, r2Zrtq15, r3Zrtq15, r4Zrtq15⟩ := pbZrtq15
                  unfold f_Reader_takeStep_147
                  exact ⟨_, rfl, Wq15, F798, ⟨btq15, bgq15, bsq15, bfaq15, bslq15, h0Zrtq15, h1Zrtq15, h2Zrtq15, h3Zrtq15, h4Zrtq15, ttq15, by (try dsimp only); omega, by (try dsimp only); omega, by (try dsimp only); omega, by (try dsimp only); omega, by (try dsimp only); omega⟩⟩
                · have hq789 := i_ne hq789
                  exfalso
                  omega
            · have := li_16
              have hq777 := i_nlt hq777
              obtain ⟨w19, ew19⟩ := go_6 W t_a0
              refine wb ew19 ?_
              have := li_3
              obtain ⟨q18, eq18, Wq18, fq18, pbZrfq18⟩ := p_Reader_fail hn W (a1 := 3) t_a0 (by omega) (by omega) ⟨bt0, bg0, bs0, bfa0, bsl0, h0Zrd0, h1Zrd0, h2Zrd0, h3Zrd0, h4Zrd0, tt0, by (try dsimp only); omega, by (try dsimp only); omega, by (try dsimp only); omega, by (try dsimp only); omega⟩
              refine wb eq18 ?_
              have e809 := (Zfr.gr fq18 t_a0 (by decide)).trans h0Zrd0
              have e810 := (Zfr.gi fq18 tt0 (by decide)).trans h1Zrd0
              have e811 := (Zfr.gi fq18 t_a0 (by decide)).trans h2Zrd0
              have e812 := (Zfr.gi fq18 t_a0 (by decide)).trans h4Zrd0
              have F813 := Zfr.tr F0 fq18 (by decide)
              obtain ⟨btq18, bgq18, bsq18, bfaq18, bslq18, h0Zrfq18, h1Zrfq18, h2Zrfq18, h3Zrfq18, h4Zrfq18, ttq18, r0Zrfq18, r1Zrfq18, r2Zrfq18, r3Zrfq18, r4Zrfq18⟩ := pbZrfq18
              unfold f_Reader_takeStep_147
              exact ⟨_, rfl, Wq18, F813, ⟨btq18, bgq18, bsq18, bfaq18, bslq18, h0Zrfq18, h1Zrfq18, h2Zrfq18, h3Zrfq18, h4Zrfq18, ttq18, by (try dsimp only); omega, by (try dsimp only); omega, by (try dsimp only); omega, by (try dsimp only); omega, by (try dsimp only); omega⟩⟩
        · have := li_0
          have hq743 := i_ne hq743
          refine wi (fun hq819 => ?_) (fun hq819 => ?_)
          · have := li_40
            have hq819 := i_eq hq819
            exfalso
            omega
          · have := li_40
            have hq819 := i_ne hq819
            unfold f_Reader_takeStep_65
            refine wi (fun hq820 => ?_) (fun hq820 => ?_)
            · have := li_1
              have hq820 := i_eq hq820
              refine wi (fun hq821 => ?_) (fun hq821 => ?_)
              · have hq821 := i_eq hq821
                unfold f_Reader_takeStep_79
                obtain ⟨w22, ew22⟩ := go_6 W t_a0
                refine wb ew22 ?_
                have := li_2
                obtain ⟨q21, eq21, Wq21, fq21, pbZrfq21⟩ := p_Reader_fail hn W (a1 := 2) t_a0 (by omega) (by omega) ⟨bt0, bg0, bs0, bfa0, bsl0, h0Zrd0, h1Zrd0, h2Zrd0, h3Zrd0, h4Zrd0, tt0, by (try dsimp only); omega, by (try dsimp only); omega, by (try dsimp only); omega, by (try dsimp only); omega⟩
                refine wb eq21 ?_
                have e827 := (Zfr.gr fq21 t_a0 (by decide)).trans h0Zrd0
                have e828 := (Zfr.gi fq21 tt0 (by decide)).trans h1Zrd0
                have e829 := (Zfr.gi fq21 t_a0 (by decide)).trans h2Zrd0
                have e830 := (Zfr.gi fq21 t_a0 (by decide)).trans h4Zrd0
                have F831 := Zfr.tr F0 fq21 (by decide)
                obtain ⟨btq21, bgq21, bsq21, bfaq21, bslq21, h0Zrfq21, h1Zrfq21, h2Zrfq21, h3Zrfq21, h4Zrfq21, ttq21, r0Zrfq21, r1Zrfq21, r2Zrfq21, r3Zrfq21, r4Zrfq21⟩ := pbZrfq21
                unfold f_Reader_takeStep_147
                exact ⟨_, rfl, Wq21, F831, ⟨btq21, bgq21, bsq21, bfaq21, bslq21, h0Zrfq21, h1Zrfq21, h2Zrfq21, h3Zrfq21, h4Zrfq21, ttq21, by (try dsimp only); omega, by (try dsimp only); omega, by (try dsimp only); omega, by (try dsimp only); omega, by (try dsimp only); omega⟩⟩
              · have hq821 := i_ne hq821
                refine wi (fun hq837 => ?_) (fun hq837 => ?_)
                · have := li_94
                  have hq837 := i_eq hq837
                  exfalso
                  omega
                · have := li_94
                  have hq837 := i_ne hq837
                  unfold f_Reader_takeStep_79
                  obtain ⟨w22, ew22⟩ := go_6 W t_a0
                  refine wb ew22 ?_
                  have := li_2
                  obtain ⟨q21, eq21, Wq21, fq21, pbZrfq21⟩ := p_Reader_fail hn W (a1 := 2) t_a0 (by omega) (by omega) ⟨bt0, bg0, bs0, bfa0, bsl0, h0Zrd0, h1Zrd0, h2Zrd0, h3Zrd0, h4Zrd0, tt0, by (try dsimp only); omega, by (try dsimp only); omega, by (try dsimp only); omega, by (try dsimp only); omega⟩
                  refine wb eq21 ?_
                  have e843 := (Zfr.gr fq21 t_a0 (by decide)).trans h0Zrd0
                  have e844 := (Zfr.gi fq21 tt0 (by decide)).trans h1Zrd0
                  have e845 := (Zfr.gi fq21 t_a0 (by decide)).trans h2Zrd0
                  have e846 := (Zfr.gi fq21 t_a0 (by decide)).trans h4Zrd0
                  have F847 := Zfr.tr F0 fq21 (by decide)
                  obtain ⟨btq21, bgq21, bsq21, bfaq21, bslq21, h0Zrfq21, h1Zrfq21, h2Zrfq21, h3Zrfq21, h4Zrfq21, ttq21, r0Zrfq21, r1Zrfq21, r2Zrfq21, r3Zrfq21, r4Zrfq21⟩ := pbZrfq21
                  unfold f_Reader_takeStep_147
                  exact ⟨_, rfl, Wq21, F847, ⟨btq21, bgq21, bsq21, bfaq21, bslq21, h0Zrfq21, h1Zrfq21, h2Zrfq21, h3Zrfq21, h4Zrfq21, ttq21, by (try dsimp only); omega, by (try dsimp only); omega, by (try dsimp only); omega, by (try dsimp only); omega, by (try dsimp only); omega⟩⟩
            · have := li_1
              have hq820 := i_ne hq820
              unfold f_Reader_takeStep_87
              obtain ⟨v6, ev6, tv6⟩ := gf_6_5 W t_a0
              refine wb ev6 ?_
              obtain ⟨v7, ev7, lv7, uv7⟩ := gf_2_5 W tv6
              refine wb ev7 ?_
              refine wi (fun hq853 => ?_) (fun hq853 => ?_)
              · have := li_16
                have hq853 := i_lt hq853
                refine wi (fun hq854 => ?_) (fun hq854 => ?_)
                · have hq854 := i_eq hq854
                  obtain ⟨c17, ec17, Wc17, fc17, gc17⟩ := pf_6_8 W t_a0 (x := 13) (trivial)
                  refine wb ec17 ?_
                  have e855 := (Zfr.gr fc17 t_a0 (by decide)).trans h0Zrd0
                  have e856 := (Zfr.gi fc17 tt0 (by decide)).trans h1Zrd0
                  have e857 := (Zfr.gi fc17 t_a0 (by decide)).trans h3Zrd0
                  have e858 := (Zfr.gi fc17 t_a0 (by decide)).trans h4Zrd0
                  have F859 := Zfr.tr F0 fc17 (by decide)
                  unfold f_Reader_takeStep_147
                  have := li_13
                  exact ⟨_, rfl, Wc17, F859, ⟨bt0, bg0, (13 : Int32), bfa0, bsl0, e855, e856, gc17, e857, e858, tt0, by (try dsimp only); omega, by (try dsimp only); omega, by (try dsimp only); omega, by (try dsimp only); omega, by (try dsimp only); omega⟩⟩
                · have hq854 := i_ne hq854
                  refine wi (fun hq865 => ?_) (fun hq865 => ?_)
                  · have hq865 := i_eq hq865
                    unfold f_Reader_takeStep_144
                    obtain ⟨w16, ew16⟩ := go_6 W t_a0
                    refine wb ew16 ?_
                    obtain ⟨q15, eq15, Wq15, fq15, pbZrtq15⟩ := p_Reader_addStep hn W (a1 := 12) t_a0 (by omega) (by omega) ⟨bt0, bg0, bs0, bfa0, bsl0, h0Zrd0, h1Zrd0, h2Zrd0, h3Zrd0, h4Zrd0, tt0, by (try dsimp only); omega, by (try dsimp only); omega, by (try dsimp only); omega, by (try dsimp only); omega, by (try dsimp only); omega⟩
                    refine wb eq15 ?_
                    have e871 := (Zfr.gr fq15 t_a0 (by decide)).trans h0Zrd0
                    have e872 := (Zfr.gi fq15 tt0 (by decide)).trans h1Zrd0
                    have e873 := (Zfr.gi fq15 t_a0 (by decide)).trans h4Zrd0
                    have F874 := Zfr.tr F0 fq15 (by decide)
                    obtain ⟨btq15, bgq15, bsq15, bfaq15, bslq15, h0Zrtq15, h1Zrtq15, h2Zrtq15, h3Zrtq15, h4Zrtq15, ttq15, r0Zrtq15, r1Zrtq15, r2Zrtq15, r3Zrtq15, r4Zrtq15⟩ := pbZrtq15
                    unfold f_Reader_takeStep_147
                    exact ⟨_, rfl, Wq15, F874, ⟨btq15, bgq15, bsq15, bfaq15, bslq15, h0Zrtq15, h1Zrtq15, h2Zrtq15, h3Zrtq15, h4Zrtq15, ttq15, by (try dsimp only); omega, by (try dsimp only); omega, by (try dsimp only); omega, by (try dsimp only); omega, by (try dsimp only); omega⟩⟩
                  · have hq865 := i_ne hq865
                    exfalso
                    omega
              · have := li_16
                have hq853 := i_nlt hq853
                obtain ⟨w19, ew19⟩ := go_6 W t_a0
                refine wb ew19 ?_
                have := li_3
                obtain ⟨q18, eq18, Wq18, fq18, pbZrfq18⟩ := p_Reader_fail hn W (a1 := 3) t_a0 (by omega) (by omega) ⟨bt0, bg0, bs0, bfa0, bsl0, h0Zrd0, h1Zrd0, h2Zrd0, h3Zrd0, h4Zrd0, tt0, by (try dsimp only); omega, by (try dsimp only); omega, by (try dsimp only); omega, by (try dsimp only); omega⟩
                refine wb eq18 ?_
                have e885 := (Zfr.gr fq18 t_a0 (by decide)).trans h0Zrd0
                have e886 := (Zfr.gi fq18 tt0 (by decide)).trans h1Zrd0
                have e887 := (Zfr.gi fq18 t_a0 (by decide)).trans h2Zrd0
                have e888 := (Zfr.gi fq18 t_a0 (by decide)).trans h4Zrd0
                have F889 := Zfr.tr F0 fq18 (by decide)
                obtain ⟨btq18, bgq18, bsq18, bfaq18, bslq18, h0Zrfq18, h1Zrfq18, h2Zrfq18, h3Zrfq18, h4Zrfq18, ttq18, r0Zrfq18, r1Zrfq18, r2Zrfq18, r3Zrfq18, r4Zrfq18⟩ := pbZrfq18
                unfold f_Reader_takeStep_147
                exact ⟨_, rfl, Wq18, F889, ⟨btq18, bgq18, bsq18, bfaq18, bslq18, h0Zrfq18, h1Zrfq18, h2Zrfq18, h3Zrfq18, h4Zrfq18, ttq18, by (try dsimp only); omega, by (try dsimp only); omega, by (try dsimp only); omega, by (try dsimp only); omega, by (try dsimp only); omega⟩⟩
      · have := li_95
        have hq742 := i_ne hq742
        unfold f_Reader_takeStep_31
        refine wi (fun hq895 => ?_) (fun hq895 => ?_)
        · have := li_0
          have hq895 := i_eq hq895
          unfold f_Reader_takeStep_65
          refine wi (fun hq896 => ?_) (fun hq896 => ?_)
          · have hq896 := i_eq hq896
            refine wi (fun hq897 => ?_) (fun hq897 => ?_)
            · have hq897 := i_eq hq897
              unfold f_Reader_takeStep_79
              obtain ⟨w22, ew22⟩ := go_6 W t_a0
              refine wb ew22 ?_
              have := li_2
              obtain ⟨q21, eq21, Wq21, fq21, pbZrfq21⟩ := p_Reader_fail hn W (a1 := 2) t_a0 (by omega) (by omega) ⟨bt0, bg0, bs0, bfa0, bsl0, h0Zrd0, h1Zrd0, h2Zrd0, h3Zrd0, h4Zrd0, tt0, by (try dsimp only); omega, by (try dsimp only); omega, by (try dsimp only); omega, by (try dsimp only); omega⟩
              refine wb eq21 ?_
              have e903 := (Zfr.gr fq21 t_a0 (by decide)).trans h0Zrd0
              have e904 := (Zfr.gi fq21 tt0 (by decide)).trans h1Zrd0
              have e905 := (Zfr.gi fq21 t_a0 (by decide)).trans h2Zrd0
              have e906 := (Zfr.gi fq21 t_a0 (by decide)).trans h4Zrd0
              have F907 := Zfr.tr F0 fq21 (by decide)
              obtain ⟨btq21, bgq21, bsq21, bfaq21, bslq21, h0Zrfq21, h1Zrfq21, h2Zrfq21, h3Zrfq21, h4Zrfq21, ttq21, r0Zrfq21, r1Zrfq21, r2Zrfq21, r3Zrfq21, r4Zrfq21⟩ := pbZrfq21
              unfold f_Reader_takeStep_147
              exact ⟨_, rfl, Wq21, F907, ⟨btq21, bgq21, bsq21, bfaq21, bslq21, h0Zrfq21, h1Zrfq21, h2Zrfq21, h3Zrfq21, h4Zrfq21, ttq21, by (try dsimp only); omega, by (try dsimp only); omega, by (try dsimp only); omega, by (try dsimp only); omega, by (try dsimp only); omega⟩⟩
            · have hq897 := i_ne hq897
              refine wi (fun hq913 => ?_) (fun hq913 => ?_)
              · have := li_94
                have hq913 := i_eq hq913
                unfold f_Reader_takeStep_87
                obtain ⟨v6, ev6, tv6⟩ := gf_6_5 W t_a0
                refine wb ev6 ?_
                obtain ⟨v7, ev7, lv7, uv7⟩ := gf_2_5 W tv6
                refine wb ev7 ?_
                refine wi (fun hq914 => ?_) (fun hq914 => ?_)
                · have := li_16
                  have hq914 := i_lt hq914
                  refine wi (fun hq915 => ?_) (fun hq915 => ?_)
                  · have hq915 := i_eq hq915
                    obtain ⟨c17, ec17, Wc17, fc17, gc17⟩ := pf_6_8 W t_a0 (x := 13) (trivial)
                    refine wb ec17 ?_
                    have e916 := (Zfr.gr fc17 t_a0 (by decide)).trans h0Zrd0
                    have e917 := (Zfr.gi fc17 tt0 (by decide)).trans h1Zrd0
                    have e918 := (Zfr.gi fc17 t_a0 (by decide)).trans h3Zrd0
                    have e919 := (Zfr.gi fc17 t_a0 (by decide)).trans h4Zrd0
                    have F920 := Zfr.tr F0 fc17 (by decide)
                    unfold f_Reader_takeStep_147
                    have := li_13
                    exact ⟨_, rfl, Wc17, F920, ⟨bt0, bg0, (13 : Int32), bfa0, bsl0, e916, e917, gc17, e918, e919, tt0, by (try dsimp only); omega, by (try dsimp only); omega, by (try dsimp only); omega, by (try dsimp only); omega, by (try dsimp only); omega⟩⟩
                  · have hq915 := i_ne hq915
                    refine wi (fun hq926 => ?_) (fun hq926 => ?_)
                    · have hq926 := i_eq hq926
                      exfalso
                      omega
                    · have hq926 := i_ne hq926
                      refine wb h5Zrd0 ?_
                      refine wb h7Zrd0 ?_
                      refine wb h6Zrd0 ?_
                      refine wb h8Zrd0 ?_
                      unfold f_Reader_takeStep_144
                      obtain ⟨w16, ew16⟩ := go_6 W t_a0
                      refine wb ew16 ?_
                      obtain ⟨q15, eq15, Wq15, fq15, pbZrtq15⟩ := p_Reader_addStep hn W (a1 := bv0) t_a0 (by omega) (by omega) ⟨bt0, bg0, bs0, bfa0, bsl0, h0Zrd0, h1Zrd0, h2Zrd0, h3Zrd0, h4Zrd0, tt0, by (try dsimp only); omega, by (try dsimp only); omega, by (try dsimp only); omega, by (try dsimp only); omega, by (try dsimp only); omega⟩
                      refine wb eq15 ?_
                      have e932 := (Zfr.gr fq15 t_a0 (by decide)).trans h0Zrd0
                      have e933 := (Zfr.gi fq15 tt0 (by decide)).trans h1Zrd0
                      have e934 := (Zfr.gi fq15 t_a0 (by decide)).trans h4Zrd0
                      have F935 := Zfr.tr F0 fq15 (by decide)
                      obtain ⟨btq15, bgq15, bsq15, bfaq15, bslq15, h0Zrtq15, h1Zrtq15, h2Zrtq15, h3Zrtq15, h4Zrtq15, ttq15, r0Zrtq15, r1Zrtq15, r2Zrtq15, r3Zrtq15, r4Zrtq15⟩ := pbZrtq15
                      unfold f_Reader_takeStep_147
                      exact ⟨_, rfl, Wq15, F935, ⟨btq15, bgq15, bsq15, bfaq15, bslq15, h0Zrtq15, h1Zrtq15, h2Zrtq15, h3Zrtq15, h4Zrtq15, ttq15, by (try dsimp only); omega, by (try dsimp only); omega, by (try dsimp only); omega, by (try dsimp only); omega, by (try dsimp only); omega⟩⟩
                · have := li_16
                  have hq914 := i_nlt hq914
                  obtain ⟨w19, ew19⟩ := go_6 W t_a0
                  refine wb ew19 ?_
                  have := li_3
                  obtain ⟨q18, eq18, Wq18, fq18, pbZrfq18⟩ := p_Reader_fail hn W (a1 := 3) t_a0 (by omega) (by omega) ⟨bt0, bg0, bs0, bfa0, bsl0, h0Zrd0, h1Zrd0, h2Zrd0, h3Zrd0, h4Zrd0, tt0, by (try dsimp only); omega, by (try dsimp only); omega, by (try dsimp only); omega, by (try dsimp only); omega⟩
                  refine wb eq18 ?_
                  have e946 := (Zfr.gr fq18 t_a0 (by decide)).trans h0Zrd0
                  have e947 := (Zfr.gi fq18 tt0 (by decide)).trans h1Zrd0
                  have e948 := (Zfr.gi fq18 t_a0 (by decide)).trans h2Zrd0
                  have e949 := (Zfr.gi fq18 t_a0 (by decide)).trans h4Zrd0
                  have F950 := Zfr.tr F0 fq18 (by decide)
                  obtain ⟨btq18, bgq18, bsq18, bfaq18, bslq18, h0Zrfq18, h1Zrfq18, h2Zrfq18, h3Zrfq18, h4Zrfq18, ttq18, r0Zrfq18, r1Zrfq18, r2Zrfq18, r3Zrfq18, r4Zrfq18⟩ := pbZrfq18
                  unfold f_Reader_takeStep_147
                  exact ⟨_, rfl, Wq18, F950, ⟨btq18, bgq18, bsq18, bfaq18, bslq18, h0Zrfq18, h1Zrfq18, h2Zrfq18, h3Zrfq18, h4Zrfq18, ttq18, by (try dsimp only); omega, by (try dsimp only); omega, by (try dsimp only); omega, by (try dsimp only); omega, by (try dsimp only); omega⟩⟩
              · have := li_94
                have hq913 := i_ne hq913
                unfold f_Reader_takeStep_79
                obtain ⟨w22, ew22⟩ := go_6 W t_a0
                refine wb ew22 ?_
                have := li_2
                obtain ⟨q21, eq21, Wq21, fq21, pbZrfq21⟩ := p_Reader_fail hn W (a1 := 2) t_a0 (by omega) (by omega) ⟨bt0, bg0, bs0, bfa0, bsl0, h0Zrd0, h1Zrd0, h2Zrd0, h3Zrd0, h4Zrd0, tt0, by (try dsimp only); omega, by (try dsimp only); omega, by (try dsimp only); omega, by (try dsimp only); omega⟩
                refine wb eq21 ?_
                have e961 := (Zfr.gr fq21 t_a0 (by decide)).trans h0Zrd0
                have e962 := (Zfr.gi fq21 tt0 (by decide)).trans h1Zrd0
                have e963 := (Zfr.gi fq21 t_a0 (by decide)).trans h2Zrd0
                have e964 := (Zfr.gi fq21 t_a0 (by decide)).trans h4Zrd0
                have F965 := Zfr.tr F0 fq21 (by decide)
                obtain ⟨btq21, bgq21, bsq21, bfaq21, bslq21, h0Zrfq21, h1Zrfq21, h2Zrfq21, h3Zrfq21, h4Zrfq21, ttq21, r0Zrfq21, r1Zrfq21, r2Zrfq21, r3Zrfq21, r4Zrfq21⟩ := pbZrfq21
                unfold f_Reader_takeStep_147
                exact ⟨_, rfl, Wq21, F965, ⟨btq21, bgq21, bsq21, bfaq21, bslq21, h0Zrfq21, h1Zrfq21, h2Zrfq21, h3Zrfq21, h4Zrfq21, ttq21, by (try dsimp only); omega, by (try dsimp only); omega, by (try dsimp only); omega, by (try dsimp only); omega, by (try dsimp only); omega⟩⟩
          · have hq896 := i_ne hq896
            unfold f_Reader_takeStep_87
            obtain ⟨v6, ev6, tv6⟩ := gf_6_5 W t_a0
            refine wb ev6 ?_
            obtain ⟨v7, ev7, lv7, uv7⟩ := gf_2_5 W tv6
            refine wb ev7 ?_
            refine wi (fun hq971 => ?_) (fun hq971 => ?_)
            · have := li_16
              have hq971 := i_lt hq971
              refine wi (fun hq972 => ?_) (fun hq972 => ?_)
              · have hq972 := i_eq hq972
                obtain ⟨c17, ec17, Wc17, fc17, gc17⟩ := pf_6_8 W t_a0 (x := 13) (trivial)
                refine wb ec17 ?_
                have e973 := (Zfr.gr fc17 t_a0 (by decide)).trans h0Zrd0
                have e974 := (Zfr.gi fc17 tt0 (by decide)).trans h1Zrd0
                have e975 := (Zfr.gi fc17 t_a0 (by decide)).trans h3Zrd0
                have e976 := (Zfr.gi fc17 t_a0 (by decide)).trans h4Zrd0
                have F977 := Zfr.tr F0 fc17 (by decide)
                unfold f_Reader_takeStep_147
                have := li_13
                exact ⟨_, rfl, Wc17, F977, ⟨bt0, bg0, (13 : Int32), bfa0, bsl0, e973, e974, gc17, e975, e976, tt0, by (try dsimp only); omega, by (try dsimp only); omega, by (try dsimp only); omega, by (try dsimp only); omega, by (try dsimp only); omega⟩⟩
              · have hq972 := i_ne hq972
                refine wi (fun hq983 => ?_) (fun hq983 => ?_)
                · have hq983 := i_eq hq983
                  unfold f_Reader_takeStep_144
                  obtain ⟨w16, ew16⟩ := go_6 W t_a0
                  refine wb ew16 ?_
                  obtain ⟨q15, eq15, Wq15, fq15, pbZrtq15⟩ := p_Reader_addStep hn W (a1 := 12) t_a0 (by omega) (by omega) ⟨bt0, bg0, bs0, bfa0, bsl0, h0Zrd0, h1Zrd0, h2Zrd0, h3Zrd0, h4Zrd0, tt0, by (try dsimp only); omega, by (try dsimp only); omega, by (try dsimp only); omega, by (try dsimp only); omega, by (try dsimp only); omega⟩
                  refine wb eq15 ?_
                  have e989 := (Zfr.gr fq15 t_a0 (by decide)).trans h0Zrd0
                  have e990 := (Zfr.gi fq15 tt0 (by decide)).trans h1Zrd0
                  have e991 := (Zfr.gi fq15 t_a0 (by decide)).trans h4Zrd0
                  have F992 := Zfr.tr F0 fq15 (by decide)
                  obtain ⟨btq15, bgq15, bsq15, bfaq15, bslq15, h0Zrtq15, h1Zrtq15, h2Zrtq15, h3Zrtq15, h4Zrtq15, ttq15, r0Zrtq15, r1Zrtq15, r2Zrtq15, r3Zrtq15, r4Zrtq15⟩ := pbZrtq15
                  unfold f_Reader_takeStep_147
                  exact ⟨_, rfl, Wq15, F992, ⟨btq15, bgq15, bsq15, bfaq15, bslq15, h0Zrtq15, h1Zrtq15, h2Zrtq15, h3Zrtq15, h4Zrtq15, ttq15, by (try dsimp only); omega, by (try dsimp only); omega, by (try dsimp only); omega, by (try dsimp only); omega, by (try dsimp only); omega⟩⟩
                · have hq983 := i_ne hq983
                  refine wb h5Zrd0 ?_
                  refine wb h7Zrd0 ?_
                  refine wb h6Zrd0 ?_
                  refine wb h8Zrd0 ?_
                  unfold f_Reader_takeStep_144
                  obtain ⟨w16, ew16⟩ := go_6 W t_a0
                  refine wb ew16 ?_
                  obtain ⟨q15, eq15, Wq15, fq15, pbZrtq15⟩ := p_Reader_addStep hn W (a1 := bv0) t_a0 (by omega) (by omega) ⟨bt0, bg0, bs0, bfa0, bsl0, h0Zrd0, h1Zrd0, h2Zrd0, h3Zrd0, h4Zrd0, tt0, by (try dsimp only); omega, by (try dsimp only); omega, by (try dsimp only); omega, by (try dsimp only); omega, by (try dsimp only); omega⟩
                  refine wb eq15 ?_
                  have e1003 := (Zfr.gr fq15 t_a0 (by decide)).trans h0Zrd0
                  have e1004 := (Zfr.gi fq15 tt0 (by decide)).trans h1Zrd0
                  have e1005 := (Zfr.gi fq15 t_a0 (by decide)).trans h4Zrd0
                  have F1006 := Zfr.tr F0 fq15 (by decide)
                  obtain ⟨btq15, bgq15, bsq15, bfaq15, bslq15, h0Zrtq15, h1Zrtq15, h2Zrtq15, h3Zrtq15, h4Zrtq15, ttq15, r0Zrtq15, r1Zrtq15, r2Zrtq15, r3Zrtq15, r4Zrtq15⟩ := pbZrtq15
                  unfold f_Reader_takeStep_147
                  exact ⟨_, rfl, Wq15, F1006, ⟨btq15, bgq15, bsq15, bfaq15, bslq15, h0Zrtq15, h1Zrtq15, h2Zrtq15, h3Zrtq15, h4Zrtq15, ttq15, by (try dsimp only); omega, by (try dsimp only); omega, by (try dsimp only); omega, by (try dsimp only); omega, by (try dsimp only); omega⟩⟩
            · have := li_16
              have hq971 := i_nlt hq971
              obtain ⟨w19, ew19⟩ := go_6 W t_a0
              refine wb ew19 ?_
              have := li_3
              obtain ⟨q18, eq18, Wq18, fq18, pbZrfq18⟩ := p_Reader_fail hn W (a1 := 3) t_a0 (by omega) (by omega) ⟨bt0, bg0, bs0, bfa0, bsl0, h0Zrd0, h1Zrd0, h2Zrd0, h3Zrd0, h4Zrd0, tt0, by (try dsimp only); omega, by (try dsimp only); omega, by (try dsimp only); omega, by (try dsimp only); omega⟩
              refine wb eq18 ?_
              have e1017 := (Zfr.gr fq18 t_a0 (by decide)).trans h0Zrd0
              have e1018 := (Zfr.gi fq18 tt0 (by decide)).trans h1Zrd0
              have e1019 := (Zfr.gi fq18 t_a0 (by decide)).trans h2Zrd0
              have e1020 := (Zfr.gi fq18 t_a0 (by decide)).trans h4Zrd0
              have F1021 := Zfr.tr F0 fq18 (by decide)
              obtain ⟨btq18, bgq18, bsq18, bfaq18, bslq18, h0Zrfq18, h1Zrfq18, h2Zrfq18, h3Zrfq18, h4Zrfq18, ttq18, r0Zrfq18, r1Zrfq18, r2Zrfq18, r3Zrfq18, r4Zrfq18⟩ := pbZrfq18
              unfold f_Reader_takeStep_147
              exact ⟨_, rfl, Wq18, F1021, ⟨btq18, bgq18, bsq18, bfaq18, bslq18, h0Zrfq18, h1Zrfq18, h2Zrfq18, h3Zrfq18, h4Zrfq18, ttq18, by (try dsimp only); omega, by (try dsimp only); omega, by (try dsimp only); omega, by (try dsimp only); omega, by (try dsimp only); omega⟩⟩
        · have := li_0
          have hq895 := i_ne hq895
          refine wi (fun hq1027 => ?_) (fun hq1027 => ?_)
          · have := li_40
            have hq1027 := i_eq hq1027
            obtain ⟨v25, ev25, tv25⟩ := gf_6_5 W t_a0
            refine wb ev25 ?_
            obtain ⟨w27, ew27⟩ := go_2 W tv25
            refine wb ew27 ?_
            obtain ⟨q26, eq26, Wq26, fq26⟩ := p_Way_openRows hn W  tv25
            refine wb eq26 ?_
            have e1028 := (Zfr.gr fq26 t_a0 (by decide)).trans h0Zrd0
            have e1029 := (Zfr.gi fq26 tt0 (by decide)).trans h1Zrd0
            have e1030 := (Zfr.gi fq26 t_a0 (by decide)).trans h2Zrd0
            have e1031 := (Zfr.gi fq26 t_a0 (by decide)).trans h3Zrd0
            have e1032 := (Zfr.gi fq26 t_a0 (by decide)).trans h4Zrd0
            have F1033 := Zfr.tr F0 fq26 (by decide)
            obtain ⟨v28, ev28, tv28⟩ := gf_6_2 Wq26 t_a0
            refine wb ev28 ?_
            obtain ⟨v29, ev29, _⟩ := gf_5_0 Wq26 tv28
            refine wb ev29 ?_
            obtain ⟨c30, ec30, Wc30, fc30, gc30⟩ := pf_5_0 Wq26 tv28 (x := (v29 + 1)) (trivial)
            refine wb ec30 ?_
            have e1034 := (Zfr.gr fc30 t_a0 (by decide)).trans e1028
            have e1035 := (Zfr.gi fc30 tt0 (by decide)).trans e1029
            have e1036 := (Zfr.gi fc30 t_a0 (by decide)).trans e1030
            have e1037 := (Zfr.gi fc30 t_a0 (by decide)).trans e1031
            have e1038 := (Zfr.gi fc30 t_a0 (by decide)).trans e1032
            have F1039 := Zfr.tr F1033 fc30 (by decide)
            unfold f_Reader_takeStep_147
            exact ⟨_, rfl, Wc30, F1039, ⟨bt0, bg0, bs0, bfa0, bsl0, e1034, e1035, e1036, e1037, e1038, tt0, by (try dsimp only); omega, by (try dsimp only); omega, by (try dsimp only); omega, by (try dsimp only); omega, by (try dsimp only); omega⟩⟩
          · have := li_40
            have hq1027 := i_ne hq1027
            unfold f_Reader_takeStep_65
            refine wi (fun hq1045 => ?_) (fun hq1045 => ?_)
            · have hq1045 := i_eq hq1045
              refine wi (fun hq1046 => ?_) (fun hq1046 => ?_)
              · have hq1046 := i_eq hq1046
                unfold f_Reader_takeStep_79
                obtain ⟨w22, ew22⟩ := go_6 W t_a0
                refine wb ew22 ?_
                have := li_2
                obtain ⟨q21, eq21, Wq21, fq21, pbZrfq21⟩ := p_Reader_fail hn W (a1 := 2) t_a0 (by omega) (by omega) ⟨bt0, bg0, bs0, bfa0, bsl0, h0Zrd0, h1Zrd0, h2Zrd0, h3Zrd0, h4Zrd0, tt0, by (try dsimp only); omega, by (try dsimp only); omega, by (try dsimp only); omega, by (try dsimp only); omega⟩
                refine wb eq21 ?_
                have e1052 := (Zfr.gr fq21 t_a0 (by decide)).trans h0Zrd0
                have e1053 := (Zfr.gi fq21 tt0 (by decide)).trans h1Zrd0
                have e1054 := (Zfr.gi fq21 t_a0 (by decide)).trans h2Zrd0
                have e1055 := (Zfr.gi fq21 t_a0 (by decide)).trans h4Zrd0
                have F1056 := Zfr.tr F0 fq21 (by decide)
                obtain ⟨btq21, bgq21, bsq21, bfaq21, bslq21, h0Zrfq21, h1Zrfq21, h2Zrfq21, h3Zrfq21, h4Zrfq21, ttq21, r0Zrfq21, r1Zrfq21, r2Zrfq21, r3Zrfq21, r4Zrfq21⟩ := pbZrfq21
                unfold f_Reader_takeStep_147
                exact ⟨_, rfl, Wq21, F1056, ⟨btq21, bgq21, bsq21, bfaq21, bslq21, h0Zrfq21, h1Zrfq21, h2Zrfq21, h3Zrfq21, h4Zrfq21, ttq21, by (try dsimp only); omega, by (try dsimp only); omega, by (try dsimp only); omega, by (try dsimp only); omega, by (try dsimp only); omega⟩⟩
              · have hq1046 := i_ne hq1046
                refine wi (fun hq1062 => ?_) (fun hq1062 => ?_)
                · have := li_94
                  have hq1062 := i_eq hq1062
                  unfold f_Reader_takeStep_87
                  obtain ⟨v6, ev6, tv6⟩ := gf_6_5 W t_a0
                  refine wb ev6 ?_
                  obtain ⟨v7, ev7, lv7, uv7⟩ := gf_2_5 W tv6
                  refine wb ev7 ?_
                  refine wi (fun hq1063 => ?_) (fun hq1063 => ?_)
                  · have := li_16
                    have hq1063 := i_lt hq1063
                    refine wi (fun hq1064 => ?_) (fun hq1064 => ?_)
                    · have hq1064 := i_eq hq1064
                      obtain ⟨c17, ec17, Wc17, fc17, gc17⟩ := pf_6_8 W t_a0 (x := 13) (trivial)
                      refine wb ec17 ?_
                      have e1065 := (Zfr.gr fc17 t_a0 (by decide)).trans h0Zrd0
                      have e1066 := (Zfr.gi fc17 tt0 (by decide)).trans h1Zrd0
                      have e1067 := (Zfr.gi fc17 t_a0 (by decide)).trans h3Zrd0
                      have e1068 := (Zfr.gi fc17 t_a0 (by decide)).trans h4Zrd0
                      have F1069 := Zfr.tr F0 fc17 (by decide)
                      unfold f_Reader_takeStep_147
                      have := li_13
                      exact ⟨_, rfl, Wc17, F1069, ⟨bt0, bg0, (13 : Int32), bfa0, bsl0, e1065, e1066, gc17, e1067, e1068, tt0, by (try dsimp only); omega, by (try dsimp only); omega, by (try dsimp only); omega, by (try dsimp only); omega, by (try dsimp only); omega⟩⟩
                    · have hq1064 := i_ne hq1064
                      refine wi (fun hq1075 => ?_) (fun hq1075 => ?_)
                      · have hq1075 := i_eq hq1075
                        exfalso
                        omega
                      · have hq1075 := i_ne hq1075
                        refine wb h5Zrd0 ?_
                        refine wb h7Zrd0 ?_
                        refine wb h6Zrd0 ?_
                        refine wb h8Zrd0 ?_
                        unfold f_Reader_takeStep_144
                        obtain ⟨w16, ew16⟩ := go_6 W t_a0
                        refine wb ew16 ?_
                        obtain ⟨q15, eq15, Wq15, fq15, pbZrtq15⟩ := p_Reader_addStep hn W (a1 := bv0) t_a0 (by omega) (by omega) ⟨bt0, bg0, bs0, bfa0, bsl0, h0Zrd0, h1Zrd0, h2Zrd0, h3Zrd0, h4Zrd0, tt0, by (try dsimp only); omega, by (try dsimp only); omega, by (try dsimp only); omega, by (try dsimp only); omega, by (try dsimp only); omega⟩
                        refine wb eq15 ?_
                        have e1081 := (Zfr.gr fq15 t_a0 (by decide)).trans h0Zrd0
                        have e1082 := (Zfr.gi fq15 tt0 (by decide)).trans h1Zrd0
                        have e1083 := (Zfr.gi fq15 t_a0 (by decide)).trans h4Zrd0
                        have F1084 := Zfr.tr F0 fq15 (by decide)
                        obtain ⟨btq15, bgq15, bsq15, bfaq15, bslq15, h0Zrtq15, h1Zrtq15, h2Zrtq15, h3Zrtq15, h4Zrtq15, ttq15, r0Zrtq15, r1Zrtq15, r2Zrtq15, r3Zrtq15, r4Zrtq15⟩ := pbZrtq15
                        unfold f_Reader_takeStep_147
                        exact ⟨_, rfl, Wq15, F1084, ⟨btq15, bgq15, bsq15, bfaq15, bslq15, h0Zrtq15, h1Zrtq15, h2Zrtq15, h3Zrtq15, h4Zrtq15, ttq15, by (try dsimp only); omega, by (try dsimp only); omega, by (try dsimp only); omega, by (try dsimp only); omega, by (try dsimp only); omega⟩⟩
                  · have := li_16
                    have hq1063 := i_nlt hq1063
                    obtain ⟨w19, ew19⟩ := go_6 W t_a0
                    refine wb ew19 ?_
                    have := li_3
                    obtain ⟨q18, eq18, Wq18, fq18, pbZrfq18⟩ := p_Reader_fail hn W (a1 := 3) t_a0 (by omega) (by omega) ⟨bt0, bg0, bs0, bfa0, bsl0, h0Zrd0, h1Zrd0, h2Zrd0, h3Zrd0, h4Zrd0, tt0, by (try dsimp only); omega, by (try dsimp only); omega, by (try dsimp only); omega, by (try dsimp only); omega⟩
                    refine wb eq18 ?_
                    have e1095 := (Zfr.gr fq18 t_a0 (by decide)).trans h0Zrd0
                    have e1096 := (Zfr.gi fq18 tt0 (by decide)).trans h1Zrd0
                    have e1097 := (Zfr.gi fq18 t_a0 (by decide)).trans h2Zrd0
                    have e1098 := (Zfr.gi fq18 t_a0 (by decide)).trans h4Zrd0
                    have F1099 := Zfr.tr F0 fq18 (by decide)
                    obtain ⟨btq18, bgq18, bsq18, bfaq18, bslq18, h0Zrfq18, h1Zrfq18, h2Zrfq18, h3Zrfq18, h4Zrfq18, ttq18, r0Zrfq18, r1Zrfq18, r2Zrfq18, r3Zrfq18, r4Zrfq18⟩ := pbZrfq18
                    unfold f_Reader_takeStep_147
                    exact ⟨_, rfl, Wq18, F1099, ⟨btq18, bgq18, bsq18, bfaq18, bslq18, h0Zrfq18, h1Zrfq18, h2Zrfq18, h3Zrfq18, h4Zrfq18, ttq18, by (try dsimp only); omega, by (try dsimp only); omega, by (try dsimp only); omega, by (try dsimp only); omega, by (try dsimp only); omega⟩⟩
                · have := li_94
                  have hq1062 := i_ne hq1062
                  unfold f_Reader_takeStep_79
                  obtain ⟨w22, ew22⟩ := go_6 W t_a0
                  refine wb ew22 ?_
                  have := li_2
                  obtain ⟨q21, eq21, Wq21, fq21, pbZrfq21⟩ := p_Reader_fail hn W (a1 := 2) t_a0 (by omega) (by omega) ⟨bt0, bg0, bs0, bfa0, bsl0, h0Zrd0, h1Zrd0, h2Zrd0, h3Zrd0, h4Zrd0, tt0, by (try dsimp only); omega, by (try dsimp only); omega, by (try dsimp only); omega, by (try dsimp only); omega⟩
                  refine wb eq21 ?_
                  have e1110 := (Zfr.gr fq21 t_a0 (by decide)).trans h0Zrd0
                  have e1111 := (Zfr.gi fq21 tt0 (by decide)).trans h1Zrd0
                  have e1112 := (Zfr.gi fq21 t_a0 (by decide)).trans h2Zrd0
                  have e1113 := (Zfr.gi fq21 t_a0 (by decide)).trans h4Zrd0
                  have F1114 := Zfr.tr F0 fq21 (by decide)
                  obtain ⟨btq21, bgq21, bsq21, bfaq21, bslq21, h0Zrfq21, h1Zrfq21, h2Zrfq21, h3Zrfq21, h4Zrfq21, ttq21, r0Zrfq21, r1Zrfq21, r2Zrfq21, r3Zrfq21, r4Zrfq21⟩ := pbZrfq21
                  unfold f_Reader_takeStep_147
                  exact ⟨_, rfl, Wq21, F1114, ⟨btq21, bgq21, bsq21, bfaq21, bslq21, h0Zrfq21, h1Zrfq21, h2Zrfq21, h3Zrfq21, h4Zrfq21, ttq21, by (try dsimp only); omega, by (try dsimp only); omega, by (try dsimp only); omega, by (try dsimp only); omega, by (try dsimp only); omega⟩⟩
            · have hq1045 := i_ne hq1045
              unfold f_Reader_takeStep_87
              obtain ⟨v6, ev6, tv6⟩ := gf_6_5 W t_a0
              refine wb ev6 ?_
              obtain ⟨v7, ev7, lv7, uv7⟩ := gf_2_5 W tv6
              refine wb ev7 ?_
              refine wi (fun hq1120 => ?_) (fun hq1120 => ?_)
              · have := li_16
                have hq1120 := i_lt hq1120
                refine wi (fun hq1121 => ?_) (fun hq1121 => ?_)
                · have hq1121 := i_eq hq1121
                  obtain ⟨c17, ec17, Wc17, fc17, gc17⟩ := pf_6_8 W t_a0 (x := 13) (trivial)
                  refine wb ec17 ?_
                  have e1122 := (Zfr.gr fc17 t_a0 (by decide)).trans h0Zrd0
                  have e1123 := (Zfr.gi fc17 tt0 (by decide)).trans h1Zrd0
                  have e1124 := (Zfr.gi fc17 t_a0 (by decide)).trans h3Zrd0
                  have e1125 := (Zfr.gi fc17 t_a0 (by decide)).trans h4Zrd0
                  have F1126 := Zfr.tr F0 fc17 (by decide)
                  unfold f_Reader_takeStep_147
                  have := li_13
                  exact ⟨_, rfl, Wc17, F1126, ⟨bt0, bg0, (13 : Int32), bfa0, bsl0, e1122, e1123, gc17, e1124, e1125, tt0, by (try dsimp only); omega, by (try dsimp only); omega, by (try dsimp only); omega, by (try dsimp only); omega, by (try dsimp only); omega⟩⟩
                · have hq1121 := i_ne hq1121
                  refine wi (fun hq1132 => ?_) (fun hq1132 => ?_)
                  · have hq1132 := i_eq hq1132
                    unfold f_Reader_takeStep_144
                    obtain ⟨w16, ew16⟩ := go_6 W t_a0
                    refine wb ew16 ?_
                    obtain ⟨q15, eq15, Wq15, fq15, pbZrtq15⟩ := p_Reader_addStep hn W (a1 := 12) t_a0 (by omega) (by omega) ⟨bt0, bg0, bs0, bfa0, bsl0, h0Zrd0, h1Zrd0, h2Zrd0, h3Zrd0, h4Zrd0, tt0, by (try dsimp only); omega, by (try dsimp only); omega, by (try dsimp only); omega, by (try dsimp only); omega, by (try dsimp only); omega⟩
                    refine wb eq15 ?_
                    have e1138 := (Zfr.gr fq15 t_a0 (by decide)).trans h0Zrd0
                    have e1139 := (Zfr.gi fq15 tt0 (by decide)).trans h1Zrd0
                    have e1140 := (Zfr.gi fq15 t_a0 (by decide)).trans h4Zrd0
                    have F1141 := Zfr.tr F0 fq15 (by decide)
                    obtain ⟨btq15, bgq15, bsq15, bfaq15, bslq15, h0Zrtq15, h1Zrtq15, h2Zrtq15, h3Zrtq15, h4Zrtq15, ttq15, r0Zrtq15, r1Zrtq15, r2Zrtq15, r3Zrtq15, r4Zrtq15⟩ := pbZrtq15
                    unfold f_Reader_takeStep_147
                    exact ⟨_, rfl, Wq15, F1141, ⟨btq15, bgq15, bsq15, bfaq15, bslq15, h0Zrtq15, h1Zrtq15, h2Zrtq15, h3Zrtq15, h4Zrtq15, ttq15, by (try dsimp only); omega, by (try dsimp only); omega, by (try dsimp only); omega, by (try dsimp only); omega, by (try dsimp only); omega⟩⟩
                  · have hq1132 := i_ne hq1132
                    refine wb h5Zrd0 ?_
                    refine wb h7Zrd0 ?_
                    refine wb h6Zrd0 ?_
                    refine wb h8Zrd0 ?_
                    unfold f_Reader_takeStep_144
                    obtain ⟨w16, ew16⟩ := go_6 W t_a0
                    refine wb ew16 ?_
                    obtain ⟨q15, eq15, Wq15, fq15, pbZrtq15⟩ := p_Reader_addStep hn W (a1 := bv0) t_a0 (by omega) (by omega) ⟨bt0, bg0, bs0, bfa0, bsl0, h0Zrd0, h1Zrd0, h2Zrd0, h3Zrd0, h4Zrd0, tt0, by (try dsimp only); omega, by (try dsimp only); omega, by (try dsimp only); omega, by (try dsimp only); omega, by (try dsimp only); omega⟩
                    refine wb eq15 ?_
                    have e1152 := (Zfr.gr fq15 t_a0 (by decide)).trans h0Zrd0
                    have e1153 := (Zfr.gi fq15 tt0 (by decide)).trans h1Zrd0
                    have e1154 := (Zfr.gi fq15 t_a0 (by decide)).trans h4Zrd0
                    have F1155 := Zfr.tr F0 fq15 (by decide)
                    obtain ⟨btq15, bgq15, bsq15, bfaq15, bslq15, h0Zrtq15, h1Zrtq15, h2Zrtq15, h3Zrtq15, h4Zrtq15, ttq15, r0Zrtq15, r1Zrtq15, r2Zrtq15, r3Zrtq15, r4Zrtq15⟩ := pbZrtq15
                    unfold f_Reader_takeStep_147
                    exact ⟨_, rfl, Wq15, F1155, ⟨btq15, bgq15, bsq15, bfaq15, bslq15, h0Zrtq15, h1Zrtq15, h2Zrtq15, h3Zrtq15, h4Zrtq15, ttq15, by (try dsimp only); omega, by (try dsimp only); omega, by (try dsimp only); omega, by (try dsimp only); omega, by (try dsimp only); omega⟩⟩
              · have := li_16
                have hq1120 := i_nlt hq1120
                obtain ⟨w19, ew19⟩ := go_6 W t_a0
                refine wb ew19 ?_
                have := li_3
                obtain ⟨q18, eq18, Wq18, fq18, pbZrfq18⟩ := p_Reader_fail hn W (a1 := 3) t_a0 (by omega) (by omega) ⟨bt0, bg0, bs0, bfa0, bsl0, h0Zrd0, h1Zrd0, h2Zrd0, h3Zrd0, h4Zrd0, tt0, by (try dsimp only); omega, by (try dsimp only); omega, by (try dsimp only); omega, by (try dsimp only); omega⟩
                refine wb eq18 ?_
                have e1166 := (Zfr.gr fq18 t_a0 (by decide)).trans h0Zrd0
                have e1167 := (Zfr.gi fq18 tt0 (by decide)).trans h1Zrd0
                have e1168 := (Zfr.gi fq18 t_a0 (by decide)).trans h2Zrd0
                have e1169 := (Zfr.gi fq18 t_a0 (by decide)).trans h4Zrd0
                have F1170 := Zfr.tr F0 fq18 (by decide)
                obtain ⟨btq18, bgq18, bsq18, bfaq18, bslq18, h0Zrfq18, h1Zrfq18, h2Zrfq18, h3Zrfq18, h4Zrfq18, ttq18, r0Zrfq18, r1Zrfq18, r2Zrfq18, r3Zrfq18, r4Zrfq18⟩ := pbZrfq18
                unfold f_Reader_takeStep_147
                exact ⟨_, rfl, Wq18, F1170, ⟨btq18, bgq18, bsq18, bfaq18, bslq18, h0Zrfq18, h1Zrfq18, h2Zrfq18, h3Zrfq18, h4Zrfq18, ttq18, by (try dsimp only); omega, by (try dsimp only); omega, by (try dsimp only); omega, by (try dsimp only); omega, by (try dsimp only); omega⟩⟩

end ZzT
