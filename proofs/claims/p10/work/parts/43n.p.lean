section ZzT
abbrev M_Reader_take : List (Nat × Nat) := [(2, 0), (2, 1), (2, 2), (2, 3), (2, 4), (2, 5), (2, 8), (2, 9), (2, 10), (2, 17), (3, 1), (3, 2), (3, 3), (3, 5), (3, 8), (3, 12), (3, 14), (3, 15), (3, 18), (3, 19), (3, 20), (5, 0), (5, 1), (5, 2), (5, 4), (6, 0), (6, 5), (6, 8), (6, 9), (6, 10), (6, 11), (6, 12), (6, 13), (6, 14), (6, 15), (6, 16), (6, 17), (6, 18), (6, 19), (22, 0), (23, 0), (24, 0), (25, 0), (30, 0), (32, 0), (33, 0), (34, 0), (35, 0), (36, 0), (37, 0), (43, 0), (44, 0), (45, 0), (46, 0)]
set_option maxRecDepth 100000 in
set_option maxHeartbeats 400000 in
theorem p_Reader_take {nf : Nat} (hn : 8589934592 ≤ nf) {G : List Nat} {c : Zc} (W : Zwt zty G c) {a0 : Nat} {a1 : Int32}  (t_a0 : G[a0]? = some 6) (hb_Zrd : Zrd G c a0 a1) : ∃ q, f_Reader_take nf a0 a1 c = some q ∧ Zwt zty G q ∧ Zfr G M_Reader_take c q ∧ Zrt G q a0 := by
  have F0 : Zfr G M_Reader_take c c := Zfr.rf
  unfold f_Reader_take
  obtain ⟨bt0, bg0, bs0, bfa0, bsl0, btk0, bat_0, bvl0, bv0, h0Zrd0, h1Zrd0, h2Zrd0, h3Zrd0, h4Zrd0, h5Zrd0, h6Zrd0, h7Zrd0, h8Zrd0, tt0, ttk0, tvl0, r0Zrd0, r1Zrd0, r2Zrd0, r3Zrd0, r4Zrd0, r5Zrd0, r6Zrd0, r7Zrd0, r8Zrd0, r9Zrd0, r10Zrd0⟩ := hb_Zrd
  refine wi (fun hq1 => ?_) (fun hq1 => ?_)
  · have := li_0
    have := i_ge a1
    have := i_up a1
    have hq1 := i_eq hq1
    obtain ⟨w58, ew58⟩ := go_6 W t_a0
    refine wb ew58 ?_
    have := li_1
    obtain ⟨q57, eq57, Wq57, fq57, pbZrfq57⟩ := p_Reader_fail hn W (a1 := 1) t_a0 (by omega) (by omega) ⟨bt0, bg0, bs0, bfa0, bsl0, h0Zrd0, h1Zrd0, h2Zrd0, h3Zrd0, h4Zrd0, tt0, by (try dsimp only); omega, by (try dsimp only); omega, by (try dsimp only); omega, by (try dsimp only); omega⟩
    refine wb eq57 ?_
    have e7 := (Zfr.gr fq57 t_a0 (by decide)).trans h0Zrd0
    have e8 := (Zfr.gi fq57 tt0 (by decide)).trans h1Zrd0
    have e9 := (Zfr.gi fq57 t_a0 (by decide)).trans h2Zrd0
    have e10 := (Zfr.gi fq57 t_a0 (by decide)).trans h4Zrd0
    have F11 := Zfr.tr F0 fq57 (by decide)
    obtain ⟨btq57, bgq57, bsq57, bfaq57, bslq57, h0Zrfq57, h1Zrfq57, h2Zrfq57, h3Zrfq57, h4Zrfq57, ttq57, r0Zrfq57, r1Zrfq57, r2Zrfq57, r3Zrfq57, r4Zrfq57⟩ := pbZrfq57
    unfold f_Reader_take_240
    exact ⟨_, rfl, Wq57, F11, ⟨btq57, bgq57, bsq57, bfaq57, bslq57, h0Zrfq57, h1Zrfq57, h2Zrfq57, h3Zrfq57, h4Zrfq57, ttq57, by (try dsimp only); omega, by (try dsimp only); omega, by (try dsimp only); omega, by (try dsimp only); omega, by (try dsimp only); omega⟩⟩
  · have := li_0
    have := i_ge a1
    have := i_up a1
    have hq1 := i_ne hq1
    obtain ⟨v2, ev2, tv2⟩ := gf_6_2 W t_a0
    refine wb ev2 ?_
    obtain ⟨v3, ev3, _⟩ := gf_5_0 W tv2
    refine wb ev3 ?_
    refine wi (fun hq17 => ?_) (fun hq17 => ?_)
    · have := li_10
      have := i_ge v3
      have := i_up v3
      have hq17 := i_le hq17
      refine wb h2Zrd0 ?_
      refine wi (fun hq18 => ?_) (fun hq18 => ?_)
      · have := li_2
        have := i_ge bs0
        have := i_up bs0
        have hq18 := i_lt hq18
        refine wb h2Zrd0 ?_
        refine wi (fun hq19 => ?_) (fun hq19 => ?_)
        · have := li_6
          have hq19 := i_lt hq19
          refine wb h2Zrd0 ?_
          refine wi (fun hq20 => ?_) (fun hq20 => ?_)
          · have := li_7
            have hq20 := i_eq hq20
            obtain ⟨w50, ew50⟩ := go_6 W t_a0
            refine wb ew50 ?_
            obtain ⟨q49, eq49, Wq49, fq49, pbZrtq49⟩ := p_Reader_takeAfterNode hn W (a1 := a1) t_a0 ⟨bt0, bg0, bs0, bfa0, bsl0, btk0, bat_0, bvl0, bv0, h0Zrd0, h1Zrd0, h2Zrd0, h3Zrd0, h4Zrd0, h5Zrd0, h6Zrd0, h7Zrd0, h8Zrd0, tt0, ttk0, tvl0, by (try dsimp only); omega, by (try dsimp only); omega, by (try dsimp only); omega, by (try dsimp only); omega, by (try dsimp only); omega, by (try dsimp only); omega, by (try dsimp only); omega, by (try dsimp only); omega, by (try dsimp only); omega, by (try dsimp only); omega, r10Zrd0⟩
            refine wb eq49 ?_
            have e30 := (Zfr.gr fq49 t_a0 (by decide)).trans h0Zrd0
            have e31 := (Zfr.gi fq49 tt0 (by decide)).trans h1Zrd0
            have e32 := (Zfr.gi fq49 t_a0 (by decide)).trans h4Zrd0
            have F33 := Zfr.tr F0 fq49 (by decide)
            obtain ⟨btq49, bgq49, bsq49, bfaq49, bslq49, h0Zrtq49, h1Zrtq49, h2Zrtq49, h3Zrtq49, h4Zrtq49, ttq49, r0Zrtq49, r1Zrtq49, r2Zrtq49, r3Zrtq49, r4Zrtq49⟩ := pbZrtq49
            unfold f_Reader_take_240
            exact ⟨_, rfl, Wq49, F33, ⟨btq49, bgq49, bsq49, bfaq49, bslq49, h0Zrtq49, h1Zrtq49, h2Zrtq49, h3Zrtq49, h4Zrtq49, ttq49, by (try dsimp only); omega, by (try dsimp only); omega, by (try dsimp only); omega, by (try dsimp only); omega, by (try dsimp only); omega⟩⟩
          · have := li_7
            have hq20 := i_ne hq20
            refine wb h2Zrd0 ?_
            refine wi (fun hq39 => ?_) (fun hq39 => ?_)
            · have := li_11
              have hq39 := i_lt hq39
              refine wb h2Zrd0 ?_
              refine wi (fun hq40 => ?_) (fun hq40 => ?_)
              · have := li_13
                have hq40 := i_lt hq40
                refine wb h2Zrd0 ?_
                refine wi (fun hq41 => ?_) (fun hq41 => ?_)
                · have := li_15
                  have hq41 := i_lt hq41
                  refine wb h2Zrd0 ?_
                  refine wi (fun hq42 => ?_) (fun hq42 => ?_)
                  · have := li_16
                    have hq42 := i_eq hq42
                    obtain ⟨w42, ew42⟩ := go_6 W t_a0
                    refine wb ew42 ?_
                    obtain ⟨q41, eq41, Wq41, fq41, pbZrtq41⟩ := p_Reader_takeFact hn W (a1 := a1) t_a0 ⟨bt0, bg0, bs0, bfa0, bsl0, btk0, bat_0, bvl0, bv0, h0Zrd0, h1Zrd0, h2Zrd0, h3Zrd0, h4Zrd0, h5Zrd0, h6Zrd0, h7Zrd0, h8Zrd0, tt0, ttk0, tvl0, by (try dsimp only); omega, by (try dsimp only); omega, by (try dsimp only); omega, by (try dsimp only); omega, by (try dsimp only); omega, by (try dsimp only); omega, by (try dsimp only); omega, by (try dsimp only); omega, by (try dsimp only); omega, by (try dsimp only); omega, r10Zrd0⟩
                    refine wb eq41 ?_
                    have e52 := (Zfr.gr fq41 t_a0 (by decide)).trans h0Zrd0
                    have e53 := (Zfr.gi fq41 t_a0 (by decide)).trans h3Zrd0
                    have e54 := (Zfr.gi fq41 t_a0 (by decide)).trans h4Zrd0
                    have F55 := Zfr.tr F0 fq41 (by decide)
                    obtain ⟨btq41, bgq41, bsq41, bfaq41, bslq41, h0Zrtq41, h1Zrtq41, h2Zrtq41, h3Zrtq41, h4Zrtq41, ttq41, r0Zrtq41, r1Zrtq41, r2Zrtq41, r3Zrtq41, r4Zrtq41⟩ := pbZrtq41
                    unfold f_Reader_take_240
                    exact ⟨_, rfl, Wq41, F55, ⟨btq41, bgq41, bsq41, bfaq41, bslq41, h0Zrtq41, h1Zrtq41, h2Zrtq41, h3Zrtq41, h4Zrtq41, ttq41, by (try dsimp only); omega, by (try dsimp only); omega, by (try dsimp only); omega, by (try dsimp only); omega, by (try dsimp only); omega⟩⟩
                  · have := li_16
                    have hq42 := i_ne hq42
                    refine wb h2Zrd0 ?_
                    refine wi (fun hq61 => ?_) (fun hq61 => ?_)
                    · have := li_17
                      have hq61 := i_eq hq61
                      obtain ⟨w40, ew40⟩ := go_6 W t_a0
                      refine wb ew40 ?_
                      obtain ⟨q39, eq39, Wq39, fq39, pbZrtq39⟩ := p_Reader_takeAfterFact hn W (a1 := a1) t_a0 ⟨bt0, bg0, bs0, bfa0, bsl0, btk0, bat_0, bvl0, bv0, h0Zrd0, h1Zrd0, h2Zrd0, h3Zrd0, h4Zrd0, h5Zrd0, h6Zrd0, h7Zrd0, h8Zrd0, tt0, ttk0, tvl0, by (try dsimp only); omega, by (try dsimp only); omega, by (try dsimp only); omega, by (try dsimp only); omega, by (try dsimp only); omega, by (try dsimp only); omega, by (try dsimp only); omega, by (try dsimp only); omega, by (try dsimp only); omega, by (try dsimp only); omega, r10Zrd0⟩
                      refine wb eq39 ?_
                      have e71 := (Zfr.gr fq39 t_a0 (by decide)).trans h0Zrd0
                      have e72 := (Zfr.gi fq39 tt0 (by decide)).trans h1Zrd0
                      have e73 := (Zfr.gi fq39 t_a0 (by decide)).trans h4Zrd0
                      have F74 := Zfr.tr F0 fq39 (by decide)
                      obtain ⟨btq39, bgq39, bsq39, bfaq39, bslq39, h0Zrtq39, h1Zrtq39, h2Zrtq39, h3Zrtq39, h4Zrtq39, ttq39, r0Zrtq39, r1Zrtq39, r2Zrtq39, r3Zrtq39, r4Zrtq39⟩ := pbZrtq39
                      unfold f_Reader_take_240
                      exact ⟨_, rfl, Wq39, F74, ⟨btq39, bgq39, bsq39, bfaq39, bslq39, h0Zrtq39, h1Zrtq39, h2Zrtq39, h3Zrtq39, h4Zrtq39, ttq39, by (try dsimp only); omega, by (try dsimp only); omega, by (try dsimp only); omega, by (try dsimp only); omega, by (try dsimp only); omega⟩⟩
                    · have := li_17
                      have hq61 := i_ne hq61
                      refine wb h2Zrd0 ?_
                      refine wi (fun hq80 => ?_) (fun hq80 => ?_)
                      · have := li_18
                        have hq80 := i_eq hq80
                        obtain ⟨w38, ew38⟩ := go_6 W t_a0
                        refine wb ew38 ?_
                        obtain ⟨q37, eq37, Wq37, fq37, pbZrtq37⟩ := p_Reader_takeUnit hn W (a1 := a1) t_a0 ⟨bt0, bg0, bs0, bfa0, bsl0, btk0, bat_0, bvl0, bv0, h0Zrd0, h1Zrd0, h2Zrd0, h3Zrd0, h4Zrd0, h5Zrd0, h6Zrd0, h7Zrd0, h8Zrd0, tt0, ttk0, tvl0, by (try dsimp only); omega, by (try dsimp only); omega, by (try dsimp only); omega, by (try dsimp only); omega, by (try dsimp only); omega, by (try dsimp only); omega, by (try dsimp only); omega, by (try dsimp only); omega, by (try dsimp only); omega, by (try dsimp only); omega, r10Zrd0⟩
                        refine wb eq37 ?_
                        have e90 := (Zfr.gr fq37 t_a0 (by decide)).trans h0Zrd0
                        have e91 := (Zfr.gi fq37 tt0 (by decide)).trans h1Zrd0
                        have F92 := Zfr.tr F0 fq37 (by decide)
                        obtain ⟨btq37, bgq37, bsq37, bfaq37, bslq37, h0Zrtq37, h1Zrtq37, h2Zrtq37, h3Zrtq37, h4Zrtq37, ttq37, r0Zrtq37, r1Zrtq37, r2Zrtq37, r3Zrtq37, r4Zrtq37⟩ := pbZrtq37
                        unfold f_Reader_take_240
                        exact ⟨_, rfl, Wq37, F92, ⟨btq37, bgq37, bsq37, bfaq37, bslq37, h0Zrtq37, h1Zrtq37, h2Zrtq37, h3Zrtq37, h4Zrtq37, ttq37, by (try dsimp only); omega, by (try dsimp only); omega, by (try dsimp only); omega, by (try dsimp only); omega, by (try dsimp only); omega⟩⟩
                      · have := li_18
                        have hq80 := i_ne hq80
                        refine wb h2Zrd0 ?_
                        refine wi (fun hq98 => ?_) (fun hq98 => ?_)
                        · have := li_20
                          have hq98 := i_lt hq98
                          refine wb h2Zrd0 ?_
                          refine wi (fun hq99 => ?_) (fun hq99 => ?_)
                          · have := li_21
                            have hq99 := i_eq hq99
                            obtain ⟨w34, ew34⟩ := go_6 W t_a0
                            refine wb ew34 ?_
                            obtain ⟨q33, eq33, Wq33, fq33, pbZrtq33⟩ := p_Reader_takeAfterUnit hn W (a1 := a1) t_a0 ⟨bt0, bg0, bs0, bfa0, bsl0, btk0, bat_0, bvl0, bv0, h0Zrd0, h1Zrd0, h2Zrd0, h3Zrd0, h4Zrd0, h5Zrd0, h6Zrd0, h7Zrd0, h8Zrd0, tt0, ttk0, tvl0, by (try dsimp only); omega, by (try dsimp only); omega, by (try dsimp only); omega, by (try dsimp only); omega, by (try dsimp only); omega, by (try dsimp only); omega, by (try dsimp only); omega, by (try dsimp only); omega, by (try dsimp only); omega, by (try dsimp only); omega, r10Zrd0⟩
                            refine wb eq33 ?_
                            have e109 := (Zfr.gr fq33 t_a0 (by decide)).trans h0Zrd0
                            have e110 := (Zfr.gi fq33 tt0 (by decide)).trans h1Zrd0
                            have e111 := (Zfr.gi fq33 t_a0 (by decide)).trans h4Zrd0
                            have F112 := Zfr.tr F0 fq33 (by decide)
                            obtain ⟨btq33, bgq33, bsq33, bfaq33, bslq33, h0Zrtq33, h1Zrtq33, h2Zrtq33, h3Zrtq33, h4Zrtq33, ttq33, r0Zrtq33, r1Zrtq33, r2Zrtq33, r3Zrtq33, r4Zrtq33⟩ := pbZrtq33
                            unfold f_Reader_take_240
                            exact ⟨_, rfl, Wq33, F112, ⟨btq33, bgq33, bsq33, bfaq33, bslq33, h0Zrtq33, h1Zrtq33, h2Zrtq33, h3Zrtq33, h4Zrtq33, ttq33, by (try dsimp only); omega, by (try dsimp only); omega, by (try dsimp only); omega, by (try dsimp only); omega, by (try dsimp only); omega⟩⟩
                          · have := li_21
                            have hq99 := i_ne hq99
                            refine wb h2Zrd0 ?_
                            refine wi (fun hq118 => ?_) (fun hq118 => ?_)
                            · have := li_22
                              have hq118 := i_eq hq118
                              obtain ⟨w32, ew32⟩ := go_6 W t_a0
                              refine wb ew32 ?_
                              obtain ⟨q31, eq31, Wq31, fq31, pbZrtq31⟩ := p_Reader_takeItem hn W (a1 := a1) t_a0 ⟨bt0, bg0, bs0, bfa0, bsl0, btk0, bat_0, bvl0, bv0, h0Zrd0, h1Zrd0, h2Zrd0, h3Zrd0, h4Zrd0, h5Zrd0, h6Zrd0, h7Zrd0, h8Zrd0, tt0, ttk0, tvl0, by (try dsimp only); omega, by (try dsimp only); omega, by (try dsimp only); omega, by (try dsimp only); omega, by (try dsimp only); omega, by (try dsimp only); omega, by (try dsimp only); omega, by (try dsimp only); omega, by (try dsimp only); omega, by (try dsimp only); omega, r10Zrd0⟩
                              refine wb eq31 ?_
                              have e128 := (Zfr.gr fq31 t_a0 (by decide)).trans h0Zrd0
                              have e129 := (Zfr.gi fq31 tt0 (by decide)).trans h1Zrd0
                              have e130 := (Zfr.gi fq31 t_a0 (by decide)).trans h4Zrd0
                              have F131 := Zfr.tr F0 fq31 (by decide)
                              obtain ⟨btq31, bgq31, bsq31, bfaq31, bslq31, h0Zrtq31, h1Zrtq31, h2Zrtq31, h3Zrtq31, h4Zrtq31, ttq31, r0Zrtq31, r1Zrtq31, r2Zrtq31, r3Zrtq31, r4Zrtq31⟩ := pbZrtq31
                              unfold f_Reader_take_240
                              exact ⟨_, rfl, Wq31, F131, ⟨btq31, bgq31, bsq31, bfaq31, bslq31, h0Zrtq31, h1Zrtq31, h2Zrtq31, h3Zrtq31, h4Zrtq31, ttq31, by (try dsimp only); omega, by (try dsimp only); omega, by (try dsimp only); omega, by (try dsimp only); omega, by (try dsimp only); omega⟩⟩
                            · have := li_22
                              have hq118 := i_ne hq118
                              obtain ⟨w30, ew30⟩ := go_6 W t_a0
                              refine wb ew30 ?_
                              obtain ⟨q29, eq29, Wq29, fq29, pbZrtq29⟩ := p_Reader_takeTail hn W (a1 := a1) t_a0 ⟨bt0, bg0, bs0, bfa0, bsl0, btk0, bat_0, bvl0, bv0, h0Zrd0, h1Zrd0, h2Zrd0, h3Zrd0, h4Zrd0, h5Zrd0, h6Zrd0, h7Zrd0, h8Zrd0, tt0, ttk0, tvl0, by (try dsimp only); omega, by (try dsimp only); omega, by (try dsimp only); omega, by (try dsimp only); omega, by (try dsimp only); omega, by (try dsimp only); omega, by (try dsimp only); omega, by (try dsimp only); omega, by (try dsimp only); omega, by (try dsimp only); omega, r10Zrd0⟩
                              refine wb eq29 ?_
                              have e146 := (Zfr.gr fq29 t_a0 (by decide)).trans h0Zrd0
                              have e147 := (Zfr.gi fq29 tt0 (by decide)).trans h1Zrd0
                              have F148 := Zfr.tr F0 fq29 (by decide)
                              obtain ⟨btq29, bgq29, bsq29, bfaq29, bslq29, h0Zrtq29, h1Zrtq29, h2Zrtq29, h3Zrtq29, h4Zrtq29, ttq29, r0Zrtq29, r1Zrtq29, r2Zrtq29, r3Zrtq29, r4Zrtq29⟩ := pbZrtq29
                              unfold f_Reader_take_240
                              exact ⟨_, rfl, Wq29, F148, ⟨btq29, bgq29, bsq29, bfaq29, bslq29, h0Zrtq29, h1Zrtq29, h2Zrtq29, h3Zrtq29, h4Zrtq29, ttq29, by (try dsimp only); omega, by (try dsimp only); omega, by (try dsimp only); omega, by (try dsimp only); omega, by (try dsimp only); omega⟩⟩
                        · have := li_20
                          have hq98 := i_nlt hq98
                          obtain ⟨w36, ew36⟩ := go_6 W t_a0
                          refine wb ew36 ?_
                          obtain ⟨q35, eq35, Wq35, fq35, pbZrtq35⟩ := p_Reader_takeAfterVariable hn W (a1 := a1) t_a0 ⟨bt0, bg0, bs0, bfa0, bsl0, btk0, bat_0, bvl0, bv0, h0Zrd0, h1Zrd0, h2Zrd0, h3Zrd0, h4Zrd0, h5Zrd0, h6Zrd0, h7Zrd0, h8Zrd0, tt0, ttk0, tvl0, by (try dsimp only); omega, by (try dsimp only); omega, by (try dsimp only); omega, by (try dsimp only); omega, by (try dsimp only); omega, by (try dsimp only); omega, by (try dsimp only); omega, by (try dsimp only); omega, by (try dsimp only); omega, by (try dsimp only); omega, r10Zrd0, by (try dsimp only); omega, by (try dsimp only); omega⟩
                          refine wb eq35 ?_
                          have e163 := (Zfr.gr fq35 t_a0 (by decide)).trans h0Zrd0
                          have e164 := (Zfr.gi fq35 tt0 (by decide)).trans h1Zrd0
                          have e165 := (Zfr.gi fq35 t_a0 (by decide)).trans h4Zrd0
                          have F166 := Zfr.tr F0 fq35 (by decide)
                          obtain ⟨btq35, bgq35, bsq35, bfaq35, bslq35, h0Zrtq35, h1Zrtq35, h2Zrtq35, h3Zrtq35, h4Zrtq35, ttq35, r0Zrtq35, r1Zrtq35, r2Zrtq35, r3Zrtq35, r4Zrtq35⟩ := pbZrtq35
                          unfold f_Reader_take_240
                          exact ⟨_, rfl, Wq35, F166, ⟨btq35, bgq35, bsq35, bfaq35, bslq35, h0Zrtq35, h1Zrtq35, h2Zrtq35, h3Zrtq35, h4Zrtq35, ttq35, by (try dsimp only); omega, by (try dsimp only); omega, by (try dsimp only); omega, by (try dsimp only); omega, by (try dsimp only); omega⟩⟩
                · have := li_15
                  have hq41 := i_nlt hq41
                  obtain ⟨w44, ew44⟩ := go_6 W t_a0
                  refine wb ew44 ?_
                  obtain ⟨q43, eq43, Wq43, fq43, pbZrtq43⟩ := p_Reader_takeAfterStep hn W (a1 := a1) t_a0 ⟨bt0, bg0, bs0, bfa0, bsl0, btk0, bat_0, bvl0, bv0, h0Zrd0, h1Zrd0, h2Zrd0, h3Zrd0, h4Zrd0, h5Zrd0, h6Zrd0, h7Zrd0, h8Zrd0, tt0, ttk0, tvl0, by (try dsimp only); omega, by (try dsimp only); omega, by (try dsimp only); omega, by (try dsimp only); omega, by (try dsimp only); omega, by (try dsimp only); omega, by (try dsimp only); omega, by (try dsimp only); omega, by (try dsimp only); omega, by (try dsimp only); omega, r10Zrd0⟩
                  refine wb eq43 ?_
                  have e181 := (Zfr.gr fq43 t_a0 (by decide)).trans h0Zrd0
                  have e182 := (Zfr.gi fq43 tt0 (by decide)).trans h1Zrd0
                  have e183 := (Zfr.gi fq43 t_a0 (by decide)).trans h3Zrd0
                  have e184 := (Zfr.gi fq43 t_a0 (by decide)).trans h4Zrd0
                  have F185 := Zfr.tr F0 fq43 (by decide)
                  obtain ⟨btq43, bgq43, bsq43, bfaq43, bslq43, h0Zrtq43, h1Zrtq43, h2Zrtq43, h3Zrtq43, h4Zrtq43, ttq43, r0Zrtq43, r1Zrtq43, r2Zrtq43, r3Zrtq43, r4Zrtq43⟩ := pbZrtq43
                  unfold f_Reader_take_240
                  exact ⟨_, rfl, Wq43, F185, ⟨btq43, bgq43, bsq43, bfaq43, bslq43, h0Zrtq43, h1Zrtq43, h2Zrtq43, h3Zrtq43, h4Zrtq43, ttq43, by (try dsimp only); omega, by (try dsimp only); omega, by (try dsimp only); omega, by (try dsimp only); omega, by (try dsimp only); omega⟩⟩
              · have := li_13
                have hq40 := i_nlt hq40
                obtain ⟨w46, ew46⟩ := go_6 W t_a0
                refine wb ew46 ?_
                obtain ⟨q45, eq45, Wq45, fq45, pbZrtq45⟩ := p_Reader_takeStep hn W (a1 := a1) t_a0 ⟨bt0, bg0, bs0, bfa0, bsl0, btk0, bat_0, bvl0, bv0, h0Zrd0, h1Zrd0, h2Zrd0, h3Zrd0, h4Zrd0, h5Zrd0, h6Zrd0, h7Zrd0, h8Zrd0, tt0, ttk0, tvl0, by (try dsimp only); omega, by (try dsimp only); omega, by (try dsimp only); omega, by (try dsimp only); omega, by (try dsimp only); omega, by (try dsimp only); omega, by (try dsimp only); omega, by (try dsimp only); omega, by (try dsimp only); omega, by (try dsimp only); omega, r10Zrd0⟩
                refine wb eq45 ?_
                have e200 := (Zfr.gr fq45 t_a0 (by decide)).trans h0Zrd0
                have e201 := (Zfr.gi fq45 tt0 (by decide)).trans h1Zrd0
                have e202 := (Zfr.gi fq45 t_a0 (by decide)).trans h4Zrd0
                have F203 := Zfr.tr F0 fq45 (by decide)
                obtain ⟨btq45, bgq45, bsq45, bfaq45, bslq45, h0Zrtq45, h1Zrtq45, h2Zrtq45, h3Zrtq45, h4Zrtq45, ttq45, r0Zrtq45, r1Zrtq45, r2Zrtq45, r3Zrtq45, r4Zrtq45⟩ := pbZrtq45
                unfold f_Reader_take_240
                exact ⟨_, rfl, Wq45, F203, ⟨btq45, bgq45, bsq45, bfaq45, bslq45, h0Zrtq45, h1Zrtq45, h2Zrtq45, h3Zrtq45, h4Zrtq45, ttq45, by (try dsimp only); omega, by (try dsimp only); omega, by (try dsimp only); omega, by (try dsimp only); omega, by (try dsimp only); omega⟩⟩
            · have := li_11
              have hq39 := i_nlt hq39
              obtain ⟨w48, ew48⟩ := go_6 W t_a0
              refine wb ew48 ?_
              obtain ⟨q47, eq47, Wq47, fq47, pbZrtq47⟩ := p_Reader_takeInWay hn W (a1 := a1) t_a0 ⟨bt0, bg0, bs0, bfa0, bsl0, btk0, bat_0, bvl0, bv0, h0Zrd0, h1Zrd0, h2Zrd0, h3Zrd0, h4Zrd0, h5Zrd0, h6Zrd0, h7Zrd0, h8Zrd0, tt0, ttk0, tvl0, by (try dsimp only); omega, by (try dsimp only); omega, by (try dsimp only); omega, by (try dsimp only); omega, by (try dsimp only); omega, by (try dsimp only); omega, by (try dsimp only); omega, by (try dsimp only); omega, by (try dsimp only); omega, by (try dsimp only); omega, r10Zrd0⟩
              refine wb eq47 ?_
              have e218 := (Zfr.gr fq47 t_a0 (by decide)).trans h0Zrd0
              have e219 := (Zfr.gi fq47 tt0 (by decide)).trans h1Zrd0
              have F220 := Zfr.tr F0 fq47 (by decide)
              obtain ⟨btq47, bgq47, bsq47, bfaq47, bslq47, h0Zrtq47, h1Zrtq47, h2Zrtq47, h3Zrtq47, h4Zrtq47, ttq47, r0Zrtq47, r1Zrtq47, r2Zrtq47, r3Zrtq47, r4Zrtq47⟩ := pbZrtq47
              unfold f_Reader_take_240
              exact ⟨_, rfl, Wq47, F220, ⟨btq47, bgq47, bsq47, bfaq47, bslq47, h0Zrtq47, h1Zrtq47, h2Zrtq47, h3Zrtq47, h4Zrtq47, ttq47, by (try dsimp only); omega, by (try dsimp only); omega, by (try dsimp only); omega, by (try dsimp only); omega, by (try dsimp only); omega⟩⟩
        · have := li_6
          have hq19 := i_nlt hq19
          obtain ⟨w52, ew52⟩ := go_6 W t_a0
          refine wb ew52 ?_
          obtain ⟨q51, eq51, Wq51, fq51, pbZrtq51⟩ := p_Reader_takeInNode hn W (a1 := a1) t_a0 ⟨bt0, bg0, bs0, bfa0, bsl0, btk0, bat_0, bvl0, bv0, h0Zrd0, h1Zrd0, h2Zrd0, h3Zrd0, h4Zrd0, h5Zrd0, h6Zrd0, h7Zrd0, h8Zrd0, tt0, ttk0, tvl0, by (try dsimp only); omega, by (try dsimp only); omega, by (try dsimp only); omega, by (try dsimp only); omega, by (try dsimp only); omega, by (try dsimp only); omega, by (try dsimp only); omega, by (try dsimp only); omega, by (try dsimp only); omega, by (try dsimp only); omega, r10Zrd0⟩
          refine wb eq51 ?_
          have e235 := (Zfr.gr fq51 t_a0 (by decide)).trans h0Zrd0
          have e236 := (Zfr.gi fq51 tt0 (by decide)).trans h1Zrd0
          have F237 := Zfr.tr F0 fq51 (by decide)
          obtain ⟨btq51, bgq51, bsq51, bfaq51, bslq51, h0Zrtq51, h1Zrtq51, h2Zrtq51, h3Zrtq51, h4Zrtq51, ttq51, r0Zrtq51, r1Zrtq51, r2Zrtq51, r3Zrtq51, r4Zrtq51⟩ := pbZrtq51
          unfold f_Reader_take_240
          exact ⟨_, rfl, Wq51, F237, ⟨btq51, bgq51, bsq51, bfaq51, bslq51, h0Zrtq51, h1Zrtq51, h2Zrtq51, h3Zrtq51, h4Zrtq51, ttq51, by (try dsimp only); omega, by (try dsimp only); omega, by (try dsimp only); omega, by (try dsimp only); omega, by (try dsimp only); omega⟩⟩
      · have := li_2
        have := i_ge bs0
        have := i_up bs0
        have hq18 := i_nlt hq18
        obtain ⟨w54, ew54⟩ := go_6 W t_a0
        refine wb ew54 ?_
        obtain ⟨q53, eq53, Wq53, fq53, pbZrtq53⟩ := p_Reader_takeHead hn W (a1 := a1) t_a0 ⟨bt0, bg0, bs0, bfa0, bsl0, btk0, bat_0, bvl0, bv0, h0Zrd0, h1Zrd0, h2Zrd0, h3Zrd0, h4Zrd0, h5Zrd0, h6Zrd0, h7Zrd0, h8Zrd0, tt0, ttk0, tvl0, by (try dsimp only); omega, by (try dsimp only); omega, by (try dsimp only); omega, by (try dsimp only); omega, by (try dsimp only); omega, by (try dsimp only); omega, by (try dsimp only); omega, by (try dsimp only); omega, by (try dsimp only); omega, by (try dsimp only); omega, r10Zrd0⟩
        refine wb eq53 ?_
        have e252 := (Zfr.gr fq53 t_a0 (by decide)).trans h0Zrd0
        have e253 := (Zfr.gi fq53 tt0 (by decide)).trans h1Zrd0
        have e254 := (Zfr.gi fq53 t_a0 (by decide)).trans h4Zrd0
        have F255 := Zfr.tr F0 fq53 (by decide)
        obtain ⟨btq53, bgq53, bsq53, bfaq53, bslq53, h0Zrtq53, h1Zrtq53, h2Zrtq53, h3Zrtq53, h4Zrtq53, ttq53, r0Zrtq53, r1Zrtq53, r2Zrtq53, r3Zrtq53, r4Zrtq53⟩ := pbZrtq53
        unfold f_Reader_take_240
        exact ⟨_, rfl, Wq53, F255, ⟨btq53, bgq53, bsq53, bfaq53, bslq53, h0Zrtq53, h1Zrtq53, h2Zrtq53, h3Zrtq53, h4Zrtq53, ttq53, by (try dsimp only); omega, by (try dsimp only); omega, by (try dsimp only); omega, by (try dsimp only); omega, by (try dsimp only); omega⟩⟩
    · have := li_10
      have := i_ge v3
      have := i_up v3
      have hq17 := i_nle hq17
      obtain ⟨w56, ew56⟩ := go_6 W t_a0
      refine wb ew56 ?_
      have := li_3
      obtain ⟨q55, eq55, Wq55, fq55, pbZrfq55⟩ := p_Reader_fail hn W (a1 := 3) t_a0 (by omega) (by omega) ⟨bt0, bg0, bs0, bfa0, bsl0, h0Zrd0, h1Zrd0, h2Zrd0, h3Zrd0, h4Zrd0, tt0, by (try dsimp only); omega, by (try dsimp only); omega, by (try dsimp only); omega, by (try dsimp only); omega⟩
      refine wb eq55 ?_
      have e266 := (Zfr.gr fq55 t_a0 (by decide)).trans h0Zrd0
      have e267 := (Zfr.gi fq55 tt0 (by decide)).trans h1Zrd0
      have e268 := (Zfr.gi fq55 t_a0 (by decide)).trans h2Zrd0
      have e269 := (Zfr.gi fq55 t_a0 (by decide)).trans h4Zrd0
      have F270 := Zfr.tr F0 fq55 (by decide)
      obtain ⟨btq55, bgq55, bsq55, bfaq55, bslq55, h0Zrfq55, h1Zrfq55, h2Zrfq55, h3Zrfq55, h4Zrfq55, ttq55, r0Zrfq55, r1Zrfq55, r2Zrfq55, r3Zrfq55, r4Zrfq55⟩ := pbZrfq55
      unfold f_Reader_take_240
      exact ⟨_, rfl, Wq55, F270, ⟨btq55, bgq55, bsq55, bfaq55, bslq55, h0Zrfq55, h1Zrfq55, h2Zrfq55, h3Zrfq55, h4Zrfq55, ttq55, by (try dsimp only); omega, by (try dsimp only); omega, by (try dsimp only); omega, by (try dsimp only); omega, by (try dsimp only); omega⟩⟩

abbrev M_Reader_begin : List (Nat × Nat) := [(3, 0), (3, 2), (3, 3), (3, 5), (3, 8), (3, 12), (3, 14), (3, 15), (3, 18), (5, 0), (5, 1), (5, 2), (5, 3), (5, 4), (6, 0), (6, 4), (6, 5), (6, 6), (6, 8), (6, 9), (6, 10), (6, 11), (6, 12), (6, 13), (6, 15), (32, 0), (33, 0), (34, 0), (46, 0)]
set_option maxRecDepth 100000 in
set_option maxHeartbeats 400000 in
theorem p_Reader_begin {nf : Nat} (hn : 8589934592 ≤ nf) {G : List Nat} {c : Zc} (W : Zwt zty G c) {a0 : Nat} {a1 : Nat} {a2 : Int32}  (t_a0 : G[a0]? = some 6) (t_a1 : G[a1]? = some 3) (pl_a2 : 0 ≤ a2.toInt) (pu_a2 : a2.toInt ≤ 1) : ∃ q, f_Reader_begin nf a0 a1 a2 c = some q ∧ Zwt zty G q ∧ Zfr G M_Reader_begin c q ∧ Zrt G q a0 := by
  have F0 : Zfr G M_Reader_begin c c := Zfr.rf
  unfold f_Reader_begin
  obtain ⟨c1, ec1, Wc1, fc1, gc1⟩ := pf_6_4 W t_a0 t_a1 (by decide)
  refine wb ec1 ?_
  have F1 := Zfr.tr F0 fc1 (by decide)
  refine wb gc1 ?_
  obtain ⟨w4, ew4⟩ := go_3 Wc1 t_a1
  refine wb ew4 ?_
  obtain ⟨q3, eq3, Wq3, fq3, pbZtgq3⟩ := p_Text_clear hn Wc1  t_a1
  refine wb eq3 ?_
  have e2 := (Zfr.gr fq3 t_a0 (by decide)).trans gc1
  have F3 := Zfr.tr F1 fq3 (by decide)
  obtain ⟨bgq3, h0Ztgq3, r0Ztgq3, r1Ztgq3⟩ := pbZtgq3
  obtain ⟨v5, ev5, tv5⟩ := gf_6_2 Wq3 t_a0
  refine wb ev5 ?_
  obtain ⟨w7, ew7⟩ := go_5 Wq3 tv5
  refine wb ew7 ?_
  obtain ⟨q6, eq6, Wq6, fq6⟩ := p_Operators_begin hn Wq3  tv5 t_a1
  refine wb eq6 ?_
  have e4 := (Zfr.gr fq6 t_a0 (by decide)).trans e2
  have e5 := (Zfr.gi fq6 t_a1 (by decide)).trans h0Ztgq3
  have F6 := Zfr.tr F3 fq6 (by decide)
  obtain ⟨v8, ev8, tv8⟩ := gf_3_4 Wq6 t_a1
  refine wb ev8 ?_
  have := li_0
  obtain ⟨v9, ev9, tv9⟩ := ga_29 Wq6 tv8 (i := 0) (by omega) (by omega)
  refine wb ev9 ?_
  obtain ⟨c10, ec10, Wc10, fc10, gc10⟩ := pf_6_5 Wq6 t_a0 tv9 (by decide)
  refine wb ec10 ?_
  have e7 := (Zfr.gr fc10 t_a0 (by decide)).trans e4
  have e8 := (Zfr.gi fc10 t_a1 (by decide)).trans e5
  have F9 := Zfr.tr F6 fc10 (by decide)
  obtain ⟨c11, ec11, Wc11, fc11, gc11⟩ := pz_6_6 Wc10 t_a0 (x := a2) (rgi (by omega) (by omega))
  refine wb ec11 ?_
  have e10 := (Zfr.gr fc11 t_a0 (by decide)).trans e7
  have e11 := (Zfr.gi fc11 t_a1 (by decide)).trans e8
  have F12 := Zfr.tr F9 fc11 (by decide)
  obtain ⟨c12, ec12, Wc12, fc12, gc12⟩ := pf_6_8 Wc11 t_a0 (x := 0) (trivial)
  refine wb ec12 ?_
  have e13 := (Zfr.gr fc12 t_a0 (by decide)).trans e10
  have e14 := (Zfr.gi fc12 t_a1 (by decide)).trans e11
  have F15 := Zfr.tr F12 fc12 (by decide)
  obtain ⟨c13, ec13, Wc13, fc13, gc13⟩ := pf_6_9 Wc12 t_a0 (x := 0) (trivial)
  refine wb ec13 ?_
  have e16 := (Zfr.gr fc13 t_a0 (by decide)).trans e13
  have e17 := (Zfr.gi fc13 t_a1 (by decide)).trans e14
  have e18 := (Zfr.gi fc13 t_a0 (by decide)).trans gc12
  have F19 := Zfr.tr F15 fc13 (by decide)
  obtain ⟨c14, ec14, Wc14, fc14, gc14⟩ := pf_6_0 Wc13 t_a0 (x := (-2)) (trivial)
  refine wb ec14 ?_
  have e20 := (Zfr.gr fc14 t_a0 (by decide)).trans e16
  have e21 := (Zfr.gi fc14 t_a1 (by decide)).trans e17
  have e22 := (Zfr.gi fc14 t_a0 (by decide)).trans e18
  have e23 := (Zfr.gi fc14 t_a0 (by decide)).trans gc13
  have F24 := Zfr.tr F19 fc14 (by decide)
  obtain ⟨c15, ec15, Wc15, fc15, gc15⟩ := pf_6_10 Wc14 t_a0 (x := 0) (rgi (by omega) (by omega))
  refine wb ec15 ?_
  have e25 := (Zfr.gr fc15 t_a0 (by decide)).trans e20
  have e26 := (Zfr.gi fc15 t_a1 (by decide)).trans e21
  have e27 := (Zfr.gi fc15 t_a0 (by decide)).trans e22
  have e28 := (Zfr.gi fc15 t_a0 (by decide)).trans e23
  have F29 := Zfr.tr F24 fc15 (by decide)
  obtain ⟨c16, ec16, Wc16, fc16, gc16⟩ := pf_6_11 Wc15 t_a0 (x := 0) (trivial)
  refine wb ec16 ?_
  have e30 := (Zfr.gr fc16 t_a0 (by decide)).trans e25
  have e31 := (Zfr.gi fc16 t_a1 (by decide)).trans e26
  have e32 := (Zfr.gi fc16 t_a0 (by decide)).trans e27
  have e33 := (Zfr.gi fc16 t_a0 (by decide)).trans e28
  have F34 := Zfr.tr F29 fc16 (by decide)
  obtain ⟨c17, ec17, Wc17, fc17, gc17⟩ := pf_6_12 Wc16 t_a0 (x := 0) (trivial)
  refine wb ec17 ?_
  have e35 := (Zfr.gr fc17 t_a0 (by decide)).trans e30
  have e36 := (Zfr.gi fc17 t_a1 (by decide)).trans e31
  have e37 := (Zfr.gi fc17 t_a0 (by decide)).trans e32
  have e38 := (Zfr.gi fc17 t_a0 (by decide)).trans e33
  have F39 := Zfr.tr F34 fc17 (by decide)
  obtain ⟨c18, ec18, Wc18, fc18, gc18⟩ := pf_6_13 Wc17 t_a0 (x := (-1)) (trivial)
  refine wb ec18 ?_
  have e40 := (Zfr.gr fc18 t_a0 (by decide)).trans e35
  have e41 := (Zfr.gi fc18 t_a1 (by decide)).trans e36
  have e42 := (Zfr.gi fc18 t_a0 (by decide)).trans e37
  have e43 := (Zfr.gi fc18 t_a0 (by decide)).trans e38
  have F44 := Zfr.tr F39 fc18 (by decide)
  have := li_m1
  obtain ⟨c19, ec19, Wc19, fc19, gc19⟩ := pf_6_15 Wc18 t_a0 (x := (-1)) (rgi (by omega) (by omega))
  refine wb ec19 ?_
  have e45 := (Zfr.gr fc19 t_a0 (by decide)).trans e40
  have e46 := (Zfr.gi fc19 t_a1 (by decide)).trans e41
  have e47 := (Zfr.gi fc19 t_a0 (by decide)).trans e42
  have e48 := (Zfr.gi fc19 t_a0 (by decide)).trans e43
  have F49 := Zfr.tr F44 fc19 (by decide)
  obtain ⟨v20, ev20, tv20⟩ := gf_6_3 Wc19 t_a0
  refine wb ev20 ?_
  obtain ⟨q21, eq21, Wq21, fq21⟩ := p_Arrays_fill__RSlot hn Wc19 (a1 := (-1)) tv20 (by omega) (by omega)
  refine wb eq21 ?_
  have e50 := (Zfr.gr fq21 t_a0 (by decide)).trans e45
  have e51 := (Zfr.gi fq21 t_a1 (by decide)).trans e46
  have e52 := (Zfr.gi fq21 t_a0 (by decide)).trans e47
  have e53 := (Zfr.gi fq21 t_a0 (by decide)).trans e48
  have F54 := Zfr.tr F49 fq21 (by decide)
  obtain ⟨w_59, ew_59, lw_59, uw_59⟩ := gf_6_16 Wq21 t_a0
  exact ⟨_, rfl, Wq21, F54, ⟨a1, bgq3, (0 : Int32), (0 : Int32), w_59, e50, e51, e52, e53, ew_59, t_a1, by (try dsimp only); omega, by (try dsimp only); omega, by (try dsimp only); omega, by (try dsimp only); omega, by (try dsimp only); omega⟩⟩

abbrev M_Reader_read : List (Nat × Nat) := [(2, 0), (2, 1), (2, 2), (2, 3), (2, 4), (2, 5), (2, 8), (2, 9), (2, 10), (2, 17), (3, 0), (3, 1), (3, 2), (3, 3), (3, 5), (3, 8), (3, 12), (3, 14), (3, 15), (3, 18), (3, 19), (3, 20), (4, 3), (4, 4), (4, 5), (5, 0), (5, 1), (5, 2), (5, 3), (5, 4), (6, 0), (6, 4), (6, 5), (6, 6), (6, 7), (6, 8), (6, 9), (6, 10), (6, 11), (6, 12), (6, 13), (6, 14), (6, 15), (6, 16), (6, 17), (6, 18), (6, 19), (22, 0), (23, 0), (24, 0), (25, 0), (30, 0), (32, 0), (33, 0), (34, 0), (35, 0), (36, 0), (37, 0), (38, 0), (39, 0), (40, 0), (43, 0), (44, 0), (45, 0), (46, 0)]
set_option maxRecDepth 100000 in
set_option maxHeartbeats 400000 in
theorem p_Reader_read {nf : Nat} (hn : 8589934592 ≤ nf) {G : List Nat} {c : Zc} (W : Zwt zty G c) {a0 : Nat} {a1 : Nat} {a2 : Int32} {a3 : Nat} {a4 : Int32}  (t_a0 : G[a0]? = some 6) (t_a1 : G[a1]? = some 42) (t_a3 : G[a3]? = some 3) (pl_a2 : 0 ≤ a2.toInt) (pu_a2 : a2.toInt ≤ 1500) (pl_a4 : 0 ≤ a4.toInt) (pu_a4 : a4.toInt ≤ 1) : ∃ q, f_Reader_read nf a0 a1 a2 a3 a4 c = some q ∧ Zwt zty G q.2 ∧ Zfr G M_Reader_read c q.2 := by
  have F0 : Zfr G M_Reader_read c c := Zfr.rf
  unfold f_Reader_read
  obtain ⟨w2, ew2⟩ := go_6 W t_a0
  refine wb ew2 ?_
  obtain ⟨q1, eq1, Wq1, fq1, pbZrtq1⟩ := p_Reader_begin hn W (a2 := a4) t_a0 t_a3 (by omega) (by omega)
  refine wb eq1 ?_
  have F1 := Zfr.tr F0 fq1 (by decide)
  obtain ⟨btq1, bgq1, bsq1, bfaq1, bslq1, h0Zrtq1, h1Zrtq1, h2Zrtq1, h3Zrtq1, h4Zrtq1, ttq1, r0Zrtq1, r1Zrtq1, r2Zrtq1, r3Zrtq1, r4Zrtq1⟩ := pbZrtq1
  obtain ⟨v3, ev3, tv3⟩ := gf_6_1 Wq1 t_a0
  refine wb ev3 ?_
  obtain ⟨w5, ew5⟩ := go_4 Wq1 tv3
  refine wb ew5 ?_
  obtain ⟨q4, eq4, Wq4, fq4, pbZkeq4⟩ := p_Tokens_split hn Wq1 (a2 := a2) tv3 t_a1 (by omega) (by omega)
  refine wb eq4 ?_
  have e2 := (Zfr.gr fq4 t_a0 (by decide)).trans h0Zrtq1
  have e3 := (Zfr.gi fq4 ttq1 (by decide)).trans h1Zrtq1
  have e4 := (Zfr.gi fq4 t_a0 (by decide)).trans h2Zrtq1
  have e5 := (Zfr.gi fq4 t_a0 (by decide)).trans h3Zrtq1
  have e6 := (Zfr.gi fq4 t_a0 (by decide)).trans h4Zrtq1
  have e7 := (Zfr.gr fq4 t_a0 (by decide)).trans ev3
  have F8 := Zfr.tr F1 fq4 (by decide)
  obtain ⟨bkkq4, bvvq4, bnq4, h0Zkeq4, h1Zkeq4, h2Zkeq4, tkkq4, tvvq4, r0Zkeq4, r1Zkeq4, k0Zkeq4⟩ := pbZkeq4
  unfold f_Reader_read_19
  have := li_0
  have L9 : ∃ b, zlp (fun a : Nat × Nat × Int32 × Zc => g_Reader_read_19 nf a.1 a.2.1 a.2.2.1 a.2.2.2) nf (a0, a3, 0, q4) = some b ∧ (fun b : (Nat × Nat × Zc) => a0 = b.1 ∧ a3 = b.2.1 ∧ Zwt zty G b.2.2 ∧ Zfr G ([(2, 0), (2, 1), (2, 2), (2, 3), (2, 4), (2, 5), (2, 8), (2, 9), (2, 10), (2, 17), (3, 1), (3, 2), (3, 3), (3, 5), (3, 8), (3, 12), (3, 14), (3, 15), (3, 18), (3, 19), (3, 20), (5, 0), (5, 1), (5, 2), (5, 4), (6, 0), (6, 5), (6, 7), (6, 8), (6, 9), (6, 10), (6, 11), (6, 12), (6, 13), (6, 14), (6, 15), (6, 16), (6, 17), (6, 18), (6, 19), (22, 0), (23, 0), (24, 0), (25, 0), (30, 0), (32, 0), (33, 0), (34, 0), (35, 0), (36, 0), (37, 0), (43, 0), (44, 0), (45, 0), (46, 0)] : List (Nat × Nat)) q4 b.2.2 ∧ Zrt G b.2.2 a0) b := by
    refine wlp (fun a : Nat × Nat × Int32 × Zc => a0 = a.1 ∧ a3 = a.2.1 ∧ Zwt zty G a.2.2.2 ∧ Zfr G ([(2, 0), (2, 1), (2, 2), (2, 3), (2, 4), (2, 5), (2, 8), (2, 9), (2, 10), (2, 17), (3, 1), (3, 2), (3, 3), (3, 5), (3, 8), (3, 12), (3, 14), (3, 15), (3, 18), (3, 19), (3, 20), (5, 0), (5, 1), (5, 2), (5, 4), (6, 0), (6, 5), (6, 7), (6, 8), (6, 9), (6, 10), (6, 11), (6, 12), (6, 13), (6, 14), (6, 15), (6, 16), (6, 17), (6, 18), (6, 19), (22, 0), (23, 0), (24, 0), (25, 0), (30, 0), (32, 0), (33, 0), (34, 0), (35, 0), (36, 0), (37, 0), (43, 0), (44, 0), (45, 0), (46, 0)] : List (Nat × Nat)) q4 a.2.2.2 ∧ 0 ≤ a.2.2.1.toInt ∧ a.2.2.1.toInt ≤ 202 ∧ Zrt G a.2.2.2 a0) (fun a => (202 - a.2.2.1.toInt).toNat) (fun b : (Nat × Nat × Zc) => a0 = b.1 ∧ a3 = b.2.1 ∧ Zwt zty G b.2.2 ∧ Zfr G ([(2, 0), (2, 1), (2, 2), (2, 3), (2, 4), (2, 5), (2, 8), (2, 9), (2, 10), (2, 17), (3, 1), (3, 2), (3, 3), (3, 5), (3, 8), (3, 12), (3, 14), (3, 15), (3, 18), (3, 19), (3, 20), (5, 0), (5, 1), (5, 2), (5, 4), (6, 0), (6, 5), (6, 7), (6, 8), (6, 9), (6, 10), (6, 11), (6, 12), (6, 13), (6, 14), (6, 15), (6, 16), (6, 17), (6, 18), (6, 19), (22, 0), (23, 0), (24, 0), (25, 0), (30, 0), (32, 0), (33, 0), (34, 0), (35, 0), (36, 0), (37, 0), (43, 0), (44, 0), (45, 0), (46, 0)] : List (Nat × Nat)) q4 b.2.2 ∧ Zrt G b.2.2 a0) ?_ ?_ ?_
    · rintro ⟨x0_10, x3_10, x5_10, c_10⟩ hI
      try dsimp only at hI ⊢
      obtain ⟨rfl, rfl, WLc_10, FLc_10, j11, j12, hBZrt_10⟩ := hI
      have e13 := (Zfr.gr FLc_10 t_a0 (by decide)).trans e2
      have e14 := (Zfr.gr FLc_10 t_a0 (by decide)).trans e7
      have e15 := (Zfr.gr FLc_10 tv3 (by decide)).trans h0Zkeq4
      have e16 := (Zfr.gr FLc_10 tv3 (by decide)).trans h1Zkeq4
      have e17 := (Zfr.gi FLc_10 tv3 (by decide)).trans h2Zkeq4
      have k18 := TkR_fr k0Zkeq4 FLc_10 tkkq4 tvvq4 (by decide) (by decide)
      obtain ⟨bt_10, bg_10, bs_10, bfa_10, bsl_10, h0Zrt_10, h1Zrt_10, h2Zrt_10, h3Zrt_10, h4Zrt_10, tt_10, r0Zrt_10, r1Zrt_10, r2Zrt_10, r3Zrt_10, r4Zrt_10⟩ := hBZrt_10
      unfold g_Reader_read_19
      refine wb e14 ?_
      refine wb e17 ?_
      refine wi (fun hq19 => ?_) (fun hq19 => ?_)
      · have hq19 := i_lt hq19
        exact lInr ⟨rfl, rfl, WLc_10, FLc_10, ⟨bt_10, bg_10, bs_10, bfa_10, bsl_10, h0Zrt_10, h1Zrt_10, h2Zrt_10, h3Zrt_10, h4Zrt_10, tt_10, by (try dsimp only); omega, by (try dsimp only); omega, by (try dsimp only); omega, by (try dsimp only); omega, by (try dsimp only); omega⟩⟩
      · have hq19 := i_nlt hq19
        refine wb h3Zrt_10 ?_
        refine wi (fun hq25 => ?_) (fun hq25 => ?_)
        · have := i_ge bfa_10
          have := i_up bfa_10
          have hq25 := i_eq hq25
          obtain ⟨c11, ec11, Wc11, fc11, gc11⟩ := pf_6_7 WLc_10 t_a0 (x := x5_10) (rgi (by omega) (by omega))
          refine wb ec11 ?_
          have e26 := (Zfr.gr fc11 t_a0 (by decide)).trans h0Zrt_10
          have e27 := (Zfr.gr fc11 t_a0 (by decide)).trans e14
          have e28 := (Zfr.gr fc11 tv3 (by decide)).trans e15
          have e29 := (Zfr.gr fc11 tv3 (by decide)).trans e16
          have e30 := (Zfr.gi fc11 tt_10 (by decide)).trans h1Zrt_10
          have e31 := (Zfr.gi fc11 t_a0 (by decide)).trans h2Zrt_10
          have e32 := (Zfr.gi fc11 t_a0 (by decide)).trans h3Zrt_10
          have e33 := (Zfr.gi fc11 t_a0 (by decide)).trans h4Zrt_10
          have k34 := TkR_fr k18 fc11 tkkq4 tvvq4 (by decide) (by decide)
          have F35 := Zfr.tr FLc_10 fc11 (by decide)
          obtain ⟨c12, ec12, Wc12, fc12, gc12⟩ := pf_6_19 Wc11 t_a0 (x := 0) (rgi (by omega) (by omega))
          refine wb ec12 ?_
          have e36 := (Zfr.gr fc12 t_a0 (by decide)).trans e26
          have e37 := (Zfr.gr fc12 t_a0 (by decide)).trans e27
          have e38 := (Zfr.gr fc12 tv3 (by decide)).trans e28
          have e39 := (Zfr.gr fc12 tv3 (by decide)).trans e29
          have e40 := (Zfr.gi fc12 tt_10 (by decide)).trans e30
          have e41 := (Zfr.gi fc12 t_a0 (by decide)).trans e31
          have e42 := (Zfr.gi fc12 t_a0 (by decide)).trans e32
          have e43 := (Zfr.gi fc12 t_a0 (by decide)).trans e33
          have e44 := (Zfr.gi fc12 t_a0 (by decide)).trans gc11
          have k45 := TkR_fr k34 fc12 tkkq4 tvvq4 (by decide) (by decide)
          have F46 := Zfr.tr F35 fc12 (by decide)
          unfold f_Reader_read_52
          have L47 : ∃ b, zlp (fun a : Nat × Nat × Int32 × Int32 × Zc => g_Reader_read_52 nf a.1 a.2.1 a.2.2.1 a.2.2.2.1 a.2.2.2.2) nf (a0, a3, x5_10, 0, c12) = some b ∧ (fun b : (Nat × Nat × Int32 × Zc) => a0 = b.1 ∧ a3 = b.2.1 ∧ x5_10 = b.2.2.1 ∧ Zwt zty G b.2.2.2 ∧ Zfr G ([(2, 0), (2, 1), (2, 2), (2, 3), (2, 4), (2, 5), (2, 8), (2, 9), (2, 10), (2, 17), (3, 1), (3, 2), (3, 3), (3, 5), (3, 8), (3, 12), (3, 14), (3, 15), (3, 18), (3, 19), (3, 20), (5, 0), (5, 1), (5, 2), (5, 4), (6, 0), (6, 5), (6, 8), (6, 9), (6, 10), (6, 11), (6, 12), (6, 13), (6, 14), (6, 15), (6, 16), (6, 17), (6, 18), (6, 19), (22, 0), (23, 0), (24, 0), (25, 0), (30, 0), (32, 0), (33, 0), (34, 0), (35, 0), (36, 0), (37, 0), (43, 0), (44, 0), (45, 0), (46, 0)] : List (Nat × Nat)) c12 b.2.2.2 ∧ Zrt G b.2.2.2 a0) b := by
            refine wlp (fun a : Nat × Nat × Int32 × Int32 × Zc => a0 = a.1 ∧ a3 = a.2.1 ∧ x5_10 = a.2.2.1 ∧ Zwt zty G a.2.2.2.2 ∧ Zfr G ([(2, 0), (2, 1), (2, 2), (2, 3), (2, 4), (2, 5), (2, 8), (2, 9), (2, 10), (2, 17), (3, 1), (3, 2), (3, 3), (3, 5), (3, 8), (3, 12), (3, 14), (3, 15), (3, 18), (3, 19), (3, 20), (5, 0), (5, 1), (5, 2), (5, 4), (6, 0), (6, 5), (6, 8), (6, 9), (6, 10), (6, 11), (6, 12), (6, 13), (6, 14), (6, 15), (6, 16), (6, 17), (6, 18), (6, 19), (22, 0), (23, 0), (24, 0), (25, 0), (30, 0), (32, 0), (33, 0), (34, 0), (35, 0), (36, 0), (37, 0), (43, 0), (44, 0), (45, 0), (46, 0)] : List (Nat × Nat)) c12 a.2.2.2.2 ∧ 0 ≤ a.2.2.2.1.toInt ∧ a.2.2.2.1.toInt ≤ 8 ∧ Zrt G a.2.2.2.2 a0) (fun a => (8 - a.2.2.2.1.toInt).toNat) (fun b : (Nat × Nat × Int32 × Zc) => a0 = b.1 ∧ a3 = b.2.1 ∧ x5_10 = b.2.2.1 ∧ Zwt zty G b.2.2.2 ∧ Zfr G ([(2, 0), (2, 1), (2, 2), (2, 3), (2, 4), (2, 5), (2, 8), (2, 9), (2, 10), (2, 17), (3, 1), (3, 2), (3, 3), (3, 5), (3, 8), (3, 12), (3, 14), (3, 15), (3, 18), (3, 19), (3, 20), (5, 0), (5, 1), (5, 2), (5, 4), (6, 0), (6, 5), (6, 8), (6, 9), (6, 10), (6, 11), (6, 12), (6, 13), (6, 14), (6, 15), (6, 16), (6, 17), (6, 18), (6, 19), (22, 0), (23, 0), (24, 0), (25, 0), (30, 0), (32, 0), (33, 0), (34, 0), (35, 0), (36, 0), (37, 0), (43, 0), (44, 0), (45, 0), (46, 0)] : List (Nat × Nat)) c12 b.2.2.2 ∧ Zrt G b.2.2.2 a0) ?_ ?_ ?_
            · rintro ⟨x0_48, x3_48, x5_48, x6_48, c_48⟩ hI
              try dsimp only at hI ⊢
              obtain ⟨rfl, rfl, rfl, WLc_48, FLc_48, j49, j50, hBZrt_48⟩ := hI
              have e51 := (Zfr.gr FLc_48 t_a0 (by decide)).trans e36
              have e52 := (Zfr.gr FLc_48 t_a0 (by decide)).trans e37
              have e53 := (Zfr.gr FLc_48 tv3 (by decide)).trans e38
              have e54 := (Zfr.gr FLc_48 tv3 (by decide)).trans e39
              have e55 := (Zfr.gi FLc_48 t_a0 (by decide)).trans e44
              have k56 := TkR_fr k45 FLc_48 tkkq4 tvvq4 (by decide) (by decide)
              obtain ⟨bt_48, bg_48, bs_48, bfa_48, bsl_48, h0Zrt_48, h1Zrt_48, h2Zrt_48, h3Zrt_48, h4Zrt_48, tt_48, r0Zrt_48, r1Zrt_48, r2Zrt_48, r3Zrt_48, r4Zrt_48⟩ := hBZrt_48
              unfold g_Reader_read_52
              refine wi (fun hq57 => ?_) (fun hq57 => ?_)
              · have := li_8
                have hq57 := i_le hq57
                exact lInr ⟨rfl, rfl, rfl, WLc_48, FLc_48, ⟨bt_48, bg_48, bs_48, bfa_48, bsl_48, h0Zrt_48, h1Zrt_48, h2Zrt_48, h3Zrt_48, h4Zrt_48, tt_48, by (try dsimp only); omega, by (try dsimp only); omega, by (try dsimp only); omega, by (try dsimp only); omega, by (try dsimp only); omega⟩⟩
              · have := li_8
                have hq57 := i_nle hq57
                obtain ⟨v14, ev14, lv14, uv14⟩ := gf_6_19 WLc_48 t_a0
                refine wb ev14 ?_
                refine wi (fun hq63 => ?_) (fun hq63 => ?_)
                · have hq63 := i_eq hq63
                  refine wb h3Zrt_48 ?_
                  refine wi (fun hq64 => ?_) (fun hq64 => ?_)
                  · have := i_ge bfa_48
                    have := i_up bfa_48
                    have hq64 := i_eq hq64
                    have := li_1
                    obtain ⟨c18, ec18, Wc18, fc18, gc18⟩ := pf_6_19 WLc_48 t_a0 (x := 1) (rgi (by omega) (by omega))
                    refine wb ec18 ?_
                    have e65 := (Zfr.gr fc18 t_a0 (by decide)).trans h0Zrt_48
                    have e66 := (Zfr.gr fc18 t_a0 (by decide)).trans e52
                    have e67 := (Zfr.gr fc18 tv3 (by decide)).trans e53
                    have e68 := (Zfr.gr fc18 tv3 (by decide)).trans e54
                    have e69 := (Zfr.gi fc18 t_a0 (by decide)).trans e55
                    have e70 := (Zfr.gi fc18 tt_48 (by decide)).trans h1Zrt_48
                    have e71 := (Zfr.gi fc18 t_a0 (by decide)).trans h2Zrt_48
                    have e72 := (Zfr.gi fc18 t_a0 (by decide)).trans h3Zrt_48
                    have e73 := (Zfr.gi fc18 t_a0 (by decide)).trans h4Zrt_48
                    have k74 := TkR_fr k56 fc18 tkkq4 tvvq4 (by decide) (by decide)
                    have F75 := Zfr.tr FLc_48 fc18 (by decide)
                    refine wb e66 ?_
                    refine wb e67 ?_
                    obtain ⟨v21, ev21, _⟩ := ga_38 Wc18 tkkq4 (i := x5_10) (by omega) (by omega)
                    refine wb ev21 ?_
                    obtain ⟨w_76, ew_76, lw_76, uw_76⟩ := ga_39 Wc18 tvvq4 (i := x5_10) (by omega) (by omega)
                    have := i_add (a := bnq4) (b := 1) (by omega) (by omega)
                    have ytk := TkR_at k74 ev21 ew_76 (by omega) (by omega)
                    obtain ⟨w23, ew23⟩ := go_6 Wc18 t_a0
                    refine wb ew23 ?_
                    obtain ⟨q22, eq22, Wq22, fq22, pbZrtq22⟩ := p_Reader_take hn Wc18 (a1 := v21) t_a0 ⟨bt_48, bg_48, bs_48, bfa_48, bsl_48, v3, x5_10, bvvq4, w_76, e65, e70, e71, e72, e73, e66, e69, e68, ew_76, tt_48, tv3, tvvq4, by (try dsimp only); omega, by (try dsimp only); omega, by (try dsimp only); omega, by (try dsimp only); omega, by (try dsimp only); omega, by (try dsimp only); omega, by (try dsimp only); omega, by (try dsimp only); omega, by (try dsimp only); omega, by (try dsimp only); omega, ytk⟩
                    refine wb eq22 ?_
                    have e86 := (Zfr.gr fq22 t_a0 (by decide)).trans e65
                    have k87 := TkR_fr k74 fq22 tkkq4 tvvq4 (by decide) (by decide)
                    have F88 := Zfr.tr F75 fq22 (by decide)
                    obtain ⟨btq22, bgq22, bsq22, bfaq22, bslq22, h0Zrtq22, h1Zrtq22, h2Zrtq22, h3Zrtq22, h4Zrtq22, ttq22, r0Zrtq22, r1Zrtq22, r2Zrtq22, r3Zrtq22, r4Zrtq22⟩ := pbZrtq22
                    have := i_add (a := x6_48) (b := 1) (by omega) (by omega)
                    exact lInl ⟨rfl, rfl, rfl, Wq22, F88, by (try dsimp only); omega, by (try dsimp only); omega, ⟨btq22, bgq22, bsq22, bfaq22, bslq22, h0Zrtq22, h1Zrtq22, h2Zrtq22, h3Zrtq22, h4Zrtq22, ttq22, by (try dsimp only); omega, by (try dsimp only); omega, by (try dsimp only); omega, by (try dsimp only); omega, by (try dsimp only); omega⟩⟩ (by (try dsimp only); omega)
                  · have := i_ge bfa_48
                    have := i_up bfa_48
                    have hq64 := i_ne hq64
                    exact lInr ⟨rfl, rfl, rfl, WLc_48, FLc_48, ⟨bt_48, bg_48, bs_48, bfa_48, bsl_48, h0Zrt_48, h1Zrt_48, h2Zrt_48, h3Zrt_48, h4Zrt_48, tt_48, by (try dsimp only); omega, by (try dsimp only); omega, by (try dsimp only); omega, by (try dsimp only); omega, by (try dsimp only); omega⟩⟩
                · have hq63 := i_ne hq63
                  exact lInr ⟨rfl, rfl, rfl, WLc_48, FLc_48, ⟨bt_48, bg_48, bs_48, bfa_48, bsl_48, h0Zrt_48, h1Zrt_48, h2Zrt_48, h3Zrt_48, h4Zrt_48, tt_48, by (try dsimp only); omega, by (try dsimp only); omega, by (try dsimp only); omega, by (try dsimp only); omega, by (try dsimp only); omega⟩⟩
            · exact ⟨rfl, rfl, rfl, Wc12, Zfr.rf, by (try dsimp only); omega, by (try dsimp only); omega, ⟨bt_10, bg_10, bs_10, bfa_10, bsl_10, e36, e40, e41, e42, e43, tt_10, by (try dsimp only); omega, by (try dsimp only); omega, by (try dsimp only); omega, by (try dsimp only); omega, by (try dsimp only); omega⟩⟩
            · (try dsimp only); omega
          obtain ⟨b, eb, hb⟩ := L47
          refine wb eb ?_
          clear eb
          obtain ⟨z0_109, z1_109, z2_109, c_109⟩ := b
          try dsimp only at hb ⊢
          obtain ⟨rfl, rfl, rfl, WXc_109, FXc_109, hXZrtc_109⟩ := hb
          have e110 := (Zfr.gr FXc_109 t_a0 (by decide)).trans e36
          have e111 := (Zfr.gr FXc_109 t_a0 (by decide)).trans e37
          have e112 := (Zfr.gr FXc_109 tv3 (by decide)).trans e38
          have k113 := TkR_fr k45 FXc_109 tkkq4 tvvq4 (by decide) (by decide)
          have F114 := Zfr.tr F46 FXc_109 (by decide)
          obtain ⟨btxc_109, bgxc_109, bsxc_109, bfaxc_109, bslxc_109, h0Zrtxc_109, h1Zrtxc_109, h2Zrtxc_109, h3Zrtxc_109, h4Zrtxc_109, ttxc_109, r0Zrtxc_109, r1Zrtxc_109, r2Zrtxc_109, r3Zrtxc_109, r4Zrtxc_109⟩ := hXZrtc_109
          unfold f_Reader_read_98
          refine wb e111 ?_
          refine wb e112 ?_
          obtain ⟨v26, ev26, _⟩ := ga_38 WXc_109 tkkq4 (i := x5_10) (by omega) (by omega)
          refine wb ev26 ?_
          obtain ⟨w28, ew28⟩ := go_6 WXc_109 t_a0
          refine wb ew28 ?_
          obtain ⟨q27, eq27, Wq27, fq27, pbZrtq27⟩ := p_Reader_checkLast hn WXc_109 (a1 := v26) t_a0 ⟨btxc_109, bgxc_109, bsxc_109, bfaxc_109, bslxc_109, h0Zrtxc_109, h1Zrtxc_109, h2Zrtxc_109, h3Zrtxc_109, h4Zrtxc_109, ttxc_109, by (try dsimp only); omega, by (try dsimp only); omega, by (try dsimp only); omega, by (try dsimp only); omega, by (try dsimp only); omega⟩
          refine wb eq27 ?_
          have e120 := (Zfr.gr fq27 t_a0 (by decide)).trans h0Zrtxc_109
          have e121 := (Zfr.gi fq27 ttxc_109 (by decide)).trans h1Zrtxc_109
          have e122 := (Zfr.gi fq27 t_a0 (by decide)).trans h2Zrtxc_109
          have e123 := (Zfr.gi fq27 t_a0 (by decide)).trans h4Zrtxc_109
          have k124 := TkR_fr k113 fq27 tkkq4 tvvq4 (by decide) (by decide)
          have F125 := Zfr.tr F114 fq27 (by decide)
          obtain ⟨btq27, bgq27, bsq27, bfaq27, bslq27, h0Zrtq27, h1Zrtq27, h2Zrtq27, h3Zrtq27, h4Zrtq27, ttq27, r0Zrtq27, r1Zrtq27, r2Zrtq27, r3Zrtq27, r4Zrtq27⟩ := pbZrtq27
          have := li_1
          have := i_add (a := x5_10) (b := 1) (by omega) (by omega)
          exact lInl ⟨rfl, rfl, Wq27, F125, by (try dsimp only); omega, by (try dsimp only); omega, ⟨btq27, bgq27, bsq27, bfaq27, bslq27, h0Zrtq27, h1Zrtq27, h2Zrtq27, h3Zrtq27, h4Zrtq27, ttq27, by (try dsimp only); omega, by (try dsimp only); omega, by (try dsimp only); omega, by (try dsimp only); omega, by (try dsimp only); omega⟩⟩ (by (try dsimp only); omega)
        · have := i_ge bfa_10
          have := i_up bfa_10
          have hq25 := i_ne hq25
          exact lInr ⟨rfl, rfl, WLc_10, FLc_10, ⟨bt_10, bg_10, bs_10, bfa_10, bsl_10, h0Zrt_10, h1Zrt_10, h2Zrt_10, h3Zrt_10, h4Zrt_10, tt_10, by (try dsimp only); omega, by (try dsimp only); omega, by (try dsimp only); omega, by (try dsimp only); omega, by (try dsimp only); omega⟩⟩
    · exact ⟨rfl, rfl, Wq4, Zfr.rf, by (try dsimp only); omega, by (try dsimp only); omega, ⟨btq1, bgq1, bsq1, bfaq1, bslq1, e2, e3, e4, e5, e6, ttq1, by (try dsimp only); omega, by (try dsimp only); omega, by (try dsimp only); omega, by (try dsimp only); omega, by (try dsimp only); omega⟩⟩
    · (try dsimp only); omega
  obtain ⟨b, eb, hb⟩ := L9
  refine wb eb ?_
  clear eb
  obtain ⟨z0_141, z1_141, c_141⟩ := b
  try dsimp only at hb ⊢
  obtain ⟨rfl, rfl, WXc_141, FXc_141, hXZrtc_141⟩ := hb
  have k142 := TkR_fr k0Zkeq4 FXc_141 tkkq4 tvvq4 (by decide) (by decide)
  have F143 := Zfr.tr F8 FXc_141 (by decide)
  obtain ⟨btxc_141, bgxc_141, bsxc_141, bfaxc_141, bslxc_141, h0Zrtxc_141, h1Zrtxc_141, h2Zrtxc_141, h3Zrtxc_141, h4Zrtxc_141, ttxc_141, r0Zrtxc_141, r1Zrtxc_141, r2Zrtxc_141, r3Zrtxc_141, r4Zrtxc_141⟩ := hXZrtc_141
  unfold f_Reader_read_118
  refine wb h3Zrtxc_141 ?_
  refine wi (fun hq144 => ?_) (fun hq144 => ?_)
  · have := i_ge bfaxc_141
    have := i_up bfaxc_141
    have hq144 := i_eq hq144
    unfold f_Reader_read_131
    have := li_1
    obtain ⟨c31, ec31, Wc31, fc31, gc31⟩ := pz_3_0 WXc_141 t_a3 (x := 1) (rgi (by omega) (by omega))
    refine wb ec31 ?_
    have e145 := (Zfr.gi fc31 t_a0 (by decide)).trans h3Zrtxc_141
    have k146 := TkR_fr k142 fc31 tkkq4 tvvq4 (by decide) (by decide)
    have F147 := Zfr.tr F143 fc31 (by decide)
    refine wb e145 ?_
    exact ⟨_, rfl, Wc31, F147⟩
  · have := i_ge bfaxc_141
    have := i_up bfaxc_141
    have hq144 := i_ne hq144
    unfold f_Reader_read_131
    obtain ⟨c31, ec31, Wc31, fc31, gc31⟩ := pz_3_0 WXc_141 t_a3 (x := 0) (rgi (by omega) (by omega))
    refine wb ec31 ?_
    have e148 := (Zfr.gi fc31 t_a0 (by decide)).trans h3Zrtxc_141
    have k149 := TkR_fr k142 fc31 tkkq4 tvvq4 (by decide) (by decide)
    have F150 := Zfr.tr F143 fc31 (by decide)
    refine wb e148 ?_
    exact ⟨_, rfl, Wc31, F150⟩

abbrev M_Collector_keysOf : List (Nat × Nat) := []
set_option maxRecDepth 100000 in
set_option maxHeartbeats 400000 in
theorem p_Collector_keysOf {nf : Nat} (hn : 8589934592 ≤ nf) {G : List Nat} {c : Zc} (W : Zwt zty G c) {a0 : Nat}  (t_a0 : G[a0]? = some 3) : ∃ q, f_Collector_keysOf nf a0 c = some q ∧ Zwt zty G q.2 ∧ Zfr G M_Collector_keysOf c q.2 := by
  have F0 : Zfr G M_Collector_keysOf c c := Zfr.rf
  unfold f_Collector_keysOf
  unfold f_Collector_keysOf_4
  have := li_0
  have L1 : ∃ b, zlp (fun a : Nat × Int32 × Int32 × Zc => g_Collector_keysOf_4 nf a.1 a.2.1 a.2.2.1 a.2.2.2) nf (a0, 0, 0, c) = some b ∧ (fun b : (Int32 × Zc) => Zwt zty G b.2 ∧ Zfr G ([] : List (Nat × Nat)) c b.2) b := by
    refine wlp (fun a : Nat × Int32 × Int32 × Zc => a0 = a.1 ∧ Zwt zty G a.2.2.2 ∧ Zfr G ([] : List (Nat × Nat)) c a.2.2.2 ∧ 0 ≤ a.2.2.1.toInt ∧ a.2.2.1.toInt ≤ 8) (fun a => (8 - a.2.2.1.toInt).toNat) (fun b : (Int32 × Zc) => Zwt zty G b.2 ∧ Zfr G ([] : List (Nat × Nat)) c b.2) ?_ ?_ ?_
    · rintro ⟨x0_2, x1_2, x2_2, c_2⟩ hI
      try dsimp only at hI ⊢
      obtain ⟨rfl, WLc_2, FLc_2, j3, j4⟩ := hI
      unfold g_Collector_keysOf_4
      obtain ⟨v1, ev1, lv1, uv1⟩ := gf_3_15 WLc_2 t_a0
      refine wb ev1 ?_
      refine wi (fun hq5 => ?_) (fun hq5 => ?_)
      · have hq5 := i_le hq5
        exact lInr ⟨WLc_2, FLc_2⟩
      · have hq5 := i_nle hq5
        obtain ⟨v3, ev3, tv3⟩ := gf_3_16 WLc_2 t_a0
        refine wb ev3 ?_
        obtain ⟨v4, ev4, _⟩ := ga_36 WLc_2 tv3 (i := x2_2) (by omega) (by omega)
        refine wb ev4 ?_
        refine wi (fun hq6 => ?_) (fun hq6 => ?_)
        · have := li_2
          have := i_ge v4
          have := i_up v4
          have hq6 := i_eq hq6
          unfold f_Collector_keysOf_28
          have := li_1
          have := i_shl7 (b := x2_2) (by omega) (by omega)
          have := i_add (a := x2_2) (b := 1) (by omega) (by omega)
          exact lInl ⟨rfl, WLc_2, FLc_2, by (try dsimp only); omega, by (try dsimp only); omega⟩ (by (try dsimp only); omega)
        · have := li_2
          have := i_ge v4
          have := i_up v4
          have hq6 := i_ne hq6
          unfold f_Collector_keysOf_28
          have := li_1
          have := i_add (a := x2_2) (b := 1) (by omega) (by omega)
          exact lInl ⟨rfl, WLc_2, FLc_2, by (try dsimp only); omega, by (try dsimp only); omega⟩ (by (try dsimp only); omega)
    · exact ⟨rfl, W, Zfr.rf, by (try dsimp only); omega, by (try dsimp only); omega⟩
    · (try dsimp only); omega
  obtain ⟨b, eb, hb⟩ := L1
  refine wb eb ?_
  clear eb
  obtain ⟨z0_7, c_7⟩ := b
  try dsimp only at hb ⊢
  obtain ⟨WXc_7, FXc_7⟩ := hb
  have F8 := Zfr.tr F0 FXc_7 (by decide)
  exact ⟨_, rfl, WXc_7, F8⟩

abbrev M_PQ_append : List (Nat × Nat) := [(14, 10), (42, 0)]
set_option maxRecDepth 100000 in
set_option maxHeartbeats 400000 in
theorem p_PQ_append {nf : Nat} (hn : 8589934592 ≤ nf) {G : List Nat} {c : Zc} (W : Zwt zty G c) {a0 : Nat} {a1 : Int32}  (t_a0 : G[a0]? = some 14) : ∃ q, f_PQ_append nf a0 a1 c = some q ∧ Zwt zty G q ∧ Zfr G M_PQ_append c q := by
  have F0 : Zfr G M_PQ_append c c := Zfr.rf
  unfold f_PQ_append
  unfold f_PQ_append_3
  have := li_24
  have L1 : ∃ b, zlp (fun a : Nat × Int32 × Int32 × Zc => g_PQ_append_3 nf a.1 a.2.1 a.2.2.1 a.2.2.2) nf (a0, a1, 24, c) = some b ∧ (fun b : (Zc) => Zwt zty G b ∧ Zfr G ([(14, 10), (42, 0)] : List (Nat × Nat)) c b) b := by
    refine wlp (fun a : Nat × Int32 × Int32 × Zc => a0 = a.1 ∧ a1 = a.2.1 ∧ Zwt zty G a.2.2.2 ∧ Zfr G ([(14, 10), (42, 0)] : List (Nat × Nat)) c a.2.2.2 ∧ (-64) ≤ a.2.2.1.toInt ∧ a.2.2.1.toInt ≤ 24) (fun a => (a.2.2.1.toInt - (-64)).toNat) (fun b : (Zc) => Zwt zty G b ∧ Zfr G ([(14, 10), (42, 0)] : List (Nat × Nat)) c b) ?_ ?_ ?_
    · rintro ⟨x0_2, x1_2, x2_2, c_2⟩ hI
      try dsimp only at hI ⊢
      obtain ⟨rfl, rfl, WLc_2, FLc_2, j3, j4⟩ := hI
      unfold g_PQ_append_3
      refine wi (fun hq5 => ?_) (fun hq5 => ?_)
      · have := li_0
        have hq5 := i_lt hq5
        exact lInr ⟨WLc_2, FLc_2⟩
      · have := li_0
        have hq5 := i_nlt hq5
        obtain ⟨v2, ev2, lv2, uv2⟩ := gf_14_10 WLc_2 t_a0
        refine wb ev2 ?_
        refine wi (fun hq6 => ?_) (fun hq6 => ?_)
        · have := li_1500
          have hq6 := i_le hq6
          exact lInr ⟨WLc_2, FLc_2⟩
        · have := li_1500
          have hq6 := i_nle hq6
          obtain ⟨v4, ev4, tv4⟩ := gf_14_0 WLc_2 t_a0
          refine wb ev4 ?_
          refine wb ev2 ?_
          obtain ⟨c6, ec6, Wc6, fc6, gc6⟩ := pa_42 WLc_2 tv4 (i := v2) (by omega) (by omega) (x := (vp_nar .byte (Int8.toInt32 (Int32.toInt8 (a1 >>> (x2_2 &&& 31)))))) (trivial)
          refine wb ec6 ?_
          have e7 := (Zfr.gi fc6 t_a0 (by decide)).trans ev2
          have F8 := Zfr.tr FLc_2 fc6 (by decide)
          refine wb e7 ?_
          have := li_1
          have := i_add (a := v2) (b := 1) (by omega) (by omega)
          obtain ⟨c8, ec8, Wc8, fc8, gc8⟩ := pf_14_10 Wc6 t_a0 (x := (v2 + 1)) (rgi (by omega) (by omega))
          refine wb ec8 ?_
          have F9 := Zfr.tr F8 fc8 (by decide)
          have := li_m8
          have hg10 := i_add (a := x2_2) (b := (-8)) (by omega) (by omega)
          generalize (x2_2 + (-8)) = y11 at hg10 ⊢
          exact lInl ⟨rfl, rfl, Wc8, F9, by (try dsimp only); omega, by (try dsimp only); omega⟩ (by (try dsimp only); omega)
    · exact ⟨rfl, rfl, W, Zfr.rf, by (try dsimp only); omega, by (try dsimp only); omega⟩
    · (try dsimp only); omega
  obtain ⟨b, eb, hb⟩ := L1
  refine wb eb ?_
  clear eb
  obtain c_12 := b
  try dsimp only at hb ⊢
  obtain ⟨WXc_12, FXc_12⟩ := hb
  have F13 := Zfr.tr F0 FXc_12 (by decide)
  unfold f_PQ_append_46
  exact ⟨_, rfl, WXc_12, F13⟩

abbrev M_PQ_feed : List (Nat × Nat) := [(14, 10), (42, 0)]
set_option maxRecDepth 100000 in
set_option maxHeartbeats 400000 in
theorem p_PQ_feed {nf : Nat} (hn : 8589934592 ≤ nf) {G : List Nat} {c : Zc} (W : Zwt zty G c) {a0 : Nat} {a1 : Int32} {a2 : Int32} {a3 : Int32} {a4 : Int32} {a5 : Int32}  (t_a0 : G[a0]? = some 14) : ∃ q, f_PQ_feed nf a0 a1 a2 a3 a4 a5 c = some q ∧ Zwt zty G q.2 ∧ Zfr G M_PQ_feed c q.2 := by
  have F0 : Zfr G M_PQ_feed c c := Zfr.rf
  unfold f_PQ_feed
  obtain ⟨v1, ev1, lv1, uv1⟩ := gf_14_10 W t_a0
  refine wb ev1 ?_
  refine wi (fun hq1 => ?_) (fun hq1 => ?_)
  · have := li_20
    have := i_add (a := v1) (b := 20) (by omega) (by omega)
    have := li_1500
    have hq1 := i_le hq1
    obtain ⟨w4, ew4⟩ := go_14 W t_a0
    refine wb ew4 ?_
    obtain ⟨q3, eq3, Wq3, fq3⟩ := p_PQ_append hn W (a1 := a1) t_a0
    refine wb eq3 ?_
    have F2 := Zfr.tr F0 fq3 (by decide)
    obtain ⟨w6, ew6⟩ := go_14 Wq3 t_a0
    refine wb ew6 ?_
    obtain ⟨q5, eq5, Wq5, fq5⟩ := p_PQ_append hn Wq3 (a1 := a2) t_a0
    refine wb eq5 ?_
    have F3 := Zfr.tr F2 fq5 (by decide)
    obtain ⟨w8, ew8⟩ := go_14 Wq5 t_a0
    refine wb ew8 ?_
    obtain ⟨q7, eq7, Wq7, fq7⟩ := p_PQ_append hn Wq5 (a1 := a3) t_a0
    refine wb eq7 ?_
    have F4 := Zfr.tr F3 fq7 (by decide)
    obtain ⟨w10, ew10⟩ := go_14 Wq7 t_a0
    refine wb ew10 ?_
    obtain ⟨q9, eq9, Wq9, fq9⟩ := p_PQ_append hn Wq7 (a1 := a4) t_a0
    refine wb eq9 ?_
    have F5 := Zfr.tr F4 fq9 (by decide)
    obtain ⟨w12, ew12⟩ := go_14 Wq9 t_a0
    refine wb ew12 ?_
    obtain ⟨q11, eq11, Wq11, fq11⟩ := p_PQ_append hn Wq9 (a1 := a5) t_a0
    refine wb eq11 ?_
    have F6 := Zfr.tr F5 fq11 (by decide)
    obtain ⟨v13, ev13, lv13, uv13⟩ := gf_14_10 Wq11 t_a0
    refine wb ev13 ?_
    exact ⟨_, rfl, Wq11, F6⟩
  · have := li_20
    have := i_add (a := v1) (b := 20) (by omega) (by omega)
    have := li_1500
    have hq1 := i_nle hq1
    have := li_m3
    exact ⟨_, rfl, W, F0⟩

abbrev M_PQ_cut : List (Nat × Nat) := [(14, 10)]
set_option maxRecDepth 100000 in
set_option maxHeartbeats 400000 in
theorem p_PQ_cut {nf : Nat} (hn : 8589934592 ≤ nf) {G : List Nat} {c : Zc} (W : Zwt zty G c) {a0 : Nat} {a1 : Int32}  (t_a0 : G[a0]? = some 14) : ∃ q, f_PQ_cut nf a0 a1 c = some q ∧ Zwt zty G q.2 ∧ Zfr G M_PQ_cut c q.2 := by
  have F0 : Zfr G M_PQ_cut c c := Zfr.rf
  unfold f_PQ_cut
  have J1 : ∃ q, f_PQ_cut_12 nf c = some q ∧ Zwt zty G q.2 ∧ Zfr G M_PQ_cut c q.2 := by
    unfold f_PQ_cut_12
    have := li_m1
    exact ⟨_, rfl, W, F0⟩
  refine wi (fun hq2 => ?_) (fun hq2 => ?_)
  · have := li_0
    have := i_ge a1
    have := i_up a1
    have hq2 := i_lt hq2
    exact J1
  · have := li_0
    have := i_ge a1
    have := i_up a1
    have hq2 := i_nlt hq2
    obtain ⟨v2, ev2, lv2, uv2⟩ := gf_14_10 W t_a0
    refine wb ev2 ?_
    refine wi (fun hq3 => ?_) (fun hq3 => ?_)
    · have hq3 := i_le hq3
      refine wb ev2 ?_
      have := i_sub (a := v2) (b := a1) (by omega) (by omega)
      obtain ⟨c5, ec5, Wc5, fc5, gc5⟩ := pf_14_10 W t_a0 (x := (v2 - a1)) (rgi (by omega) (by omega))
      refine wb ec5 ?_
      have F4 := Zfr.tr F0 fc5 (by decide)
      refine wb gc5 ?_
      exact ⟨_, rfl, Wc5, F4⟩
    · have hq3 := i_nle hq3
      exact J1

end ZzT
