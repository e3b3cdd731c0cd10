section ZzT
abbrev M_Reader_takeAfterStep : List (Nat × Nat) := [(2, 8), (2, 9), (2, 10), (5, 0), (6, 8), (6, 19), (23, 0), (24, 0), (25, 0)]
set_option maxRecDepth 100000 in
set_option maxHeartbeats 400000 in
theorem p_Reader_takeAfterStep {nf : Nat} (hn : 8589934592 ≤ nf) {G : List Nat} {c : Zc} (W : Zwt zty G c) {a0 : Nat} {a1 : Int32}  (t_a0 : G[a0]? = some 6) (hb_Zrd : Zrd G c a0 a1) : ∃ q, f_Reader_takeAfterStep nf a0 a1 c = some q ∧ Zwt zty G q ∧ Zfr G M_Reader_takeAfterStep c q ∧ Zrt G q a0 := by
  have F0 : Zfr G M_Reader_takeAfterStep c c := Zfr.rf
  unfold f_Reader_takeAfterStep
  obtain ⟨bt0, bg0, bs0, bfa0, bsl0, btk0, bat_0, bvl0, bv0, h0Zrd0, h1Zrd0, h2Zrd0, h3Zrd0, h4Zrd0, h5Zrd0, h6Zrd0, h7Zrd0, h8Zrd0, tt0, ttk0, tvl0, r0Zrd0, r1Zrd0, r2Zrd0, r3Zrd0, r4Zrd0, r5Zrd0, r6Zrd0, r7Zrd0, r8Zrd0, r9Zrd0, r10Zrd0⟩ := hb_Zrd
  have J1 : ∃ q, f_Reader_takeAfterStep_174 nf a0 c = some q ∧ Zwt zty G q ∧ Zfr G M_Reader_takeAfterStep c q ∧ Zrt G q a0 := by
    unfold f_Reader_takeAfterStep_174
    obtain ⟨w8, ew8⟩ := go_6 W t_a0
    refine wb ew8 ?_
    have := li_12
    obtain ⟨q7, eq7, Wq7, fq7, pbZrtq7⟩ := p_Reader_passOn hn W (a1 := 12) t_a0 (by omega) (by omega) (by omega) ⟨bt0, bg0, bs0, bfa0, bsl0, h0Zrd0, h1Zrd0, h2Zrd0, h3Zrd0, h4Zrd0, tt0, by (try dsimp only); omega, by (try dsimp only); omega, by (try dsimp only); omega, by (try dsimp only); omega, by (try dsimp only); omega⟩
    refine wb eq7 ?_
    have e7 := (Zfr.gr fq7 t_a0 (by decide)).trans h0Zrd0
    have e8 := (Zfr.gi fq7 tt0 (by decide)).trans h1Zrd0
    have e9 := (Zfr.gi fq7 t_a0 (by decide)).trans h3Zrd0
    have e10 := (Zfr.gi fq7 t_a0 (by decide)).trans h4Zrd0
    have F11 := Zfr.tr F0 fq7 (by decide)
    obtain ⟨btq7, bgq7, bsq7, bfaq7, bslq7, h0Zrtq7, h1Zrtq7, h2Zrtq7, h3Zrtq7, h4Zrtq7, ttq7, r0Zrtq7, r1Zrtq7, r2Zrtq7, r3Zrtq7, r4Zrtq7⟩ := pbZrtq7
    unfold f_Reader_takeAfterStep_180
    exact ⟨_, rfl, Wq7, F11, ⟨btq7, bgq7, bsq7, bfaq7, bslq7, h0Zrtq7, h1Zrtq7, h2Zrtq7, h3Zrtq7, h4Zrtq7, ttq7, by (try dsimp only); omega, by (try dsimp only); omega, by (try dsimp only); omega, by (try dsimp only); omega, by (try dsimp only); omega⟩⟩
  have J17 : ∃ q, f_Reader_takeAfterStep_142 nf a0 a1 c = some q ∧ Zwt zty G q ∧ Zfr G M_Reader_takeAfterStep c q ∧ Zrt G q a0 := by
    unfold f_Reader_takeAfterStep_142
    refine wi (fun hq18 => ?_) (fun hq18 => ?_)
    · have := li_93
      have := i_ge a1
      have := i_up a1
      have hq18 := i_eq hq18
      obtain ⟨v9, ev9, tv9⟩ := gf_6_5 W t_a0
      refine wb ev9 ?_
      obtain ⟨v10, ev10, lv10, uv10⟩ := gf_2_9 W tv9
      refine wb ev10 ?_
      refine wi (fun hq19 => ?_) (fun hq19 => ?_)
      · have := li_0
        have hq19 := i_eq hq19
        refine wb ev9 ?_
        obtain ⟨w14, ew14⟩ := go_2 W tv9
        refine wb ew14 ?_
        obtain ⟨q13, eq13, Wq13, fq13⟩ := p_Way_endRows hn W  tv9
        refine wb eq13 ?_
        have e20 := (Zfr.gr fq13 t_a0 (by decide)).trans h0Zrd0
        have e21 := (Zfr.gi fq13 tt0 (by decide)).trans h1Zrd0
        have e22 := (Zfr.gi fq13 t_a0 (by decide)).trans h2Zrd0
        have e23 := (Zfr.gi fq13 t_a0 (by decide)).trans h3Zrd0
        have e24 := (Zfr.gi fq13 t_a0 (by decide)).trans h4Zrd0
        have F25 := Zfr.tr F0 fq13 (by decide)
        obtain ⟨c15, ec15, Wc15, fc15, gc15⟩ := pf_6_8 Wq13 t_a0 (x := 11) (trivial)
        refine wb ec15 ?_
        have e26 := (Zfr.gr fc15 t_a0 (by decide)).trans e20
        have e27 := (Zfr.gi fc15 tt0 (by decide)).trans e21
        have e28 := (Zfr.gi fc15 t_a0 (by decide)).trans e23
        have e29 := (Zfr.gi fc15 t_a0 (by decide)).trans e24
        have F30 := Zfr.tr F25 fc15 (by decide)
        unfold f_Reader_takeAfterStep_180
        have := li_11
        exact ⟨_, rfl, Wc15, F30, ⟨bt0, bg0, (11 : Int32), bfa0, bsl0, e26, e27, gc15, e28, e29, tt0, by (try dsimp only); omega, by (try dsimp only); omega, by (try dsimp only); omega, by (try dsimp only); omega, by (try dsimp only); omega⟩⟩
      · have := li_0
        have hq19 := i_ne hq19
        exact J1
    · have := li_93
      have := i_ge a1
      have := i_up a1
      have hq18 := i_ne hq18
      exact J1
  have J36 : ∃ q, f_Reader_takeAfterStep_75 nf a0 a1 c = some q ∧ Zwt zty G q ∧ Zfr G M_Reader_takeAfterStep c q ∧ Zrt G q a0 := by
    unfold f_Reader_takeAfterStep_75
    refine wi (fun hq37 => ?_) (fun hq37 => ?_)
    · have := li_124
      have := i_ge a1
      have := i_up a1
      have hq37 := i_eq hq37
      obtain ⟨v26, ev26, tv26⟩ := gf_6_5 W t_a0
      refine wb ev26 ?_
      obtain ⟨w28, ew28⟩ := go_2 W tv26
      refine wb ew28 ?_
      obtain ⟨q27, eq27, Wq27, fq27⟩ := p_Way_nextRow hn W  tv26
      refine wb eq27 ?_
      have e38 := (Zfr.gr fq27 t_a0 (by decide)).trans h0Zrd0
      have e39 := (Zfr.gi fq27 tt0 (by decide)).trans h1Zrd0
      have e40 := (Zfr.gi fq27 t_a0 (by decide)).trans h2Zrd0
      have e41 := (Zfr.gi fq27 t_a0 (by decide)).trans h3Zrd0
      have e42 := (Zfr.gi fq27 t_a0 (by decide)).trans h4Zrd0
      have F43 := Zfr.tr F0 fq27 (by decide)
      obtain ⟨c29, ec29, Wc29, fc29, gc29⟩ := pf_6_8 Wq27 t_a0 (x := 12) (trivial)
      refine wb ec29 ?_
      have e44 := (Zfr.gr fc29 t_a0 (by decide)).trans e38
      have e45 := (Zfr.gi fc29 tt0 (by decide)).trans e39
      have e46 := (Zfr.gi fc29 t_a0 (by decide)).trans e41
      have e47 := (Zfr.gi fc29 t_a0 (by decide)).trans e42
      have F48 := Zfr.tr F43 fc29 (by decide)
      unfold f_Reader_takeAfterStep_180
      have := li_12
      exact ⟨_, rfl, Wc29, F48, ⟨bt0, bg0, (12 : Int32), bfa0, bsl0, e44, e45, gc29, e46, e47, tt0, by (try dsimp only); omega, by (try dsimp only); omega, by (try dsimp only); omega, by (try dsimp only); omega, by (try dsimp only); omega⟩⟩
    · have := li_124
      have := i_ge a1
      have := i_up a1
      have hq37 := i_ne hq37
      refine wi (fun hq54 => ?_) (fun hq54 => ?_)
      · have := li_41
        have hq54 := i_eq hq54
        obtain ⟨v16, ev16, tv16⟩ := gf_6_5 W t_a0
        refine wb ev16 ?_
        obtain ⟨v17, ev17, lv17, uv17⟩ := gf_2_9 W tv16
        refine wb ev17 ?_
        refine wi (fun hq55 => ?_) (fun hq55 => ?_)
        · have := li_0
          have hq55 := i_le hq55
          exact J17
        · have := li_0
          have hq55 := i_nle hq55
          refine wb ev16 ?_
          obtain ⟨w21, ew21⟩ := go_2 W tv16
          refine wb ew21 ?_
          obtain ⟨q20, eq20, Wq20, fq20⟩ := p_Way_closeRows hn W  tv16
          refine wb eq20 ?_
          have e56 := (Zfr.gr fq20 t_a0 (by decide)).trans h0Zrd0
          have e57 := (Zfr.gi fq20 tt0 (by decide)).trans h1Zrd0
          have e58 := (Zfr.gi fq20 t_a0 (by decide)).trans h2Zrd0
          have e59 := (Zfr.gi fq20 t_a0 (by decide)).trans h3Zrd0
          have e60 := (Zfr.gi fq20 t_a0 (by decide)).trans h4Zrd0
          have F61 := Zfr.tr F0 fq20 (by decide)
          obtain ⟨v22, ev22, tv22⟩ := gf_6_2 Wq20 t_a0
          refine wb ev22 ?_
          obtain ⟨v23, ev23, _⟩ := gf_5_0 Wq20 tv22
          refine wb ev23 ?_
          obtain ⟨c24, ec24, Wc24, fc24, gc24⟩ := pf_5_0 Wq20 tv22 (x := (v23 - 1)) (trivial)
          refine wb ec24 ?_
          have e62 := (Zfr.gr fc24 t_a0 (by decide)).trans e56
          have e63 := (Zfr.gi fc24 tt0 (by decide)).trans e57
          have e64 := (Zfr.gi fc24 t_a0 (by decide)).trans e58
          have e65 := (Zfr.gi fc24 t_a0 (by decide)).trans e59
          have e66 := (Zfr.gi fc24 t_a0 (by decide)).trans e60
          have F67 := Zfr.tr F61 fc24 (by decide)
          obtain ⟨c25, ec25, Wc25, fc25, gc25⟩ := pf_6_8 Wc24 t_a0 (x := 14) (trivial)
          refine wb ec25 ?_
          have e68 := (Zfr.gr fc25 t_a0 (by decide)).trans e62
          have e69 := (Zfr.gi fc25 tt0 (by decide)).trans e63
          have e70 := (Zfr.gi fc25 t_a0 (by decide)).trans e65
          have e71 := (Zfr.gi fc25 t_a0 (by decide)).trans e66
          have F72 := Zfr.tr F67 fc25 (by decide)
          unfold f_Reader_takeAfterStep_180
          have := li_14
          exact ⟨_, rfl, Wc25, F72, ⟨bt0, bg0, (14 : Int32), bfa0, bsl0, e68, e69, gc25, e70, e71, tt0, by (try dsimp only); omega, by (try dsimp only); omega, by (try dsimp only); omega, by (try dsimp only); omega, by (try dsimp only); omega⟩⟩
      · have := li_41
        have hq54 := i_ne hq54
        exact J17
  have J78 : ∃ q, f_Reader_takeAfterStep_23 nf a0 a1 1 c = some q ∧ Zwt zty G q ∧ Zfr G M_Reader_takeAfterStep c q ∧ Zrt G q a0 := by
    unfold f_Reader_takeAfterStep_23
    refine wb h2Zrd0 ?_
    refine wi (fun hq79 => ?_) (fun hq79 => ?_)
    · have := li_14
      have := i_ge bs0
      have := i_up bs0
      have hq79 := i_eq hq79
      refine wi (fun hq80 => ?_) (fun hq80 => ?_)
      · have := li_1
        have := li_0
        have hq80 := i_eq hq80
        exact J36
      · have := li_1
        have := li_0
        have hq80 := i_ne hq80
        obtain ⟨v31, ev31, tv31⟩ := gf_6_5 W t_a0
        refine wb ev31 ?_
        refine wi (fun hq81 => ?_) (fun hq81 => ?_)
        · have := li_43
          have := i_ge a1
          have := i_up a1
          have hq81 := i_eq hq81
          unfold f_Reader_takeAfterStep_52
          refine wi (fun hq82 => ?_) (fun hq82 => ?_)
          · have := li_63
            have hq82 := i_eq hq82
            exfalso
            omega
          · have := li_63
            have hq82 := i_ne hq82
            unfold f_Reader_takeAfterStep_63
            obtain ⟨w35, ew35⟩ := go_2 W tv31
            refine wb ew35 ?_
            obtain ⟨q34, eq34, Wq34, fq34⟩ := p_Way_repeat hn W (a1 := 0) (a2 := 1) tv31
            refine wb eq34 ?_
            have e83 := (Zfr.gr fq34 t_a0 (by decide)).trans h0Zrd0
            have e84 := (Zfr.gi fq34 tt0 (by decide)).trans h1Zrd0
            have e85 := (Zfr.gi fq34 t_a0 (by decide)).trans h2Zrd0
            have e86 := (Zfr.gi fq34 t_a0 (by decide)).trans h3Zrd0
            have e87 := (Zfr.gi fq34 t_a0 (by decide)).trans h4Zrd0
            have F88 := Zfr.tr F0 fq34 (by decide)
            obtain ⟨c36, ec36, Wc36, fc36, gc36⟩ := pf_6_8 Wq34 t_a0 (x := 15) (trivial)
            refine wb ec36 ?_
            have e89 := (Zfr.gr fc36 t_a0 (by decide)).trans e83
            have e90 := (Zfr.gi fc36 tt0 (by decide)).trans e84
            have e91 := (Zfr.gi fc36 t_a0 (by decide)).trans e86
            have e92 := (Zfr.gi fc36 t_a0 (by decide)).trans e87
            have F93 := Zfr.tr F88 fc36 (by decide)
            unfold f_Reader_takeAfterStep_180
            have := li_15
            exact ⟨_, rfl, Wc36, F93, ⟨bt0, bg0, (15 : Int32), bfa0, bsl0, e89, e90, gc36, e91, e92, tt0, by (try dsimp only); omega, by (try dsimp only); omega, by (try dsimp only); omega, by (try dsimp only); omega, by (try dsimp only); omega⟩⟩
        · have := li_43
          have := i_ge a1
          have := i_up a1
          have hq81 := i_ne hq81
          unfold f_Reader_takeAfterStep_52
          refine wi (fun hq99 => ?_) (fun hq99 => ?_)
          · have := li_63
            have hq99 := i_eq hq99
            unfold f_Reader_takeAfterStep_63
            obtain ⟨w35, ew35⟩ := go_2 W tv31
            refine wb ew35 ?_
            obtain ⟨q34, eq34, Wq34, fq34⟩ := p_Way_repeat hn W (a1 := 1) (a2 := 0) tv31
            refine wb eq34 ?_
            have e100 := (Zfr.gr fq34 t_a0 (by decide)).trans h0Zrd0
            have e101 := (Zfr.gi fq34 tt0 (by decide)).trans h1Zrd0
            have e102 := (Zfr.gi fq34 t_a0 (by decide)).trans h2Zrd0
            have e103 := (Zfr.gi fq34 t_a0 (by decide)).trans h3Zrd0
            have e104 := (Zfr.gi fq34 t_a0 (by decide)).trans h4Zrd0
            have F105 := Zfr.tr F0 fq34 (by decide)
            obtain ⟨c36, ec36, Wc36, fc36, gc36⟩ := pf_6_8 Wq34 t_a0 (x := 15) (trivial)
            refine wb ec36 ?_
            have e106 := (Zfr.gr fc36 t_a0 (by decide)).trans e100
            have e107 := (Zfr.gi fc36 tt0 (by decide)).trans e101
            have e108 := (Zfr.gi fc36 t_a0 (by decide)).trans e103
            have e109 := (Zfr.gi fc36 t_a0 (by decide)).trans e104
            have F110 := Zfr.tr F105 fc36 (by decide)
            unfold f_Reader_takeAfterStep_180
            have := li_15
            exact ⟨_, rfl, Wc36, F110, ⟨bt0, bg0, (15 : Int32), bfa0, bsl0, e106, e107, gc36, e108, e109, tt0, by (try dsimp only); omega, by (try dsimp only); omega, by (try dsimp only); omega, by (try dsimp only); omega, by (try dsimp only); omega⟩⟩
          · have := li_63
            have hq99 := i_ne hq99
            unfold f_Reader_takeAfterStep_63
            obtain ⟨w35, ew35⟩ := go_2 W tv31
            refine wb ew35 ?_
            obtain ⟨q34, eq34, Wq34, fq34⟩ := p_Way_repeat hn W (a1 := 1) (a2 := 1) tv31
            refine wb eq34 ?_
            have e116 := (Zfr.gr fq34 t_a0 (by decide)).trans h0Zrd0
            have e117 := (Zfr.gi fq34 tt0 (by decide)).trans h1Zrd0
            have e118 := (Zfr.gi fq34 t_a0 (by decide)).trans h2Zrd0
            have e119 := (Zfr.gi fq34 t_a0 (by decide)).trans h3Zrd0
            have e120 := (Zfr.gi fq34 t_a0 (by decide)).trans h4Zrd0
            have F121 := Zfr.tr F0 fq34 (by decide)
            obtain ⟨c36, ec36, Wc36, fc36, gc36⟩ := pf_6_8 Wq34 t_a0 (x := 15) (trivial)
            refine wb ec36 ?_
            have e122 := (Zfr.gr fc36 t_a0 (by decide)).trans e116
            have e123 := (Zfr.gi fc36 tt0 (by decide)).trans e117
            have e124 := (Zfr.gi fc36 t_a0 (by decide)).trans e119
            have e125 := (Zfr.gi fc36 t_a0 (by decide)).trans e120
            have F126 := Zfr.tr F121 fc36 (by decide)
            unfold f_Reader_takeAfterStep_180
            have := li_15
            exact ⟨_, rfl, Wc36, F126, ⟨bt0, bg0, (15 : Int32), bfa0, bsl0, e122, e123, gc36, e124, e125, tt0, by (try dsimp only); omega, by (try dsimp only); omega, by (try dsimp only); omega, by (try dsimp only); omega, by (try dsimp only); omega⟩⟩
    · have := li_14
      have := i_ge bs0
      have := i_up bs0
      have hq79 := i_ne hq79
      exact J36
  have J132 : ∃ q, f_Reader_takeAfterStep_18 nf a0 a1 c = some q ∧ Zwt zty G q ∧ Zfr G M_Reader_takeAfterStep c q ∧ Zrt G q a0 := by
    unfold f_Reader_takeAfterStep_18
    exact J78
  refine wi (fun hq133 => ?_) (fun hq133 => ?_)
  · have := li_42
    have := i_ge a1
    have := i_up a1
    have hq133 := i_eq hq133
    exact J132
  · have := li_42
    have := i_ge a1
    have := i_up a1
    have hq133 := i_ne hq133
    refine wi (fun hq134 => ?_) (fun hq134 => ?_)
    · have := li_43
      have hq134 := i_eq hq134
      exact J132
    · have := li_43
      have hq134 := i_ne hq134
      refine wi (fun hq135 => ?_) (fun hq135 => ?_)
      · have := li_63
        have hq135 := i_eq hq135
        exact J132
      · have := li_63
        have hq135 := i_ne hq135
        unfold f_Reader_takeAfterStep_23
        refine wb h2Zrd0 ?_
        refine wi (fun hq136 => ?_) (fun hq136 => ?_)
        · have := li_14
          have := i_ge bs0
          have := i_up bs0
          have hq136 := i_eq hq136
          refine wi (fun hq137 => ?_) (fun hq137 => ?_)
          · have := li_0
            have hq137 := i_eq hq137
            exact J36
          · have := li_0
            have hq137 := i_ne hq137
            obtain ⟨v31, ev31, tv31⟩ := gf_6_5 W t_a0
            refine wb ev31 ?_
            refine wi (fun hq138 => ?_) (fun hq138 => ?_)
            · have hq138 := i_eq hq138
              unfold f_Reader_takeAfterStep_52
              refine wi (fun hq139 => ?_) (fun hq139 => ?_)
              · have hq139 := i_eq hq139
                exfalso
                omega
              · have hq139 := i_ne hq139
                unfold f_Reader_takeAfterStep_63
                obtain ⟨w35, ew35⟩ := go_2 W tv31
                refine wb ew35 ?_
                have := li_1
                obtain ⟨q34, eq34, Wq34, fq34⟩ := p_Way_repeat hn W (a1 := 0) (a2 := 1) tv31
                refine wb eq34 ?_
                have e140 := (Zfr.gr fq34 t_a0 (by decide)).trans h0Zrd0
                have e141 := (Zfr.gi fq34 tt0 (by decide)).trans h1Zrd0
                have e142 := (Zfr.gi fq34 t_a0 (by decide)).trans h2Zrd0
                have e143 := (Zfr.gi fq34 t_a0 (by decide)).trans h3Zrd0
                have e144 := (Zfr.gi fq34 t_a0 (by decide)).trans h4Zrd0
                have F145 := Zfr.tr F0 fq34 (by decide)
                obtain ⟨c36, ec36, Wc36, fc36, gc36⟩ := pf_6_8 Wq34 t_a0 (x := 15) (trivial)
                refine wb ec36 ?_
                have e146 := (Zfr.gr fc36 t_a0 (by decide)).trans e140
                have e147 := (Zfr.gi fc36 tt0 (by decide)).trans e141
                have e148 := (Zfr.gi fc36 t_a0 (by decide)).trans e143
                have e149 := (Zfr.gi fc36 t_a0 (by decide)).trans e144
                have F150 := Zfr.tr F145 fc36 (by decide)
                unfold f_Reader_takeAfterStep_180
                have := li_15
                exact ⟨_, rfl, Wc36, F150, ⟨bt0, bg0, (15 : Int32), bfa0, bsl0, e146, e147, gc36, e148, e149, tt0, by (try dsimp only); omega, by (try dsimp only); omega, by (try dsimp only); omega, by (try dsimp only); omega, by (try dsimp only); omega⟩⟩
            · have hq138 := i_ne hq138
              unfold f_Reader_takeAfterStep_52
              refine wi (fun hq156 => ?_) (fun hq156 => ?_)
              · have hq156 := i_eq hq156
                unfold f_Reader_takeAfterStep_63
                obtain ⟨w35, ew35⟩ := go_2 W tv31
                refine wb ew35 ?_
                have := li_1
                obtain ⟨q34, eq34, Wq34, fq34⟩ := p_Way_repeat hn W (a1 := 1) (a2 := 0) tv31
                refine wb eq34 ?_
                have e157 := (Zfr.gr fq34 t_a0 (by decide)).trans h0Zrd0
                have e158 := (Zfr.gi fq34 tt0 (by decide)).trans h1Zrd0
                have e159 := (Zfr.gi fq34 t_a0 (by decide)).trans h2Zrd0
                have e160 := (Zfr.gi fq34 t_a0 (by decide)).trans h3Zrd0
                have e161 := (Zfr.gi fq34 t_a0 (by decide)).trans h4Zrd0
                have F162 := Zfr.tr F0 fq34 (by decide)
                obtain ⟨c36, ec36, Wc36, fc36, gc36⟩ := pf_6_8 Wq34 t_a0 (x := 15) (trivial)
                refine wb ec36 ?_
                have e163 := (Zfr.gr fc36 t_a0 (by decide)).trans e157
                have e164 := (Zfr.gi fc36 tt0 (by decide)).trans e158
                have e165 := (Zfr.gi fc36 t_a0 (by decide)).trans e160
                have e166 := (Zfr.gi fc36 t_a0 (by decide)).trans e161
                have F167 := Zfr.tr F162 fc36 (by decide)
                unfold f_Reader_takeAfterStep_180
                have := li_15
                exact ⟨_, rfl, Wc36, F167, ⟨bt0, bg0, (15 : Int32), bfa0, bsl0, e163, e164, gc36, e165, e166, tt0, by (try dsimp only); omega, by (try dsimp only); omega, by (try dsimp only); omega, by (try dsimp only); omega, by (try dsimp only); omega⟩⟩
              · have hq156 := i_ne hq156
                unfold f_Reader_takeAfterStep_63
                obtain ⟨w35, ew35⟩ := go_2 W tv31
                refine wb ew35 ?_
                have := li_1
                obtain ⟨q34, eq34, Wq34, fq34⟩ := p_Way_repeat hn W (a1 := 1) (a2 := 1) tv31
                refine wb eq34 ?_
                have e173 := (Zfr.gr fq34 t_a0 (by decide)).trans h0Zrd0
                have e174 := (Zfr.gi fq34 tt0 (by decide)).trans h1Zrd0
                have e175 := (Zfr.gi fq34 t_a0 (by decide)).trans h2Zrd0
                have e176 := (Zfr.gi fq34 t_a0 (by decide)).trans h3Zrd0
                have e177 := (Zfr.gi fq34 t_a0 (by decide)).trans h4Zrd0
                have F178 := Zfr.tr F0 fq34 (by decide)
                obtain ⟨c36, ec36, Wc36, fc36, gc36⟩ := pf_6_8 Wq34 t_a0 (x := 15) (trivial)
                refine wb ec36 ?_
                have e179 := (Zfr.gr fc36 t_a0 (by decide)).trans e173
                have e180 := (Zfr.gi fc36 tt0 (by decide)).trans e174
                have e181 := (Zfr.gi fc36 t_a0 (by decide)).trans e176
                have e182 := (Zfr.gi fc36 t_a0 (by decide)).trans e177
                have F183 := Zfr.tr F178 fc36 (by decide)
                unfold f_Reader_takeAfterStep_180
                have := li_15
                exact ⟨_, rfl, Wc36, F183, ⟨bt0, bg0, (15 : Int32), bfa0, bsl0, e179, e180, gc36, e181, e182, tt0, by (try dsimp only); omega, by (try dsimp only); omega, by (try dsimp only); omega, by (try dsimp only); omega, by (try dsimp only); omega⟩⟩
        · have := li_14
          have := i_ge bs0
          have := i_up bs0
          have hq136 := i_ne hq136
          exact J36

abbrev M_Reader_takeFact : List (Nat × Nat) := [(3, 8), (5, 0), (5, 2), (5, 4), (6, 8), (6, 13), (6, 18), (6, 19), (32, 0), (33, 0), (34, 0), (43, 0), (44, 0), (45, 0)]
set_option maxRecDepth 100000 in
set_option maxHeartbeats 400000 in
theorem p_Reader_takeFact {nf : Nat} (hn : 8589934592 ≤ nf) {G : List Nat} {c : Zc} (W : Zwt zty G c) {a0 : Nat} {a1 : Int32}  (t_a0 : G[a0]? = some 6) (hb_Zrd : Zrd G c a0 a1) : ∃ q, f_Reader_takeFact nf a0 a1 c = some q ∧ Zwt zty G q ∧ Zfr G M_Reader_takeFact c q ∧ Zrt G q a0 := by
  have F0 : Zfr G M_Reader_takeFact c c := Zfr.rf
  unfold f_Reader_takeFact
  obtain ⟨bt0, bg0, bs0, bfa0, bsl0, btk0, bat_0, bvl0, bv0, h0Zrd0, h1Zrd0, h2Zrd0, h3Zrd0, h4Zrd0, h5Zrd0, h6Zrd0, h7Zrd0, h8Zrd0, tt0, ttk0, tvl0, r0Zrd0, r1Zrd0, r2Zrd0, r3Zrd0, r4Zrd0, r5Zrd0, r6Zrd0, r7Zrd0, r8Zrd0, r9Zrd0, r10Zrd0⟩ := hb_Zrd
  refine wi (fun hq1 => ?_) (fun hq1 => ?_)
  · have := li_16
    have := i_ge a1
    have := i_up a1
    have hq1 := i_eq hq1
    obtain ⟨v16, ev16, tv16⟩ := gf_6_2 W t_a0
    refine wb ev16 ?_
    obtain ⟨w18, ew18⟩ := go_5 W tv16
    refine wb ew18 ?_
    have := li_3
    have := li_6
    obtain ⟨q17, eq17, Wq17, fq17⟩ := p_Operators_openPrefix hn W (a1 := 3) (a2 := 6) tv16 (okOi (by omega))
    refine wb eq17 ?_
    have e2 := (Zfr.gr fq17 t_a0 (by decide)).trans h0Zrd0
    have e3 := (Zfr.gi fq17 tt0 (by decide)).trans h1Zrd0
    have e4 := (Zfr.gi fq17 t_a0 (by decide)).trans h2Zrd0
    have e5 := (Zfr.gi fq17 t_a0 (by decide)).trans h3Zrd0
    have e6 := (Zfr.gi fq17 t_a0 (by decide)).trans h4Zrd0
    have F7 := Zfr.tr F0 fq17 (by decide)
    unfold f_Reader_takeFact_75
    exact ⟨_, rfl, Wq17, F7, ⟨bt0, bg0, bs0, bfa0, bsl0, e2, e3, e4, e5, e6, tt0, by (try dsimp only); omega, by (try dsimp only); omega, by (try dsimp only); omega, by (try dsimp only); omega, by (try dsimp only); omega⟩⟩
  · have := li_16
    have := i_ge a1
    have := i_up a1
    have hq1 := i_ne hq1
    refine wi (fun hq13 => ?_) (fun hq13 => ?_)
    · have := li_91
      have hq13 := i_eq hq13
      obtain ⟨v13, ev13, tv13⟩ := gf_6_2 W t_a0
      refine wb ev13 ?_
      obtain ⟨w15, ew15⟩ := go_5 W tv13
      refine wb ew15 ?_
      obtain ⟨q14, eq14, Wq14, fq14⟩ := p_Operators_openBracket hn W  tv13
      refine wb eq14 ?_
      have e14 := (Zfr.gr fq14 t_a0 (by decide)).trans h0Zrd0
      have e15 := (Zfr.gi fq14 tt0 (by decide)).trans h1Zrd0
      have e16 := (Zfr.gi fq14 t_a0 (by decide)).trans h2Zrd0
      have e17 := (Zfr.gi fq14 t_a0 (by decide)).trans h3Zrd0
      have e18 := (Zfr.gi fq14 t_a0 (by decide)).trans h4Zrd0
      have F19 := Zfr.tr F0 fq14 (by decide)
      unfold f_Reader_takeFact_75
      exact ⟨_, rfl, Wq14, F19, ⟨bt0, bg0, bs0, bfa0, bsl0, e14, e15, e16, e17, e18, tt0, by (try dsimp only); omega, by (try dsimp only); omega, by (try dsimp only); omega, by (try dsimp only); omega, by (try dsimp only); omega⟩⟩
    · have := li_91
      have hq13 := i_ne hq13
      refine wi (fun hq25 => ?_) (fun hq25 => ?_)
      · have := li_17
        have hq25 := i_eq hq25
        obtain ⟨v7, ev7, _⟩ := gf_6_11 W t_a0
        refine wb ev7 ?_
        obtain ⟨c8, ec8, Wc8, fc8, gc8⟩ := pf_6_13 W t_a0 (x := v7) (trivial)
        refine wb ec8 ?_
        have e26 := (Zfr.gr fc8 t_a0 (by decide)).trans h0Zrd0
        have e27 := (Zfr.gi fc8 tt0 (by decide)).trans h1Zrd0
        have e28 := (Zfr.gi fc8 t_a0 (by decide)).trans h2Zrd0
        have e29 := (Zfr.gi fc8 t_a0 (by decide)).trans h3Zrd0
        have e30 := (Zfr.gi fc8 t_a0 (by decide)).trans h4Zrd0
        have F31 := Zfr.tr F0 fc8 (by decide)
        refine wb e26 ?_
        obtain ⟨w11, ew11⟩ := go_3 Wc8 tt0
        refine wb ew11 ?_
        obtain ⟨q10, eq10, Wq10, fq10, pbZtgq10⟩ := p_Text_openGroup hn Wc8  tt0
        refine wb eq10 ?_
        have e32 := (Zfr.gr fq10 t_a0 (by decide)).trans e26
        have e33 := (Zfr.gi fq10 t_a0 (by decide)).trans e28
        have e34 := (Zfr.gi fq10 t_a0 (by decide)).trans e29
        have e35 := (Zfr.gi fq10 t_a0 (by decide)).trans e30
        have F36 := Zfr.tr F31 fq10 (by decide)
        obtain ⟨bgq10, h0Ztgq10, r0Ztgq10, r1Ztgq10⟩ := pbZtgq10
        obtain ⟨c12, ec12, Wc12, fc12, gc12⟩ := pf_6_8 Wq10 t_a0 (x := 3) (trivial)
        refine wb ec12 ?_
        have e37 := (Zfr.gr fc12 t_a0 (by decide)).trans e32
        have e38 := (Zfr.gi fc12 t_a0 (by decide)).trans e34
        have e39 := (Zfr.gi fc12 t_a0 (by decide)).trans e35
        have e40 := (Zfr.gi fc12 tt0 (by decide)).trans h0Ztgq10
        have F41 := Zfr.tr F36 fc12 (by decide)
        unfold f_Reader_takeFact_75
        have := li_3
        exact ⟨_, rfl, Wc12, F41, ⟨bt0, bgq10, (3 : Int32), bfa0, bsl0, e37, e40, gc12, e38, e39, tt0, by (try dsimp only); omega, by (try dsimp only); omega, by (try dsimp only); omega, by (try dsimp only); omega, by (try dsimp only); omega⟩⟩
      · have := li_17
        have hq25 := i_ne hq25
        obtain ⟨c4, ec4, Wc4, fc4, gc4⟩ := pf_6_18 W t_a0 (x := 0) (trivial)
        refine wb ec4 ?_
        have e47 := (Zfr.gr fc4 t_a0 (by decide)).trans h0Zrd0
        have e48 := (Zfr.gi fc4 tt0 (by decide)).trans h1Zrd0
        have e49 := (Zfr.gi fc4 t_a0 (by decide)).trans h2Zrd0
        have e50 := (Zfr.gi fc4 t_a0 (by decide)).trans h3Zrd0
        have e51 := (Zfr.gi fc4 t_a0 (by decide)).trans h4Zrd0
        have F52 := Zfr.tr F0 fc4 (by decide)
        obtain ⟨w6, ew6⟩ := go_6 Wc4 t_a0
        refine wb ew6 ?_
        have := li_18
        obtain ⟨q5, eq5, Wq5, fq5, pbZrtq5⟩ := p_Reader_passOn hn Wc4 (a1 := 18) t_a0 (by omega) (by omega) (by omega) ⟨bt0, bg0, bs0, bfa0, bsl0, e47, e48, e49, e50, e51, tt0, by (try dsimp only); omega, by (try dsimp only); omega, by (try dsimp only); omega, by (try dsimp only); omega, by (try dsimp only); omega⟩
        refine wb eq5 ?_
        have e58 := (Zfr.gr fq5 t_a0 (by decide)).trans e47
        have e59 := (Zfr.gi fq5 tt0 (by decide)).trans e48
        have e60 := (Zfr.gi fq5 t_a0 (by decide)).trans e50
        have e61 := (Zfr.gi fq5 t_a0 (by decide)).trans e51
        have F62 := Zfr.tr F52 fq5 (by decide)
        obtain ⟨btq5, bgq5, bsq5, bfaq5, bslq5, h0Zrtq5, h1Zrtq5, h2Zrtq5, h3Zrtq5, h4Zrtq5, ttq5, r0Zrtq5, r1Zrtq5, r2Zrtq5, r3Zrtq5, r4Zrtq5⟩ := pbZrtq5
        unfold f_Reader_takeFact_75
        exact ⟨_, rfl, Wq5, F62, ⟨btq5, bgq5, bsq5, bfaq5, bslq5, h0Zrtq5, h1Zrtq5, h2Zrtq5, h3Zrtq5, h4Zrtq5, ttq5, by (try dsimp only); omega, by (try dsimp only); omega, by (try dsimp only); omega, by (try dsimp only); omega, by (try dsimp only); omega⟩⟩

abbrev M_Reader_takeAfterFact : List (Nat × Nat) := [(3, 12), (3, 14), (5, 0), (5, 2), (5, 4), (6, 0), (6, 8), (6, 9), (35, 0), (43, 0), (44, 0), (45, 0)]
set_option maxRecDepth 100000 in
set_option maxHeartbeats 400000 in
theorem p_Reader_takeAfterFact {nf : Nat} (hn : 8589934592 ≤ nf) {G : List Nat} {c : Zc} (W : Zwt zty G c) {a0 : Nat} {a1 : Int32}  (t_a0 : G[a0]? = some 6) (hb_Zrd : Zrd G c a0 a1) : ∃ q, f_Reader_takeAfterFact nf a0 a1 c = some q ∧ Zwt zty G q ∧ Zfr G M_Reader_takeAfterFact c q ∧ Zrt G q a0 := by
  have F0 : Zfr G M_Reader_takeAfterFact c c := Zfr.rf
  unfold f_Reader_takeAfterFact
  obtain ⟨bt0, bg0, bs0, bfa0, bsl0, btk0, bat_0, bvl0, bv0, h0Zrd0, h1Zrd0, h2Zrd0, h3Zrd0, h4Zrd0, h5Zrd0, h6Zrd0, h7Zrd0, h8Zrd0, tt0, ttk0, tvl0, r0Zrd0, r1Zrd0, r2Zrd0, r3Zrd0, r4Zrd0, r5Zrd0, r6Zrd0, r7Zrd0, r8Zrd0, r9Zrd0, r10Zrd0⟩ := hb_Zrd
  have J1 : ∃ q, f_Reader_takeAfterFact_113 nf a0 c = some q ∧ Zwt zty G q ∧ Zfr G M_Reader_takeAfterFact c q ∧ Zrt G q a0 := by
    unfold f_Reader_takeAfterFact_113
    obtain ⟨w6, ew6⟩ := go_6 W t_a0
    refine wb ew6 ?_
    have := li_2
    obtain ⟨q5, eq5, Wq5, fq5, pbZrfq5⟩ := p_Reader_fail hn W (a1 := 2) t_a0 (by omega) (by omega) ⟨bt0, bg0, bs0, bfa0, bsl0, h0Zrd0, h1Zrd0, h2Zrd0, h3Zrd0, h4Zrd0, tt0, by (try dsimp only); omega, by (try dsimp only); omega, by (try dsimp only); omega, by (try dsimp only); omega⟩
    refine wb eq5 ?_
    have e7 := (Zfr.gr fq5 t_a0 (by decide)).trans h0Zrd0
    have e8 := (Zfr.gi fq5 tt0 (by decide)).trans h1Zrd0
    have e9 := (Zfr.gi fq5 t_a0 (by decide)).trans h2Zrd0
    have e10 := (Zfr.gi fq5 t_a0 (by decide)).trans h4Zrd0
    have F11 := Zfr.tr F0 fq5 (by decide)
    obtain ⟨btq5, bgq5, bsq5, bfaq5, bslq5, h0Zrfq5, h1Zrfq5, h2Zrfq5, h3Zrfq5, h4Zrfq5, ttq5, r0Zrfq5, r1Zrfq5, r2Zrfq5, r3Zrfq5, r4Zrfq5⟩ := pbZrfq5
    unfold f_Reader_takeAfterFact_118
    exact ⟨_, rfl, Wq5, F11, ⟨btq5, bgq5, bsq5, bfaq5, bslq5, h0Zrfq5, h1Zrfq5, h2Zrfq5, h3Zrfq5, h4Zrfq5, ttq5, by (try dsimp only); omega, by (try dsimp only); omega, by (try dsimp only); omega, by (try dsimp only); omega, by (try dsimp only); omega⟩⟩
  have J17 : ∃ q, f_Reader_takeAfterFact_82 nf a0 a1 c = some q ∧ Zwt zty G q ∧ Zfr G M_Reader_takeAfterFact c q ∧ Zrt G q a0 := by
    unfold f_Reader_takeAfterFact_82
    refine wi (fun hq18 => ?_) (fun hq18 => ?_)
    · have := li_12
      have := i_ge a1
      have := i_up a1
      have hq18 := i_eq hq18
      obtain ⟨v7, ev7, tv7⟩ := gf_6_2 W t_a0
      refine wb ev7 ?_
      obtain ⟨v8, ev8, _⟩ := gf_5_2 W tv7
      refine wb ev8 ?_
      refine wi (fun hq19 => ?_) (fun hq19 => ?_)
      · have := li_0
        have := i_ge v8
        have := i_up v8
        have hq19 := i_eq hq19
        refine wb ev7 ?_
        obtain ⟨w12, ew12⟩ := go_5 W tv7
        refine wb ew12 ?_
        have := li_1
        obtain ⟨q11, eq11, Wq11, fq11⟩ := p_Operators_unwind hn W (a1 := 1) tv7
        refine wb eq11 ?_
        have e20 := (Zfr.gr fq11 t_a0 (by decide)).trans h0Zrd0
        have e21 := (Zfr.gi fq11 tt0 (by decide)).trans h1Zrd0
        have e22 := (Zfr.gi fq11 t_a0 (by decide)).trans h2Zrd0
        have e23 := (Zfr.gi fq11 t_a0 (by decide)).trans h3Zrd0
        have e24 := (Zfr.gi fq11 t_a0 (by decide)).trans h4Zrd0
        have F25 := Zfr.tr F0 fq11 (by decide)
        obtain ⟨w14, ew14⟩ := go_6 Wq11 t_a0
        refine wb ew14 ?_
        obtain ⟨q13, eq13, Wq13, fq13, pbZrtq13⟩ := p_Reader_openGive hn Wq11  t_a0 ⟨bt0, bg0, bs0, bfa0, bsl0, e20, e21, e22, e23, e24, tt0, by (try dsimp only); omega, by (try dsimp only); omega, by (try dsimp only); omega, by (try dsimp only); omega, by (try dsimp only); omega⟩
        refine wb eq13 ?_
        have e31 := (Zfr.gr fq13 t_a0 (by decide)).trans e20
        have e32 := (Zfr.gi fq13 tt0 (by decide)).trans e21
        have e33 := (Zfr.gi fq13 t_a0 (by decide)).trans e23
        have e34 := (Zfr.gi fq13 t_a0 (by decide)).trans e24
        have F35 := Zfr.tr F25 fq13 (by decide)
        obtain ⟨btq13, bgq13, bsq13, bfaq13, bslq13, h0Zrtq13, h1Zrtq13, h2Zrtq13, h3Zrtq13, h4Zrtq13, ttq13, r0Zrtq13, r1Zrtq13, r2Zrtq13, r3Zrtq13, r4Zrtq13⟩ := pbZrtq13
        unfold f_Reader_takeAfterFact_118
        exact ⟨_, rfl, Wq13, F35, ⟨btq13, bgq13, bsq13, bfaq13, bslq13, h0Zrtq13, h1Zrtq13, h2Zrtq13, h3Zrtq13, h4Zrtq13, ttq13, by (try dsimp only); omega, by (try dsimp only); omega, by (try dsimp only); omega, by (try dsimp only); omega, by (try dsimp only); omega⟩⟩
      · have := li_0
        have := i_ge v8
        have := i_up v8
        have hq19 := i_ne hq19
        exact J1
    · have := li_12
      have := i_ge a1
      have := i_up a1
      have hq18 := i_ne hq18
      exact J1
  refine wi (fun hq41 => ?_) (fun hq41 => ?_)
  · have := li_14
    have := i_ge a1
    have := i_up a1
    have hq41 := i_eq hq41
    obtain ⟨v26, ev26, tv26⟩ := gf_6_2 W t_a0
    refine wb ev26 ?_
    obtain ⟨w28, ew28⟩ := go_5 W tv26
    refine wb ew28 ?_
    have := li_2
    have := li_7
    obtain ⟨q27, eq27, Wq27, fq27⟩ := p_Operators_between hn W (a1 := 2) (a2 := 7) tv26 (okOi (by omega))
    refine wb eq27 ?_
    have e42 := (Zfr.gr fq27 t_a0 (by decide)).trans h0Zrd0
    have e43 := (Zfr.gi fq27 tt0 (by decide)).trans h1Zrd0
    have e44 := (Zfr.gi fq27 t_a0 (by decide)).trans h2Zrd0
    have e45 := (Zfr.gi fq27 t_a0 (by decide)).trans h3Zrd0
    have e46 := (Zfr.gi fq27 t_a0 (by decide)).trans h4Zrd0
    have F47 := Zfr.tr F0 fq27 (by decide)
    obtain ⟨c29, ec29, Wc29, fc29, gc29⟩ := pf_6_8 Wq27 t_a0 (x := 16) (trivial)
    refine wb ec29 ?_
    have e48 := (Zfr.gr fc29 t_a0 (by decide)).trans e42
    have e49 := (Zfr.gi fc29 tt0 (by decide)).trans e43
    have e50 := (Zfr.gi fc29 t_a0 (by decide)).trans e45
    have e51 := (Zfr.gi fc29 t_a0 (by decide)).trans e46
    have F52 := Zfr.tr F47 fc29 (by decide)
    unfold f_Reader_takeAfterFact_118
    have := li_16
    exact ⟨_, rfl, Wc29, F52, ⟨bt0, bg0, (16 : Int32), bfa0, bsl0, e48, e49, gc29, e50, e51, tt0, by (try dsimp only); omega, by (try dsimp only); omega, by (try dsimp only); omega, by (try dsimp only); omega, by (try dsimp only); omega⟩⟩
  · have := li_14
    have := i_ge a1
    have := i_up a1
    have hq41 := i_ne hq41
    refine wi (fun hq58 => ?_) (fun hq58 => ?_)
    · have := li_15
      have hq58 := i_eq hq58
      obtain ⟨v22, ev22, tv22⟩ := gf_6_2 W t_a0
      refine wb ev22 ?_
      obtain ⟨w24, ew24⟩ := go_5 W tv22
      refine wb ew24 ?_
      have := li_1
      have := li_8
      obtain ⟨q23, eq23, Wq23, fq23⟩ := p_Operators_between hn W (a1 := 1) (a2 := 8) tv22 (okOi (by omega))
      refine wb eq23 ?_
      have e59 := (Zfr.gr fq23 t_a0 (by decide)).trans h0Zrd0
      have e60 := (Zfr.gi fq23 tt0 (by decide)).trans h1Zrd0
      have e61 := (Zfr.gi fq23 t_a0 (by decide)).trans h2Zrd0
      have e62 := (Zfr.gi fq23 t_a0 (by decide)).trans h3Zrd0
      have e63 := (Zfr.gi fq23 t_a0 (by decide)).trans h4Zrd0
      have F64 := Zfr.tr F0 fq23 (by decide)
      obtain ⟨c25, ec25, Wc25, fc25, gc25⟩ := pf_6_8 Wq23 t_a0 (x := 16) (trivial)
      refine wb ec25 ?_
      have e65 := (Zfr.gr fc25 t_a0 (by decide)).trans e59
      have e66 := (Zfr.gi fc25 tt0 (by decide)).trans e60
      have e67 := (Zfr.gi fc25 t_a0 (by decide)).trans e62
      have e68 := (Zfr.gi fc25 t_a0 (by decide)).trans e63
      have F69 := Zfr.tr F64 fc25 (by decide)
      unfold f_Reader_takeAfterFact_118
      have := li_16
      exact ⟨_, rfl, Wc25, F69, ⟨bt0, bg0, (16 : Int32), bfa0, bsl0, e65, e66, gc25, e67, e68, tt0, by (try dsimp only); omega, by (try dsimp only); omega, by (try dsimp only); omega, by (try dsimp only); omega, by (try dsimp only); omega⟩⟩
    · have := li_15
      have hq58 := i_ne hq58
      refine wi (fun hq75 => ?_) (fun hq75 => ?_)
      · have := li_93
        have hq75 := i_eq hq75
        obtain ⟨v15, ev15, tv15⟩ := gf_6_2 W t_a0
        refine wb ev15 ?_
        obtain ⟨v16, ev16, _⟩ := gf_5_2 W tv15
        refine wb ev16 ?_
        refine wi (fun hq76 => ?_) (fun hq76 => ?_)
        · have := li_0
          have := i_ge v16
          have := i_up v16
          have hq76 := i_le hq76
          exact J17
        · have := li_0
          have := i_ge v16
          have := i_up v16
          have hq76 := i_nle hq76
          refine wb ev15 ?_
          obtain ⟨w20, ew20⟩ := go_5 W tv15
          refine wb ew20 ?_
          obtain ⟨q19, eq19, Wq19, fq19⟩ := p_Operators_closeBracket hn W  tv15
          refine wb eq19 ?_
          have e77 := (Zfr.gr fq19 t_a0 (by decide)).trans h0Zrd0
          have e78 := (Zfr.gi fq19 tt0 (by decide)).trans h1Zrd0
          have e79 := (Zfr.gi fq19 t_a0 (by decide)).trans h2Zrd0
          have e80 := (Zfr.gi fq19 t_a0 (by decide)).trans h3Zrd0
          have e81 := (Zfr.gi fq19 t_a0 (by decide)).trans h4Zrd0
          have F82 := Zfr.tr F0 fq19 (by decide)
          obtain ⟨c21, ec21, Wc21, fc21, gc21⟩ := pf_6_8 Wq19 t_a0 (x := 17) (trivial)
          refine wb ec21 ?_
          have e83 := (Zfr.gr fc21 t_a0 (by decide)).trans e77
          have e84 := (Zfr.gi fc21 tt0 (by decide)).trans e78
          have e85 := (Zfr.gi fc21 t_a0 (by decide)).trans e80
          have e86 := (Zfr.gi fc21 t_a0 (by decide)).trans e81
          have F87 := Zfr.tr F82 fc21 (by decide)
          unfold f_Reader_takeAfterFact_118
          have := li_17
          exact ⟨_, rfl, Wc21, F87, ⟨bt0, bg0, (17 : Int32), bfa0, bsl0, e83, e84, gc21, e85, e86, tt0, by (try dsimp only); omega, by (try dsimp only); omega, by (try dsimp only); omega, by (try dsimp only); omega, by (try dsimp only); omega⟩⟩
      · have := li_93
        have hq75 := i_ne hq75
        exact J17

abbrev M_Reader_findVariable : List (Nat × Nat) := [(3, 12), (6, 0), (6, 9), (6, 16), (35, 0)]
set_option maxRecDepth 100000 in
set_option maxHeartbeats 400000 in
theorem p_Reader_findVariable {nf : Nat} (hn : 8589934592 ≤ nf) {G : List Nat} {c : Zc} (W : Zwt zty G c) {a0 : Nat} {a1 : Int32}  (t_a0 : G[a0]? = some 6) (pl_a1 : 0 ≤ a1.toInt) (pu_a1 : a1.toInt ≤ 65) (hb_Zrt : Zrt G c a0) : ∃ q, f_Reader_findVariable nf a0 a1 c = some q ∧ Zwt zty G q ∧ Zfr G M_Reader_findVariable c q ∧ Zrs G q a0 := by
  have F0 : Zfr G M_Reader_findVariable c c := Zfr.rf
  unfold f_Reader_findVariable
  obtain ⟨bt0, bg0, bs0, bfa0, bsl0, h0Zrt0, h1Zrt0, h2Zrt0, h3Zrt0, h4Zrt0, tt0, r0Zrt0, r1Zrt0, r2Zrt0, r3Zrt0, r4Zrt0⟩ := hb_Zrt
  obtain ⟨v1, ev1, tv1⟩ := gf_6_3 W t_a0
  refine wb ev1 ?_
  obtain ⟨v2, ev2, lv2, uv2⟩ := ga_46 W tv1 (i := a1) (by omega) (by omega)
  refine wb ev2 ?_
  obtain ⟨c3, ec3, Wc3, fc3, gc3⟩ := pf_6_16 W t_a0 (x := v2) (rgi (by omega) (by omega))
  refine wb ec3 ?_
  have e1 := (Zfr.gr fc3 t_a0 (by decide)).trans h0Zrt0
  have e2 := (Zfr.gi fc3 tt0 (by decide)).trans h1Zrt0
  have e3 := (Zfr.gi fc3 t_a0 (by decide)).trans h2Zrt0
  have e4 := (Zfr.gi fc3 t_a0 (by decide)).trans h3Zrt0
  have F5 := Zfr.tr F0 fc3 (by decide)
  refine wb gc3 ?_
  refine wi (fun hq6 => ?_) (fun hq6 => ?_)
  · have := li_m1
    have hq6 := i_eq hq6
    unfold f_Reader_findVariable_32
    refine wb gc3 ?_
    refine wi (fun hq7 => ?_) (fun hq7 => ?_)
    · have hq7 := i_eq hq7
      obtain ⟨v10, ev10, lv10, uv10⟩ := gf_6_10 Wc3 t_a0
      refine wb ev10 ?_
      refine wi (fun hq8 => ?_) (fun hq8 => ?_)
      · have := li_8
        have hq8 := i_lt hq8
        unfold f_Reader_findVariable_54
        unfold f_Reader_findVariable_55
        obtain ⟨w9, ew9⟩ := go_6 Wc3 t_a0
        refine wb ew9 ?_
        have := li_5
        obtain ⟨q8, eq8, Wq8, fq8, pbZrfq8⟩ := p_Reader_fail hn Wc3 (a1 := 5) t_a0 (by omega) (by omega) ⟨bt0, bg0, bs0, bfa0, v2, e1, e2, e3, e4, gc3, tt0, by (try dsimp only); omega, by (try dsimp only); omega, by (try dsimp only); omega, by (try dsimp only); omega⟩
        refine wb eq8 ?_
        have e14 := (Zfr.gr fq8 t_a0 (by decide)).trans e1
        have e15 := (Zfr.gi fq8 tt0 (by decide)).trans e2
        have e16 := (Zfr.gi fq8 t_a0 (by decide)).trans e3
        have e17 := (Zfr.gi fq8 t_a0 (by decide)).trans gc3
        have F18 := Zfr.tr F5 fq8 (by decide)
        obtain ⟨btq8, bgq8, bsq8, bfaq8, bslq8, h0Zrfq8, h1Zrfq8, h2Zrfq8, h3Zrfq8, h4Zrfq8, ttq8, r0Zrfq8, r1Zrfq8, r2Zrfq8, r3Zrfq8, r4Zrfq8⟩ := pbZrfq8
        unfold f_Reader_findVariable_111
        exact ⟨_, rfl, Wq8, F18, ⟨btq8, bgq8, bsq8, bfaq8, bslq8, h0Zrfq8, h1Zrfq8, h2Zrfq8, h3Zrfq8, h4Zrfq8, ttq8, by (try dsimp only); omega, by (try dsimp only); omega, by (try dsimp only); omega, by (try dsimp only); omega, by (try dsimp only); omega⟩⟩
      · have := li_8
        have hq8 := i_nlt hq8
        unfold f_Reader_findVariable_55
        obtain ⟨w9, ew9⟩ := go_6 Wc3 t_a0
        refine wb ew9 ?_
        have := li_3
        obtain ⟨q8, eq8, Wq8, fq8, pbZrfq8⟩ := p_Reader_fail hn Wc3 (a1 := 3) t_a0 (by omega) (by omega) ⟨bt0, bg0, bs0, bfa0, v2, e1, e2, e3, e4, gc3, tt0, by (try dsimp only); omega, by (try dsimp only); omega, by (try dsimp only); omega, by (try dsimp only); omega⟩
        refine wb eq8 ?_
        have e29 := (Zfr.gr fq8 t_a0 (by decide)).trans e1
        have e30 := (Zfr.gi fq8 tt0 (by decide)).trans e2
        have e31 := (Zfr.gi fq8 t_a0 (by decide)).trans e3
        have e32 := (Zfr.gi fq8 t_a0 (by decide)).trans gc3
        have F33 := Zfr.tr F5 fq8 (by decide)
        obtain ⟨btq8, bgq8, bsq8, bfaq8, bslq8, h0Zrfq8, h1Zrfq8, h2Zrfq8, h3Zrfq8, h4Zrfq8, ttq8, r0Zrfq8, r1Zrfq8, r2Zrfq8, r3Zrfq8, r4Zrfq8⟩ := pbZrfq8
        unfold f_Reader_findVariable_111
        exact ⟨_, rfl, Wq8, F33, ⟨btq8, bgq8, bsq8, bfaq8, bslq8, h0Zrfq8, h1Zrfq8, h2Zrfq8, h3Zrfq8, h4Zrfq8, ttq8, by (try dsimp only); omega, by (try dsimp only); omega, by (try dsimp only); omega, by (try dsimp only); omega, by (try dsimp only); omega⟩⟩
    · have hq7 := i_ne hq7
      exfalso
      omega
  · have := li_m1
    have hq6 := i_ne hq6
    obtain ⟨v12, ev12, _⟩ := gf_6_11 Wc3 t_a0
    refine wb ev12 ?_
    refine wb gc3 ?_
    refine wi (fun hq39 => ?_) (fun hq39 => ?_)
    · have := li_1
      have := i_andr (a := (v12 >>> (v2 &&& 31))) (b := 1) (by omega)
      have := li_0
      have hq39 := i_eq hq39
      unfold f_Reader_findVariable_32
      refine wb gc3 ?_
      refine wi (fun hq40 => ?_) (fun hq40 => ?_)
      · have hq40 := i_eq hq40
        exfalso
        omega
      · have hq40 := i_ne hq40
        unfold f_Reader_findVariable_54
        unfold f_Reader_findVariable_55
        obtain ⟨w9, ew9⟩ := go_6 Wc3 t_a0
        refine wb ew9 ?_
        have := li_5
        obtain ⟨q8, eq8, Wq8, fq8, pbZrfq8⟩ := p_Reader_fail hn Wc3 (a1 := 5) t_a0 (by omega) (by omega) ⟨bt0, bg0, bs0, bfa0, v2, e1, e2, e3, e4, gc3, tt0, by (try dsimp only); omega, by (try dsimp only); omega, by (try dsimp only); omega, by (try dsimp only); omega⟩
        refine wb eq8 ?_
        have e46 := (Zfr.gr fq8 t_a0 (by decide)).trans e1
        have e47 := (Zfr.gi fq8 tt0 (by decide)).trans e2
        have e48 := (Zfr.gi fq8 t_a0 (by decide)).trans e3
        have e49 := (Zfr.gi fq8 t_a0 (by decide)).trans gc3
        have F50 := Zfr.tr F5 fq8 (by decide)
        obtain ⟨btq8, bgq8, bsq8, bfaq8, bslq8, h0Zrfq8, h1Zrfq8, h2Zrfq8, h3Zrfq8, h4Zrfq8, ttq8, r0Zrfq8, r1Zrfq8, r2Zrfq8, r3Zrfq8, r4Zrfq8⟩ := pbZrfq8
        unfold f_Reader_findVariable_111
        exact ⟨_, rfl, Wq8, F50, ⟨btq8, bgq8, bsq8, bfaq8, bslq8, h0Zrfq8, h1Zrfq8, h2Zrfq8, h3Zrfq8, h4Zrfq8, ttq8, by (try dsimp only); omega, by (try dsimp only); omega, by (try dsimp only); omega, by (try dsimp only); omega, by (try dsimp only); omega⟩⟩
    · have := li_1
      have := i_andr (a := (v12 >>> (v2 &&& 31))) (b := 1) (by omega)
      have := li_0
      have hq39 := i_ne hq39
      obtain ⟨v15, ev15, _⟩ := gf_6_12 Wc3 t_a0
      refine wb ev15 ?_
      refine wb gc3 ?_
      refine wi (fun hq56 => ?_) (fun hq56 => ?_)
      · have := i_andr (a := (v15 >>> (v2 &&& 31))) (b := 1) (by omega)
        have hq56 := i_eq hq56
        refine wb e1 ?_
        refine wb gc3 ?_
        obtain ⟨w21, ew21⟩ := go_3 Wc3 tt0
        refine wb ew21 ?_
        have := li_32
        have := i_mulr (a := v2) (b := 32) (n := 32) li_32 (by omega) (by omega)
        have := i_add (a := 1) (b := (v2 * 32)) (by omega) (by omega)
        obtain ⟨q20, eq20, Wq20, fq20⟩ := p_Text_emit hn Wc3 (a1 := 1) (a2 := v2) tt0 (okCi (by omega) (by omega) (by omega) (by omega) (by omega) (by omega))
        refine wb eq20 ?_
        have e57 := (Zfr.gr fq20 t_a0 (by decide)).trans e1
        have e58 := (Zfr.gi fq20 tt0 (by decide)).trans e2
        have e59 := (Zfr.gi fq20 t_a0 (by decide)).trans e3
        have e60 := (Zfr.gi fq20 t_a0 (by decide)).trans e4
        have e61 := (Zfr.gi fq20 t_a0 (by decide)).trans gc3
        have F62 := Zfr.tr F5 fq20 (by decide)
        unfold f_Reader_findVariable_111
        exact ⟨_, rfl, Wq20, F62, ⟨bt0, bg0, bs0, bfa0, v2, e57, e58, e59, e60, e61, tt0, by (try dsimp only); omega, by (try dsimp only); omega, by (try dsimp only); omega, by (try dsimp only); omega, by (try dsimp only); omega⟩⟩
      · have := i_andr (a := (v15 >>> (v2 &&& 31))) (b := 1) (by omega)
        have hq56 := i_ne hq56
        refine wb e1 ?_
        refine wb e1 ?_
        refine wb gc3 ?_
        obtain ⟨w26, ew26⟩ := go_3 Wc3 tt0
        refine wb ew26 ?_
        obtain ⟨q25, eq25, Wq25, fq25, pl0q25, pu0q25⟩ := p_Text_wayOfLeast hn Wc3 (a1 := v2) tt0
        refine wb eq25 ?_
        have e68 := (Zfr.gr fq25 t_a0 (by decide)).trans e1
        have e69 := (Zfr.gi fq25 tt0 (by decide)).trans e2
        have e70 := (Zfr.gi fq25 t_a0 (by decide)).trans e3
        have e71 := (Zfr.gi fq25 t_a0 (by decide)).trans e4
        have e72 := (Zfr.gi fq25 t_a0 (by decide)).trans gc3
        have F73 := Zfr.tr F5 fq25 (by decide)
        obtain ⟨w28, ew28⟩ := go_3 Wq25 tt0
        refine wb ew28 ?_
        have := li_3
        have := li_32
        have := i_mulr (a := q25.1) (b := 32) (n := 32) li_32 (by omega) (by omega)
        have := i_add (a := 3) (b := (q25.1 * 32)) (by omega) (by omega)
        obtain ⟨q27, eq27, Wq27, fq27⟩ := p_Text_emit hn Wq25 (a1 := 3) (a2 := q25.1) tt0 (okCi (by omega) (by omega) (by omega) (by omega) (by omega) (by omega))
        refine wb eq27 ?_
        have e74 := (Zfr.gr fq27 t_a0 (by decide)).trans e68
        have e75 := (Zfr.gi fq27 tt0 (by decide)).trans e69
        have e76 := (Zfr.gi fq27 t_a0 (by decide)).trans e70
        have e77 := (Zfr.gi fq27 t_a0 (by decide)).trans e71
        have e78 := (Zfr.gi fq27 t_a0 (by decide)).trans e72
        have F79 := Zfr.tr F73 fq27 (by decide)
        unfold f_Reader_findVariable_111
        exact ⟨_, rfl, Wq27, F79, ⟨bt0, bg0, bs0, bfa0, v2, e74, e75, e76, e77, e78, tt0, by (try dsimp only); omega, by (try dsimp only); omega, by (try dsimp only); omega, by (try dsimp only); omega, by (try dsimp only); omega⟩⟩

abbrev M_Reader_takeUnit : List (Nat × Nat) := [(3, 12), (5, 0), (5, 1), (5, 4), (6, 0), (6, 8), (6, 9), (6, 16), (35, 0), (43, 0), (44, 0), (45, 0)]
set_option maxRecDepth 100000 in
set_option maxHeartbeats 400000 in
theorem p_Reader_takeUnit {nf : Nat} (hn : 8589934592 ≤ nf) {G : List Nat} {c : Zc} (W : Zwt zty G c) {a0 : Nat} {a1 : Int32}  (t_a0 : G[a0]? = some 6) (hb_Zrd : Zrd G c a0 a1) : ∃ q, f_Reader_takeUnit nf a0 a1 c = some q ∧ Zwt zty G q ∧ Zfr G M_Reader_takeUnit c q ∧ Zrt G q a0 := by
  have F0 : Zfr G M_Reader_takeUnit c c := Zfr.rf
  unfold f_Reader_takeUnit
  obtain ⟨bt0, bg0, bs0, bfa0, bsl0, btk0, bat_0, bvl0, bv0, h0Zrd0, h1Zrd0, h2Zrd0, h3Zrd0, h4Zrd0, h5Zrd0, h6Zrd0, h7Zrd0, h8Zrd0, tt0, ttk0, tvl0, r0Zrd0, r1Zrd0, r2Zrd0, r3Zrd0, r4Zrd0, r5Zrd0, r6Zrd0, r7Zrd0, r8Zrd0, r9Zrd0, r10Zrd0⟩ := hb_Zrd
  refine wi (fun hq1 => ?_) (fun hq1 => ?_)
  · have := li_45
    have := i_ge a1
    have := i_up a1
    have hq1 := i_eq hq1
    obtain ⟨v29, ev29, tv29⟩ := gf_6_2 W t_a0
    refine wb ev29 ?_
    obtain ⟨w31, ew31⟩ := go_5 W tv29
    refine wb ew31 ?_
    have := li_7
    have := li_5
    obtain ⟨q30, eq30, Wq30, fq30⟩ := p_Operators_openPrefix hn W (a1 := 7) (a2 := 5) tv29 (okOi (by omega))
    refine wb eq30 ?_
    have e2 := (Zfr.gr fq30 t_a0 (by decide)).trans h0Zrd0
    have e3 := (Zfr.gi fq30 tt0 (by decide)).trans h1Zrd0
    have e4 := (Zfr.gi fq30 t_a0 (by decide)).trans h2Zrd0
    have e5 := (Zfr.gi fq30 t_a0 (by decide)).trans h3Zrd0
    have e6 := (Zfr.gi fq30 t_a0 (by decide)).trans h4Zrd0
    have F7 := Zfr.tr F0 fq30 (by decide)
    obtain ⟨c32, ec32, Wc32, fc32, gc32⟩ := pf_6_8 Wq30 t_a0 (x := 18) (trivial)
    refine wb ec32 ?_
    have e8 := (Zfr.gr fc32 t_a0 (by decide)).trans e2
    have e9 := (Zfr.gi fc32 tt0 (by decide)).trans e3
    have e10 := (Zfr.gi fc32 t_a0 (by decide)).trans e5
    have e11 := (Zfr.gi fc32 t_a0 (by decide)).trans e6
    have F12 := Zfr.tr F7 fc32 (by decide)
    unfold f_Reader_takeUnit_127
    have := li_18
    exact ⟨_, rfl, Wc32, F12, ⟨bt0, bg0, (18 : Int32), bfa0, bsl0, e8, e9, gc32, e10, e11, tt0, by (try dsimp only); omega, by (try dsimp only); omega, by (try dsimp only); omega, by (try dsimp only); omega, by (try dsimp only); omega⟩⟩
  · have := li_45
    have := i_ge a1
    have := i_up a1
    have hq1 := i_ne hq1
    refine wi (fun hq18 => ?_) (fun hq18 => ?_)
    · have := li_40
      have hq18 := i_eq hq18
      obtain ⟨v25, ev25, tv25⟩ := gf_6_2 W t_a0
      refine wb ev25 ?_
      obtain ⟨w27, ew27⟩ := go_5 W tv25
      refine wb ew27 ?_
      obtain ⟨q26, eq26, Wq26, fq26⟩ := p_Operators_openParen hn W  tv25
      refine wb eq26 ?_
      have e19 := (Zfr.gr fq26 t_a0 (by decide)).trans h0Zrd0
      have e20 := (Zfr.gi fq26 tt0 (by decide)).trans h1Zrd0
      have e21 := (Zfr.gi fq26 t_a0 (by decide)).trans h2Zrd0
      have e22 := (Zfr.gi fq26 t_a0 (by decide)).trans h3Zrd0
      have e23 := (Zfr.gi fq26 t_a0 (by decide)).trans h4Zrd0
      have F24 := Zfr.tr F0 fq26 (by decide)
      obtain ⟨c28, ec28, Wc28, fc28, gc28⟩ := pf_6_8 Wq26 t_a0 (x := 18) (trivial)
      refine wb ec28 ?_
      have e25 := (Zfr.gr fc28 t_a0 (by decide)).trans e19
      have e26 := (Zfr.gi fc28 tt0 (by decide)).trans e20
      have e27 := (Zfr.gi fc28 t_a0 (by decide)).trans e22
      have e28 := (Zfr.gi fc28 t_a0 (by decide)).trans e23
      have F29 := Zfr.tr F24 fc28 (by decide)
      unfold f_Reader_takeUnit_127
      have := li_18
      exact ⟨_, rfl, Wc28, F29, ⟨bt0, bg0, (18 : Int32), bfa0, bsl0, e25, e26, gc28, e27, e28, tt0, by (try dsimp only); omega, by (try dsimp only); omega, by (try dsimp only); omega, by (try dsimp only); omega, by (try dsimp only); omega⟩⟩
    · have := li_40
      have hq18 := i_ne hq18
      refine wi (fun hq35 => ?_) (fun hq35 => ?_)
      · have := li_6
        have hq35 := i_eq hq35
        have := tkr6 r10Zrd0 (by omega)
        refine wb h0Zrd0 ?_
        refine wb h5Zrd0 ?_
        refine wb h7Zrd0 ?_
        refine wb h6Zrd0 ?_
        refine wb h8Zrd0 ?_
        obtain ⟨w20, ew20⟩ := go_3 W tt0
        refine wb ew20 ?_
        have := li_0
        have := li_32
        have := i_mulr (a := bv0) (b := 32) (n := 32) li_32 (by omega) (by omega)
        have := i_add (a := 0) (b := (bv0 * 32)) (by omega) (by omega)
        obtain ⟨q19, eq19, Wq19, fq19⟩ := p_Text_emit hn W (a1 := 0) (a2 := bv0) tt0 (okCi (by omega) (by omega) (by omega) (by omega) (by omega) (by omega))
        refine wb eq19 ?_
        have e36 := (Zfr.gr fq19 t_a0 (by decide)).trans h0Zrd0
        have e37 := (Zfr.gi fq19 tt0 (by decide)).trans h1Zrd0
        have e38 := (Zfr.gi fq19 t_a0 (by decide)).trans h2Zrd0
        have e39 := (Zfr.gi fq19 t_a0 (by decide)).trans h3Zrd0
        have e40 := (Zfr.gi fq19 t_a0 (by decide)).trans h4Zrd0
        have F41 := Zfr.tr F0 fq19 (by decide)
        obtain ⟨v21, ev21, tv21⟩ := gf_6_2 Wq19 t_a0
        refine wb ev21 ?_
        obtain ⟨w23, ew23⟩ := go_5 Wq19 tv21
        refine wb ew23 ?_
        have := li_7
        obtain ⟨q22, eq22, Wq22, fq22⟩ := p_Operators_unwind hn Wq19 (a1 := 7) tv21
        refine wb eq22 ?_
        have e42 := (Zfr.gr fq22 t_a0 (by decide)).trans e36
        have e43 := (Zfr.gi fq22 tt0 (by decide)).trans e37
        have e44 := (Zfr.gi fq22 t_a0 (by decide)).trans e38
        have e45 := (Zfr.gi fq22 t_a0 (by decide)).trans e39
        have e46 := (Zfr.gi fq22 t_a0 (by decide)).trans e40
        have F47 := Zfr.tr F41 fq22 (by decide)
        obtain ⟨c24, ec24, Wc24, fc24, gc24⟩ := pf_6_8 Wq22 t_a0 (x := 21) (trivial)
        refine wb ec24 ?_
        have e48 := (Zfr.gr fc24 t_a0 (by decide)).trans e42
        have e49 := (Zfr.gi fc24 tt0 (by decide)).trans e43
        have e50 := (Zfr.gi fc24 t_a0 (by decide)).trans e45
        have e51 := (Zfr.gi fc24 t_a0 (by decide)).trans e46
        have F52 := Zfr.tr F47 fc24 (by decide)
        unfold f_Reader_takeUnit_127
        have := li_21
        exact ⟨_, rfl, Wc24, F52, ⟨bt0, bg0, (21 : Int32), bfa0, bsl0, e48, e49, gc24, e50, e51, tt0, by (try dsimp only); omega, by (try dsimp only); omega, by (try dsimp only); omega, by (try dsimp only); omega, by (try dsimp only); omega⟩⟩
      · have := li_6
        have hq35 := i_ne hq35
        refine wi (fun hq58 => ?_) (fun hq58 => ?_)
        · have := li_2
          have hq58 := i_eq hq58
          have := tkr2 r10Zrd0 (by omega)
          refine wb h5Zrd0 ?_
          refine wb h7Zrd0 ?_
          refine wb h6Zrd0 ?_
          refine wb h8Zrd0 ?_
          obtain ⟨w12, ew12⟩ := go_6 W t_a0
          refine wb ew12 ?_
          obtain ⟨q11, eq11, Wq11, fq11, pbZrsq11⟩ := p_Reader_findVariable hn W (a1 := bv0) t_a0 (by omega) (by omega) ⟨bt0, bg0, bs0, bfa0, bsl0, h0Zrd0, h1Zrd0, h2Zrd0, h3Zrd0, h4Zrd0, tt0, by (try dsimp only); omega, by (try dsimp only); omega, by (try dsimp only); omega, by (try dsimp only); omega, by (try dsimp only); omega⟩
          refine wb eq11 ?_
          have e64 := (Zfr.gr fq11 t_a0 (by decide)).trans h0Zrd0
          have e65 := (Zfr.gi fq11 tt0 (by decide)).trans h1Zrd0
          have e66 := (Zfr.gi fq11 t_a0 (by decide)).trans h2Zrd0
          have F67 := Zfr.tr F0 fq11 (by decide)
          obtain ⟨btq11, bgq11, bsq11, bfaq11, bslq11, h0Zrsq11, h1Zrsq11, h2Zrsq11, h3Zrsq11, h4Zrsq11, ttq11, r0Zrsq11, r1Zrsq11, r2Zrsq11, r3Zrsq11, r4Zrsq11⟩ := pbZrsq11
          obtain ⟨c13, ec13, Wc13, fc13, gc13⟩ := pf_6_8 Wq11 t_a0 (x := 19) (trivial)
          refine wb ec13 ?_
          have e68 := (Zfr.gr fc13 t_a0 (by decide)).trans h0Zrsq11
          have e69 := (Zfr.gi fc13 tt0 (by decide)).trans e65
          have e70 := (Zfr.gi fc13 ttq11 (by decide)).trans h1Zrsq11
          have e71 := (Zfr.gi fc13 t_a0 (by decide)).trans h3Zrsq11
          have e72 := (Zfr.gi fc13 t_a0 (by decide)).trans h4Zrsq11
          have F73 := Zfr.tr F67 fc13 (by decide)
          unfold f_Reader_takeUnit_127
          have := li_19
          exact ⟨_, rfl, Wc13, F73, ⟨btq11, bgq11, (19 : Int32), bfaq11, bslq11, e68, e70, gc13, e71, e72, ttq11, by (try dsimp only); omega, by (try dsimp only); omega, by (try dsimp only); omega, by (try dsimp only); omega, by (try dsimp only); omega⟩⟩
        · have := li_2
          have hq58 := i_ne hq58
          obtain ⟨w6, ew6⟩ := go_6 W t_a0
          refine wb ew6 ?_
          obtain ⟨q5, eq5, Wq5, fq5, pbZrfq5⟩ := p_Reader_fail hn W (a1 := 2) t_a0 (by omega) (by omega) ⟨bt0, bg0, bs0, bfa0, bsl0, h0Zrd0, h1Zrd0, h2Zrd0, h3Zrd0, h4Zrd0, tt0, by (try dsimp only); omega, by (try dsimp only); omega, by (try dsimp only); omega, by (try dsimp only); omega⟩
          refine wb eq5 ?_
          have e84 := (Zfr.gr fq5 t_a0 (by decide)).trans h0Zrd0
          have e85 := (Zfr.gi fq5 tt0 (by decide)).trans h1Zrd0
          have e86 := (Zfr.gi fq5 t_a0 (by decide)).trans h2Zrd0
          have e87 := (Zfr.gi fq5 t_a0 (by decide)).trans h4Zrd0
          have F88 := Zfr.tr F0 fq5 (by decide)
          obtain ⟨btq5, bgq5, bsq5, bfaq5, bslq5, h0Zrfq5, h1Zrfq5, h2Zrfq5, h3Zrfq5, h4Zrfq5, ttq5, r0Zrfq5, r1Zrfq5, r2Zrfq5, r3Zrfq5, r4Zrfq5⟩ := pbZrfq5
          unfold f_Reader_takeUnit_127
          exact ⟨_, rfl, Wq5, F88, ⟨btq5, bgq5, bsq5, bfaq5, bslq5, h0Zrfq5, h1Zrfq5, h2Zrfq5, h3Zrfq5, h4Zrfq5, ttq5, by (try dsimp only); omega, by (try dsimp only); omega, by (try dsimp only); omega, by (try dsimp only); omega, by (try dsimp only); omega⟩⟩

abbrev M_Reader_takeAfterVariable : List (Nat × Nat) := [(3, 12), (5, 0), (5, 4), (6, 0), (6, 8), (6, 9), (6, 19), (35, 0)]
set_option maxRecDepth 100000 in
set_option maxHeartbeats 400000 in
theorem p_Reader_takeAfterVariable {nf : Nat} (hn : 8589934592 ≤ nf) {G : List Nat} {c : Zc} (W : Zwt zty G c) {a0 : Nat} {a1 : Int32}  (t_a0 : G[a0]? = some 6) (hb_Zr9 : Zr9 G c a0 a1) : ∃ q, f_Reader_takeAfterVariable nf a0 a1 c = some q ∧ Zwt zty G q ∧ Zfr G M_Reader_takeAfterVariable c q ∧ Zrt G q a0 := by
  have F0 : Zfr G M_Reader_takeAfterVariable c c := Zfr.rf
  unfold f_Reader_takeAfterVariable
  obtain ⟨bt0, bg0, bs0, bfa0, bsl0, btk0, bat_0, bvl0, bv0, h0Zr90, h1Zr90, h2Zr90, h3Zr90, h4Zr90, h5Zr90, h6Zr90, h7Zr90, h8Zr90, tt0, ttk0, tvl0, r0Zr90, r1Zr90, r2Zr90, r3Zr90, r4Zr90, r5Zr90, r6Zr90, r7Zr90, r8Zr90, r9Zr90, r10Zr90, r11Zr90, r12Zr90⟩ := hb_Zr9
  have J1 : ∃ q, f_Reader_takeAfterVariable_24 nf a0 a1 c = some q ∧ Zwt zty G q ∧ Zfr G M_Reader_takeAfterVariable c q ∧ Zrt G q a0 := by
    unfold f_Reader_takeAfterVariable_24
    refine wb h2Zr90 ?_
    refine wi (fun hq2 => ?_) (fun hq2 => ?_)
    · have := li_19
      have := i_ge bs0
      have := i_up bs0
      have hq2 := i_eq hq2
      obtain ⟨v27, ev27, tv27⟩ := gf_6_2 W t_a0
      refine wb ev27 ?_
      obtain ⟨w29, ew29⟩ := go_5 W tv27
      refine wb ew29 ?_
      have := li_7
      obtain ⟨q28, eq28, Wq28, fq28⟩ := p_Operators_unwind hn W (a1 := 7) tv27
      refine wb eq28 ?_
      have e3 := (Zfr.gr fq28 t_a0 (by decide)).trans h0Zr90
      have e4 := (Zfr.gi fq28 tt0 (by decide)).trans h1Zr90
      have e5 := (Zfr.gi fq28 t_a0 (by decide)).trans h2Zr90
      have e6 := (Zfr.gi fq28 t_a0 (by decide)).trans h3Zr90
      have e7 := (Zfr.gi fq28 t_a0 (by decide)).trans h4Zr90
      have F8 := Zfr.tr F0 fq28 (by decide)
      obtain ⟨w31, ew31⟩ := go_6 Wq28 t_a0
      refine wb ew31 ?_
      have := li_21
      obtain ⟨q30, eq30, Wq30, fq30, pbZrtq30⟩ := p_Reader_passOn hn Wq28 (a1 := 21) t_a0 (by omega) (by omega) (by omega) ⟨bt0, bg0, bs0, bfa0, bsl0, e3, e4, e5, e6, e7, tt0, by (try dsimp only); omega, by (try dsimp only); omega, by (try dsimp only); omega, by (try dsimp only); omega, by (try dsimp only); omega⟩
      refine wb eq30 ?_
      have e14 := (Zfr.gr fq30 t_a0 (by decide)).trans e3
      have e15 := (Zfr.gi fq30 tt0 (by decide)).trans e4
      have e16 := (Zfr.gi fq30 t_a0 (by decide)).trans e6
      have e17 := (Zfr.gi fq30 t_a0 (by decide)).trans e7
      have F18 := Zfr.tr F8 fq30 (by decide)
      obtain ⟨btq30, bgq30, bsq30, bfaq30, bslq30, h0Zrtq30, h1Zrtq30, h2Zrtq30, h3Zrtq30, h4Zrtq30, ttq30, r0Zrtq30, r1Zrtq30, r2Zrtq30, r3Zrtq30, r4Zrtq30⟩ := pbZrtq30
      unfold f_Reader_takeAfterVariable_137
      exact ⟨_, rfl, Wq30, F18, ⟨btq30, bgq30, bsq30, bfaq30, bslq30, h0Zrtq30, h1Zrtq30, h2Zrtq30, h3Zrtq30, h4Zrtq30, ttq30, by (try dsimp only); omega, by (try dsimp only); omega, by (try dsimp only); omega, by (try dsimp only); omega, by (try dsimp only); omega⟩⟩
    · have := li_19
      have := i_ge bs0
      have := i_up bs0
      have hq2 := i_ne hq2
      refine wi (fun hq24 => ?_) (fun hq24 => ?_)
      · have := li_4
        have := i_ge a1
        have := i_up a1
        have hq24 := i_eq hq24
        have := tkr4 r10Zr90 (by omega)
        obtain ⟨v6, ev6, _⟩ := gf_6_12 W t_a0
        refine wb ev6 ?_
        refine wb h4Zr90 ?_
        refine wi (fun hq25 => ?_) (fun hq25 => ?_)
        · have := li_1
          have := i_andr (a := (v6 >>> (bsl0 &&& 31))) (b := 1) (by omega)
          have := li_0
          have hq25 := i_eq hq25
          refine wb h0Zr90 ?_
          refine wb h0Zr90 ?_
          obtain ⟨v11, ev11, lv11, uv11⟩ := gf_3_12 W tt0
          refine wb ev11 ?_
          refine wb h4Zr90 ?_
          refine wb h5Zr90 ?_
          refine wb h7Zr90 ?_
          refine wb h6Zr90 ?_
          refine wb h8Zr90 ?_
          obtain ⟨w18, ew18⟩ := go_3 W tt0
          refine wb ew18 ?_
          have := i_sub (a := v11) (b := 1) (by omega) (by omega)
          have := li_2
          have := i_mulr (a := bsl0) (b := 4) (n := 4) li_4 (by omega) (by omega)
          have := i_add (a := (bsl0 * 4)) (b := bv0) (by omega) (by omega)
          have := li_32
          have := i_mulr (a := ((bsl0 * 4) + bv0)) (b := 32) (n := 32) li_32 (by omega) (by omega)
          have := i_add (a := 2) (b := (((bsl0 * 4) + bv0) * 32)) (by omega) (by omega)
          obtain ⟨q17, eq17, Wq17, fq17⟩ := p_Text_change hn W (a1 := (v11 - 1)) (a2 := 2) (a3 := ((bsl0 * 4) + bv0)) tt0 (okCi (by omega) (by omega) (by omega) (by omega) (by omega) (by omega))
          refine wb eq17 ?_
          have e26 := (Zfr.gr fq17 t_a0 (by decide)).trans h0Zr90
          have e27 := (Zfr.gi fq17 tt0 (by decide)).trans h1Zr90
          have e28 := (Zfr.gi fq17 t_a0 (by decide)).trans h2Zr90
          have e29 := (Zfr.gi fq17 t_a0 (by decide)).trans h3Zr90
          have e30 := (Zfr.gi fq17 t_a0 (by decide)).trans h4Zr90
          have F31 := Zfr.tr F0 fq17 (by decide)
          obtain ⟨v19, ev19, tv19⟩ := gf_6_2 Wq17 t_a0
          refine wb ev19 ?_
          obtain ⟨w21, ew21⟩ := go_5 Wq17 tv19
          refine wb ew21 ?_
          have := li_7
          obtain ⟨q20, eq20, Wq20, fq20⟩ := p_Operators_unwind hn Wq17 (a1 := 7) tv19
          refine wb eq20 ?_
          have e32 := (Zfr.gr fq20 t_a0 (by decide)).trans e26
          have e33 := (Zfr.gi fq20 tt0 (by decide)).trans e27
          have e34 := (Zfr.gi fq20 t_a0 (by decide)).trans e28
          have e35 := (Zfr.gi fq20 t_a0 (by decide)).trans e29
          have e36 := (Zfr.gi fq20 t_a0 (by decide)).trans e30
          have F37 := Zfr.tr F31 fq20 (by decide)
          obtain ⟨c22, ec22, Wc22, fc22, gc22⟩ := pf_6_8 Wq20 t_a0 (x := 21) (trivial)
          refine wb ec22 ?_
          have e38 := (Zfr.gr fc22 t_a0 (by decide)).trans e32
          have e39 := (Zfr.gi fc22 tt0 (by decide)).trans e33
          have e40 := (Zfr.gi fc22 t_a0 (by decide)).trans e35
          have e41 := (Zfr.gi fc22 t_a0 (by decide)).trans e36
          have F42 := Zfr.tr F37 fc22 (by decide)
          unfold f_Reader_takeAfterVariable_137
          have := li_21
          exact ⟨_, rfl, Wc22, F42, ⟨bt0, bg0, (21 : Int32), bfa0, bsl0, e38, e39, gc22, e40, e41, tt0, by (try dsimp only); omega, by (try dsimp only); omega, by (try dsimp only); omega, by (try dsimp only); omega, by (try dsimp only); omega⟩⟩
        · have := li_1
          have := i_andr (a := (v6 >>> (bsl0 &&& 31))) (b := 1) (by omega)
          have := li_0
          have hq25 := i_ne hq25
          obtain ⟨w24, ew24⟩ := go_6 W t_a0
          refine wb ew24 ?_
          have := li_5
          obtain ⟨q23, eq23, Wq23, fq23, pbZrfq23⟩ := p_Reader_fail hn W (a1 := 5) t_a0 (by omega) (by omega) ⟨bt0, bg0, bs0, bfa0, bsl0, h0Zr90, h1Zr90, h2Zr90, h3Zr90, h4Zr90, tt0, by (try dsimp only); omega, by (try dsimp only); omega, by (try dsimp only); omega, by (try dsimp only); omega⟩
          refine wb eq23 ?_
          have e53 := (Zfr.gr fq23 t_a0 (by decide)).trans h0Zr90
          have e54 := (Zfr.gi fq23 tt0 (by decide)).trans h1Zr90
          have e55 := (Zfr.gi fq23 t_a0 (by decide)).trans h2Zr90
          have e56 := (Zfr.gi fq23 t_a0 (by decide)).trans h4Zr90
          have F57 := Zfr.tr F0 fq23 (by decide)
          obtain ⟨btq23, bgq23, bsq23, bfaq23, bslq23, h0Zrfq23, h1Zrfq23, h2Zrfq23, h3Zrfq23, h4Zrfq23, ttq23, r0Zrfq23, r1Zrfq23, r2Zrfq23, r3Zrfq23, r4Zrfq23⟩ := pbZrfq23
          unfold f_Reader_takeAfterVariable_137
          exact ⟨_, rfl, Wq23, F57, ⟨btq23, bgq23, bsq23, bfaq23, bslq23, h0Zrfq23, h1Zrfq23, h2Zrfq23, h3Zrfq23, h4Zrfq23, ttq23, by (try dsimp only); omega, by (try dsimp only); omega, by (try dsimp only); omega, by (try dsimp only); omega, by (try dsimp only); omega⟩⟩
      · have := li_4
        have := i_ge a1
        have := i_up a1
        have hq24 := i_ne hq24
        obtain ⟨w26, ew26⟩ := go_6 W t_a0
        refine wb ew26 ?_
        have := li_2
        obtain ⟨q25, eq25, Wq25, fq25, pbZrfq25⟩ := p_Reader_fail hn W (a1 := 2) t_a0 (by omega) (by omega) ⟨bt0, bg0, bs0, bfa0, bsl0, h0Zr90, h1Zr90, h2Zr90, h3Zr90, h4Zr90, tt0, by (try dsimp only); omega, by (try dsimp only); omega, by (try dsimp only); omega, by (try dsimp only); omega⟩
        refine wb eq25 ?_
        have e68 := (Zfr.gr fq25 t_a0 (by decide)).trans h0Zr90
        have e69 := (Zfr.gi fq25 tt0 (by decide)).trans h1Zr90
        have e70 := (Zfr.gi fq25 t_a0 (by decide)).trans h2Zr90
        have e71 := (Zfr.gi fq25 t_a0 (by decide)).trans h4Zr90
        have F72 := Zfr.tr F0 fq25 (by decide)
        obtain ⟨btq25, bgq25, bsq25, bfaq25, bslq25, h0Zrfq25, h1Zrfq25, h2Zrfq25, h3Zrfq25, h4Zrfq25, ttq25, r0Zrfq25, r1Zrfq25, r2Zrfq25, r3Zrfq25, r4Zrfq25⟩ := pbZrfq25
        unfold f_Reader_takeAfterVariable_137
        exact ⟨_, rfl, Wq25, F72, ⟨btq25, bgq25, bsq25, bfaq25, bslq25, h0Zrfq25, h1Zrfq25, h2Zrfq25, h3Zrfq25, h4Zrfq25, ttq25, by (try dsimp only); omega, by (try dsimp only); omega, by (try dsimp only); omega, by (try dsimp only); omega, by (try dsimp only); omega⟩⟩
  refine wb h2Zr90 ?_
  refine wi (fun hq78 => ?_) (fun hq78 => ?_)
  · have := li_19
    have := i_ge bs0
    have := i_up bs0
    have hq78 := i_eq hq78
    refine wi (fun hq79 => ?_) (fun hq79 => ?_)
    · have := li_46
      have := i_ge a1
      have := i_up a1
      have hq79 := i_eq hq79
      obtain ⟨c33, ec33, Wc33, fc33, gc33⟩ := pf_6_8 W t_a0 (x := 20) (trivial)
      refine wb ec33 ?_
      have e80 := (Zfr.gr fc33 t_a0 (by decide)).trans h0Zr90
      have e81 := (Zfr.gi fc33 tt0 (by decide)).trans h1Zr90
      have e82 := (Zfr.gi fc33 t_a0 (by decide)).trans h3Zr90
      have e83 := (Zfr.gi fc33 t_a0 (by decide)).trans h4Zr90
      have F84 := Zfr.tr F0 fc33 (by decide)
      unfold f_Reader_takeAfterVariable_137
      have := li_20
      exact ⟨_, rfl, Wc33, F84, ⟨bt0, bg0, (20 : Int32), bfa0, bsl0, e80, e81, gc33, e82, e83, tt0, by (try dsimp only); omega, by (try dsimp only); omega, by (try dsimp only); omega, by (try dsimp only); omega, by (try dsimp only); omega⟩⟩
    · have := li_46
      have := i_ge a1
      have := i_up a1
      have hq79 := i_ne hq79
      exact J1
  · have := li_19
    have := i_ge bs0
    have := i_up bs0
    have hq78 := i_ne hq78
    exact J1

end ZzT
