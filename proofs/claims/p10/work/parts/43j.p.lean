section ZzT
abbrev M_Tokens_split : List (Nat × Nat) := [(4, 3), (4, 4), (4, 5), (38, 0), (39, 0), (40, 0)]
set_option maxRecDepth 100000 in
set_option maxHeartbeats 400000 in
theorem p_Tokens_split {nf : Nat} (hn : 8589934592 ≤ nf) {G : List Nat} {c : Zc} (W : Zwt zty G c) {a0 : Nat} {a1 : Nat} {a2 : Int32}  (t_a0 : G[a0]? = some 4) (t_a1 : G[a1]? = some 42) (pl_a2 : 0 ≤ a2.toInt) (pu_a2 : a2.toInt ≤ 1500) : ∃ q, f_Tokens_split nf a0 a1 a2 c = some q ∧ Zwt zty G q ∧ Zfr G M_Tokens_split c q ∧ Zke G q a0 := by
  have F0 : Zfr G M_Tokens_split c c := Zfr.rf
  unfold f_Tokens_split
  obtain ⟨c1, ec1, Wc1, fc1, gc1⟩ := pf_4_4 W t_a0 t_a1 (by decide)
  refine wb ec1 ?_
  have F1 := Zfr.tr F0 fc1 (by decide)
  refine wb (gl_42 Wc1 t_a1) ?_
  have := li_1500
  obtain ⟨q3, eq3, Wq3, fq3, po0q3⟩ := p_Math_min_0 hn Wc1 (a0 := a2) (a1 := 1500) 
  refine wb eq3 ?_
  have e2 := (Zfr.gr fq3 t_a0 (by decide)).trans gc1
  have F3 := Zfr.tr F1 fq3 (by decide)
  obtain ⟨c4, ec4, Wc4, fc4, gc4⟩ := pf_4_5 Wq3 t_a0 (x := q3.1) (rgi (by omega) (by omega))
  refine wb ec4 ?_
  have e4 := (Zfr.gr fc4 t_a0 (by decide)).trans e2
  have F5 := Zfr.tr F3 fc4 (by decide)
  have := li_0
  obtain ⟨c5, ec5, Wc5, fc5, gc5⟩ := pf_4_3 Wc4 t_a0 (x := 0) (rgi (by omega) (by omega))
  refine wb ec5 ?_
  have e6 := (Zfr.gr fc5 t_a0 (by decide)).trans e4
  have e7 := (Zfr.gi fc5 t_a0 (by decide)).trans gc4
  have F8 := Zfr.tr F5 fc5 (by decide)
  obtain ⟨w_9, ew_9, tw_9⟩ := gf_4_0 Wc5 t_a0
  obtain ⟨w_10, ew_10, tw_10⟩ := gf_4_1 Wc5 t_a0
  have k11 : TkR c5 w_9 w_10 0 := TkR_zero
  unfold f_Tokens_split_25
  have L12 : ∃ b, zlp (fun a : Nat × Int32 × Int32 × Zc => g_Tokens_split_25 nf a.1 a.2.1 a.2.2.1 a.2.2.2) nf (a0, 0, 0, c5) = some b ∧ (fun b : (Nat × Zc) => a0 = b.1 ∧ Zwt zty G b.2 ∧ Zfr G ([(4, 3), (38, 0), (39, 0), (40, 0)] : List (Nat × Nat)) c5 b.2 ∧ Zku G b.2 a0) b := by
    refine wlp (fun a : Nat × Int32 × Int32 × Zc => a0 = a.1 ∧ Zwt zty G a.2.2.2 ∧ Zfr G ([(4, 3), (38, 0), (39, 0), (40, 0)] : List (Nat × Nat)) c5 a.2.2.2 ∧ 0 ≤ a.2.1.toInt ∧ a.2.1.toInt ≤ 1501 ∧ 0 ≤ a.2.2.1.toInt ∧ a.2.2.1.toInt ≤ 1500 ∧ Zku G a.2.2.2 a0) (fun a => (1500 - a.2.2.1.toInt).toNat) (fun b : (Nat × Zc) => a0 = b.1 ∧ Zwt zty G b.2 ∧ Zfr G ([(4, 3), (38, 0), (39, 0), (40, 0)] : List (Nat × Nat)) c5 b.2 ∧ Zku G b.2 a0) ?_ ?_ ?_
    · rintro ⟨x0_13, x3_13, x4_13, c_13⟩ hI
      try dsimp only at hI ⊢
      obtain ⟨rfl, WLc_13, FLc_13, j14, j15, j16, j17, hBZku_13⟩ := hI
      have e18 := (Zfr.gr FLc_13 t_a0 (by decide)).trans e6
      have e19 := (Zfr.gi FLc_13 t_a0 (by decide)).trans e7
      have e20 := (Zfr.gr FLc_13 t_a0 (by decide)).trans ew_9
      have e21 := (Zfr.gr FLc_13 t_a0 (by decide)).trans ew_10
      obtain ⟨btp_13, bkk_13, bvv_13, bn_13, h0Zku_13, h1Zku_13, h2Zku_13, h3Zku_13, ttp_13, tkk_13, tvv_13, r0Zku_13, r1Zku_13, k0Zku_13⟩ := hBZku_13
      unfold g_Tokens_split_25
      refine wi (fun hq22 => ?_) (fun hq22 => ?_)
      · have hq22 := i_le hq22
        exact lInr ⟨rfl, WLc_13, FLc_13, ⟨btp_13, bkk_13, bvv_13, bn_13, h0Zku_13, h1Zku_13, h2Zku_13, h3Zku_13, ttp_13, tkk_13, tvv_13, by (try dsimp only); omega, by (try dsimp only); omega, k0Zku_13⟩⟩
      · have hq22 := i_nle hq22
        refine wb e19 ?_
        refine wi (fun hq27 => ?_) (fun hq27 => ?_)
        · have hq27 := i_le hq27
          exact lInr ⟨rfl, WLc_13, FLc_13, ⟨btp_13, bkk_13, bvv_13, bn_13, h0Zku_13, h1Zku_13, h2Zku_13, h3Zku_13, ttp_13, tkk_13, tvv_13, by (try dsimp only); omega, by (try dsimp only); omega, k0Zku_13⟩⟩
        · have hq27 := i_nle hq27
          refine wb h3Zku_13 ?_
          refine wi (fun hq32 => ?_) (fun hq32 => ?_)
          · have := li_200
            have hq32 := i_lt hq32
            exact lInr ⟨rfl, WLc_13, FLc_13, ⟨btp_13, bkk_13, bvv_13, bn_13, h0Zku_13, h1Zku_13, h2Zku_13, h3Zku_13, ttp_13, tkk_13, tvv_13, by (try dsimp only); omega, by (try dsimp only); omega, k0Zku_13⟩⟩
          · have := li_200
            have hq32 := i_nlt hq32
            refine wb h0Zku_13 ?_
            obtain ⟨v12, ev12, _⟩ := ga_42 WLc_13 ttp_13 (i := x3_13) (by omega) (by omega)
            refine wb ev12 ?_
            obtain ⟨q13, eq13, Wq13, fq13, pl0q13, pu0q13⟩ := p_Tokens_isBlank hn WLc_13 (a0 := v12) 
            refine wb eq13 ?_
            have e37 := (Zfr.gr fq13 t_a0 (by decide)).trans h0Zku_13
            have e38 := (Zfr.gr fq13 t_a0 (by decide)).trans h1Zku_13
            have e39 := (Zfr.gr fq13 t_a0 (by decide)).trans h2Zku_13
            have e40 := (Zfr.gi fq13 t_a0 (by decide)).trans h3Zku_13
            have e41 := (Zfr.ai fq13 ttp_13 (by decide)).trans ev12
            have k42 := TkR_fr k0Zku_13 fq13 tkk_13 tvv_13 (by decide) (by decide)
            have F43 := Zfr.tr FLc_13 fq13 (by decide)
            refine wi (fun hq44 => ?_) (fun hq44 => ?_)
            · have hq44 := i_eq hq44
              obtain ⟨w16, ew16⟩ := go_4 Wq13 t_a0
              refine wb ew16 ?_
              obtain ⟨q15, eq15, Wq15, fq15, pl0q15, pu0q15, pbZkuq15⟩ := p_Tokens_takeToken hn Wq13 (a1 := x3_13) t_a0 (by omega) (by omega) ⟨btp_13, bkk_13, bvv_13, bn_13, e37, e38, e39, e40, ttp_13, tkk_13, tvv_13, by (try dsimp only); omega, by (try dsimp only); omega, k42⟩
              refine wb eq15 ?_
              have e49 := (Zfr.gr fq15 t_a0 (by decide)).trans e37
              have e50 := (Zfr.gr fq15 t_a0 (by decide)).trans e38
              have e51 := (Zfr.gr fq15 t_a0 (by decide)).trans e39
              have e52 := (Zfr.ai fq15 ttp_13 (by decide)).trans e41
              have F54 := Zfr.tr F43 fq15 (by decide)
              obtain ⟨btpq15, bkkq15, bvvq15, bnq15, h0Zkuq15, h1Zkuq15, h2Zkuq15, h3Zkuq15, ttpq15, tkkq15, tvvq15, r0Zkuq15, r1Zkuq15, k0Zkuq15⟩ := pbZkuq15
              unfold f_Tokens_split_75
              have := li_1
              have := i_add (a := x4_13) (b := 1) (by omega) (by omega)
              exact lInl ⟨rfl, Wq15, F54, by (try dsimp only); omega, by (try dsimp only); omega, by (try dsimp only); omega, by (try dsimp only); omega, ⟨btpq15, bkkq15, bvvq15, bnq15, h0Zkuq15, h1Zkuq15, h2Zkuq15, h3Zkuq15, ttpq15, tkkq15, tvvq15, by (try dsimp only); omega, by (try dsimp only); omega, k0Zkuq15⟩⟩ (by (try dsimp only); omega)
            · have hq44 := i_ne hq44
              unfold f_Tokens_split_75
              have := li_1
              have := i_add (a := x3_13) (b := 1) (by omega) (by omega)
              have := i_add (a := x4_13) (b := 1) (by omega) (by omega)
              exact lInl ⟨rfl, Wq13, F43, by (try dsimp only); omega, by (try dsimp only); omega, by (try dsimp only); omega, by (try dsimp only); omega, ⟨btp_13, bkk_13, bvv_13, bn_13, e37, e38, e39, e40, ttp_13, tkk_13, tvv_13, by (try dsimp only); omega, by (try dsimp only); omega, k42⟩⟩ (by (try dsimp only); omega)
    · exact ⟨rfl, Wc5, Zfr.rf, by (try dsimp only); omega, by (try dsimp only); omega, by (try dsimp only); omega, by (try dsimp only); omega, ⟨a1, w_9, w_10, (0 : Int32), e6, ew_9, ew_10, gc5, t_a1, tw_9, tw_10, by (try dsimp only); omega, by (try dsimp only); omega, k11⟩⟩
    · (try dsimp only); omega
  obtain ⟨b, eb, hb⟩ := L12
  refine wb eb ?_
  clear eb
  obtain ⟨z0_67, c_67⟩ := b
  try dsimp only at hb ⊢
  obtain ⟨rfl, WXc_67, FXc_67, hXZkuc_67⟩ := hb
  have e68 := (Zfr.gi FXc_67 t_a0 (by decide)).trans e7
  have e69 := (Zfr.gr FXc_67 t_a0 (by decide)).trans ew_9
  have e70 := (Zfr.gr FXc_67 t_a0 (by decide)).trans ew_10
  have F72 := Zfr.tr F8 FXc_67 (by decide)
  obtain ⟨btpxc_67, bkkxc_67, bvvxc_67, bnxc_67, h0Zkuxc_67, h1Zkuxc_67, h2Zkuxc_67, h3Zkuxc_67, ttpxc_67, tkkxc_67, tvvxc_67, r0Zkuxc_67, r1Zkuxc_67, k0Zkuxc_67⟩ := hXZkuc_67
  unfold f_Tokens_split_81
  refine wb h1Zkuxc_67 ?_
  refine wb h3Zkuxc_67 ?_
  obtain ⟨c19, ec19, Wc19, fc19, gc19⟩ := pa_38 WXc_67 tkkxc_67 (i := bnxc_67) (by omega) (by omega) (x := 1) (trivial)
  refine wb ec19 ?_
  have e73 := (Zfr.gi fc19 t_a0 (by decide)).trans e68
  have e74 := (Zfr.gr fc19 t_a0 (by decide)).trans h1Zkuxc_67
  have e75 := (Zfr.gr fc19 t_a0 (by decide)).trans h2Zkuxc_67
  have e76 := (Zfr.gi fc19 t_a0 (by decide)).trans h3Zkuxc_67
  have k77 := TkR_wk k0Zkuxc_67 tkkxc_67 tvvxc_67 ec19
  have F78 := Zfr.tr F72 fc19 (by decide)
  refine wb e75 ?_
  refine wb e76 ?_
  obtain ⟨c22, ec22, Wc22, fc22, gc22⟩ := pa_39 Wc19 tvvxc_67 (i := bnxc_67) (by omega) (by omega) (x := 0) (rgi (by omega) (by omega))
  refine wb ec22 ?_
  have e79 := (Zfr.gi fc22 t_a0 (by decide)).trans e73
  have e80 := (Zfr.gr fc22 t_a0 (by decide)).trans e74
  have e81 := (Zfr.gr fc22 t_a0 (by decide)).trans e75
  have e82 := (Zfr.gi fc22 t_a0 (by decide)).trans e76
  have e83 := (Zfr.ai fc22 tkkxc_67 (by decide)).trans gc19
  have k84 := TkR_wv k77 tkkxc_67 tvvxc_67 ec22
  have F85 := Zfr.tr F78 fc22 (by decide)
  obtain ⟨v23, ev23, tv23⟩ := gf_4_2 Wc22 t_a0
  refine wb ev23 ?_
  refine wb e82 ?_
  refine wb e79 ?_
  obtain ⟨c26, ec26, Wc26, fc26, gc26⟩ := pa_40 Wc22 tv23 (i := bnxc_67) (by omega) (by omega) (x := q3.1) (trivial)
  refine wb ec26 ?_
  have e86 := (Zfr.gr fc26 t_a0 (by decide)).trans e80
  have e87 := (Zfr.gr fc26 t_a0 (by decide)).trans e81
  have e88 := (Zfr.gi fc26 t_a0 (by decide)).trans e82
  have e89 := (Zfr.ai fc26 tkkxc_67 (by decide)).trans e83
  have e90 := (Zfr.ai fc26 tvvxc_67 (by decide)).trans gc22
  have k91 := TkR_fr k84 fc26 tkkxc_67 tvvxc_67 (by decide) (by decide)
  have F92 := Zfr.tr F85 fc26 (by decide)
  have := li_1
  have := i_add (a := bnxc_67) (b := 1) (by omega) (by omega)
  have k93 := TkR_ext (k := 1) (v := 0) k91 e89 e90 (tkri (by (try dsimp only); omega) (by (try dsimp only); omega) (by (try dsimp only); omega) (by (try dsimp only); omega) (by (try dsimp only); omega)) (by omega)
  exact ⟨_, rfl, Wc26, F92, ⟨bkkxc_67, bvvxc_67, bnxc_67, e86, e87, e88, tkkxc_67, tvvxc_67, by (try dsimp only); omega, by (try dsimp only); omega, k93⟩⟩

abbrev M_Reader_passOn : List (Nat × Nat) := [(6, 8), (6, 19)]
set_option maxRecDepth 100000 in
set_option maxHeartbeats 400000 in
theorem p_Reader_passOn {nf : Nat} (hn : 8589934592 ≤ nf) {G : List Nat} {c : Zc} (W : Zwt zty G c) {a0 : Nat} {a1 : Int32}  (t_a0 : G[a0]? = some 6) (pl_a1 : 0 ≤ a1.toInt) (pu_a1 : a1.toInt ≤ 28) (pp_1 : a1.toInt = 17 ∨ a1.toInt = 18 ∨ a1.toInt = 21 ∨ a1.toInt = 23 ∨ a1.toInt = 12) (hb_Zrt : Zrt G c a0) : ∃ q, f_Reader_passOn nf a0 a1 c = some q ∧ Zwt zty G q ∧ Zfr G M_Reader_passOn c q ∧ Zrt G q a0 := by
  have F0 : Zfr G M_Reader_passOn c c := Zfr.rf
  unfold f_Reader_passOn
  obtain ⟨bt0, bg0, bs0, bfa0, bsl0, h0Zrt0, h1Zrt0, h2Zrt0, h3Zrt0, h4Zrt0, tt0, r0Zrt0, r1Zrt0, r2Zrt0, r3Zrt0, r4Zrt0⟩ := hb_Zrt
  obtain ⟨c1, ec1, Wc1, fc1, gc1⟩ := pf_6_8 W t_a0 (x := a1) (trivial)
  refine wb ec1 ?_
  have e1 := (Zfr.gr fc1 t_a0 (by decide)).trans h0Zrt0
  have e2 := (Zfr.gi fc1 tt0 (by decide)).trans h1Zrt0
  have e3 := (Zfr.gi fc1 t_a0 (by decide)).trans h3Zrt0
  have e4 := (Zfr.gi fc1 t_a0 (by decide)).trans h4Zrt0
  have F5 := Zfr.tr F0 fc1 (by decide)
  have := li_0
  obtain ⟨c2, ec2, Wc2, fc2, gc2⟩ := pf_6_19 Wc1 t_a0 (x := 0) (rgi (by omega) (by omega))
  refine wb ec2 ?_
  have e6 := (Zfr.gr fc2 t_a0 (by decide)).trans e1
  have e7 := (Zfr.gi fc2 tt0 (by decide)).trans e2
  have e8 := (Zfr.gi fc2 t_a0 (by decide)).trans e3
  have e9 := (Zfr.gi fc2 t_a0 (by decide)).trans e4
  have e10 := (Zfr.gi fc2 t_a0 (by decide)).trans gc1
  have F11 := Zfr.tr F5 fc2 (by decide)
  exact ⟨_, rfl, Wc2, F11, ⟨bt0, bg0, a1, bfa0, bsl0, e6, e7, e10, e8, e9, tt0, by (try dsimp only); omega, by (try dsimp only); omega, by (try dsimp only); omega, by (try dsimp only); omega, by (try dsimp only); omega⟩⟩

abbrev M_Reader_failAt : List (Nat × Nat) := [(6, 0), (6, 9)]
set_option maxRecDepth 100000 in
set_option maxHeartbeats 400000 in
theorem p_Reader_failAt {nf : Nat} (hn : 8589934592 ≤ nf) {G : List Nat} {c : Zc} (W : Zwt zty G c) {a0 : Nat} {a1 : Int32} {a2 : Int32}  (t_a0 : G[a0]? = some 6) (pl_a1 : 1 ≤ a1.toInt) (pu_a1 : a1.toInt ≤ 6) (pl_a2 : 0 ≤ a2.toInt) (pu_a2 : a2.toInt ≤ 201) (hb_Zr0 : Zr0 G c a0) : ∃ q, f_Reader_failAt nf a0 a1 a2 c = some q ∧ Zwt zty G q ∧ Zfr G M_Reader_failAt c q ∧ Zrf G q a0 := by
  have F0 : Zfr G M_Reader_failAt c c := Zfr.rf
  unfold f_Reader_failAt
  obtain ⟨bt0, bg0, bs0, bfa0, bsl0, h0Zr00, h1Zr00, h2Zr00, h3Zr00, h4Zr00, tt0, r0Zr00, r1Zr00, r2Zr00, r3Zr00⟩ := hb_Zr0
  obtain ⟨c1, ec1, Wc1, fc1, gc1⟩ := pf_6_9 W t_a0 (x := a1) (trivial)
  refine wb ec1 ?_
  have e1 := (Zfr.gr fc1 t_a0 (by decide)).trans h0Zr00
  have e2 := (Zfr.gi fc1 tt0 (by decide)).trans h1Zr00
  have e3 := (Zfr.gi fc1 t_a0 (by decide)).trans h2Zr00
  have e4 := (Zfr.gi fc1 t_a0 (by decide)).trans h4Zr00
  have F5 := Zfr.tr F0 fc1 (by decide)
  obtain ⟨v2, ev2, tv2⟩ := gf_6_1 Wc1 t_a0
  refine wb ev2 ?_
  obtain ⟨v3, ev3, tv3⟩ := gf_4_2 Wc1 tv2
  refine wb ev3 ?_
  obtain ⟨v4, ev4, _⟩ := ga_40 Wc1 tv3 (i := a2) (by omega) (by omega)
  refine wb ev4 ?_
  obtain ⟨c5, ec5, Wc5, fc5, gc5⟩ := pf_6_0 Wc1 t_a0 (x := v4) (trivial)
  refine wb ec5 ?_
  have e6 := (Zfr.gr fc5 t_a0 (by decide)).trans e1
  have e7 := (Zfr.gi fc5 tt0 (by decide)).trans e2
  have e8 := (Zfr.gi fc5 t_a0 (by decide)).trans e3
  have e9 := (Zfr.gi fc5 t_a0 (by decide)).trans e4
  have e10 := (Zfr.gi fc5 t_a0 (by decide)).trans gc1
  have F11 := Zfr.tr F5 fc5 (by decide)
  exact ⟨_, rfl, Wc5, F11, ⟨bt0, bg0, bs0, a1, bsl0, e6, e7, e8, e10, e9, tt0, by (try dsimp only); omega, by (try dsimp only); omega, by (try dsimp only); omega, by (try dsimp only); omega, by (try dsimp only); omega⟩⟩

abbrev M_Reader_fail : List (Nat × Nat) := [(6, 0), (6, 9)]
set_option maxRecDepth 100000 in
set_option maxHeartbeats 400000 in
theorem p_Reader_fail {nf : Nat} (hn : 8589934592 ≤ nf) {G : List Nat} {c : Zc} (W : Zwt zty G c) {a0 : Nat} {a1 : Int32}  (t_a0 : G[a0]? = some 6) (pl_a1 : 1 ≤ a1.toInt) (pu_a1 : a1.toInt ≤ 6) (hb_Zr0 : Zr0 G c a0) : ∃ q, f_Reader_fail nf a0 a1 c = some q ∧ Zwt zty G q ∧ Zfr G M_Reader_fail c q ∧ Zrf G q a0 := by
  have F0 : Zfr G M_Reader_fail c c := Zfr.rf
  unfold f_Reader_fail
  obtain ⟨bt0, bg0, bs0, bfa0, bsl0, h0Zr00, h1Zr00, h2Zr00, h3Zr00, h4Zr00, tt0, r0Zr00, r1Zr00, r2Zr00, r3Zr00⟩ := hb_Zr0
  obtain ⟨v1, ev1, lv1, uv1⟩ := gf_6_7 W t_a0
  refine wb ev1 ?_
  obtain ⟨w3, ew3⟩ := go_6 W t_a0
  refine wb ew3 ?_
  obtain ⟨q2, eq2, Wq2, fq2, pbZrfq2⟩ := p_Reader_failAt hn W (a1 := a1) (a2 := v1) t_a0 (by omega) (by omega) (by omega) (by omega) ⟨bt0, bg0, bs0, bfa0, bsl0, h0Zr00, h1Zr00, h2Zr00, h3Zr00, h4Zr00, tt0, by (try dsimp only); omega, by (try dsimp only); omega, by (try dsimp only); omega, by (try dsimp only); omega⟩
  refine wb eq2 ?_
  have e6 := (Zfr.gr fq2 t_a0 (by decide)).trans h0Zr00
  have e7 := (Zfr.gi fq2 tt0 (by decide)).trans h1Zr00
  have e8 := (Zfr.gi fq2 t_a0 (by decide)).trans h2Zr00
  have e9 := (Zfr.gi fq2 t_a0 (by decide)).trans h4Zr00
  have F10 := Zfr.tr F0 fq2 (by decide)
  obtain ⟨btq2, bgq2, bsq2, bfaq2, bslq2, h0Zrfq2, h1Zrfq2, h2Zrfq2, h3Zrfq2, h4Zrfq2, ttq2, r0Zrfq2, r1Zrfq2, r2Zrfq2, r3Zrfq2, r4Zrfq2⟩ := pbZrfq2
  exact ⟨_, rfl, Wq2, F10, ⟨btq2, bgq2, bsq2, bfaq2, bslq2, h0Zrfq2, h1Zrfq2, h2Zrfq2, h3Zrfq2, h4Zrfq2, ttq2, by (try dsimp only); omega, by (try dsimp only); omega, by (try dsimp only); omega, by (try dsimp only); omega, by (try dsimp only); omega⟩⟩

abbrev M_Reader_checkLast : List (Nat × Nat) := [(6, 0), (6, 9)]
set_option maxRecDepth 100000 in
set_option maxHeartbeats 400000 in
theorem p_Reader_checkLast {nf : Nat} (hn : 8589934592 ≤ nf) {G : List Nat} {c : Zc} (W : Zwt zty G c) {a0 : Nat} {a1 : Int32}  (t_a0 : G[a0]? = some 6) (hb_Zrt : Zrt G c a0) : ∃ q, f_Reader_checkLast nf a0 a1 c = some q ∧ Zwt zty G q ∧ Zfr G M_Reader_checkLast c q ∧ Zrt G q a0 := by
  have F0 : Zfr G M_Reader_checkLast c c := Zfr.rf
  unfold f_Reader_checkLast
  obtain ⟨bt0, bg0, bs0, bfa0, bsl0, h0Zrt0, h1Zrt0, h2Zrt0, h3Zrt0, h4Zrt0, tt0, r0Zrt0, r1Zrt0, r2Zrt0, r3Zrt0, r4Zrt0⟩ := hb_Zrt
  have J1 : ∃ q, f_Reader_checkLast_35 nf c = some q ∧ Zwt zty G q ∧ Zfr G M_Reader_checkLast c q ∧ Zrt G q a0 := by
    unfold f_Reader_checkLast_35
    exact ⟨_, rfl, W, F0, ⟨bt0, bg0, bs0, bfa0, bsl0, h0Zrt0, h1Zrt0, h2Zrt0, h3Zrt0, h4Zrt0, tt0, by (try dsimp only); omega, by (try dsimp only); omega, by (try dsimp only); omega, by (try dsimp only); omega, by (try dsimp only); omega⟩⟩
  have J7 : ∃ q, f_Reader_checkLast_30 nf a0 c = some q ∧ Zwt zty G q ∧ Zfr G M_Reader_checkLast c q ∧ Zrt G q a0 := by
    unfold f_Reader_checkLast_30
    obtain ⟨w7, ew7⟩ := go_6 W t_a0
    refine wb ew7 ?_
    have := li_3
    obtain ⟨q6, eq6, Wq6, fq6, pbZrfq6⟩ := p_Reader_fail hn W (a1 := 3) t_a0 (by omega) (by omega) ⟨bt0, bg0, bs0, bfa0, bsl0, h0Zrt0, h1Zrt0, h2Zrt0, h3Zrt0, h4Zrt0, tt0, by (try dsimp only); omega, by (try dsimp only); omega, by (try dsimp only); omega, by (try dsimp only); omega⟩
    refine wb eq6 ?_
    have e13 := (Zfr.gr fq6 t_a0 (by decide)).trans h0Zrt0
    have e14 := (Zfr.gi fq6 tt0 (by decide)).trans h1Zrt0
    have e15 := (Zfr.gi fq6 t_a0 (by decide)).trans h2Zrt0
    have e16 := (Zfr.gi fq6 t_a0 (by decide)).trans h4Zrt0
    have F17 := Zfr.tr F0 fq6 (by decide)
    obtain ⟨btq6, bgq6, bsq6, bfaq6, bslq6, h0Zrfq6, h1Zrfq6, h2Zrfq6, h3Zrfq6, h4Zrfq6, ttq6, r0Zrfq6, r1Zrfq6, r2Zrfq6, r3Zrfq6, r4Zrfq6⟩ := pbZrfq6
    unfold f_Reader_checkLast_35
    exact ⟨_, rfl, Wq6, F17, ⟨btq6, bgq6, bsq6, bfaq6, bslq6, h0Zrfq6, h1Zrfq6, h2Zrfq6, h3Zrfq6, h4Zrfq6, ttq6, by (try dsimp only); omega, by (try dsimp only); omega, by (try dsimp only); omega, by (try dsimp only); omega, by (try dsimp only); omega⟩⟩
  obtain ⟨v1, ev1, lv1, uv1⟩ := gf_6_7 W t_a0
  refine wb ev1 ?_
  refine wi (fun hq23 => ?_) (fun hq23 => ?_)
  · have := li_200
    have hq23 := i_eq hq23
    refine wi (fun hq24 => ?_) (fun hq24 => ?_)
    · have := li_1
      have := i_ge a1
      have := i_up a1
      have hq24 := i_eq hq24
      exact J1
    · have := li_1
      have := i_ge a1
      have := i_up a1
      have hq24 := i_ne hq24
      refine wb h3Zrt0 ?_
      refine wi (fun hq25 => ?_) (fun hq25 => ?_)
      · have := li_0
        have := i_ge bfa0
        have := i_up bfa0
        have hq25 := i_eq hq25
        exact J7
      · have := li_0
        have := i_ge bfa0
        have := i_up bfa0
        have hq25 := i_ne hq25
        refine wb h3Zrt0 ?_
        refine wi (fun hq26 => ?_) (fun hq26 => ?_)
        · have := li_3
          have hq26 := i_le hq26
          exact J1
        · have := li_3
          have hq26 := i_nle hq26
          exact J7
  · have := li_200
    have hq23 := i_ne hq23
    exact J1

abbrev M_Reader_takeSlot : List (Nat × Nat) := [(6, 0), (6, 9), (6, 10), (6, 16)]
set_option maxRecDepth 100000 in
set_option maxHeartbeats 400000 in
theorem p_Reader_takeSlot {nf : Nat} (hn : 8589934592 ≤ nf) {G : List Nat} {c : Zc} (W : Zwt zty G c) {a0 : Nat} {a1 : Int32}  (t_a0 : G[a0]? = some 6) (pl_a1 : 0 ≤ a1.toInt) (pu_a1 : a1.toInt ≤ 201) (hb_Zr0 : Zr0 G c a0) : ∃ q, f_Reader_takeSlot nf a0 a1 c = some q ∧ Zwt zty G q ∧ Zfr G M_Reader_takeSlot c q ∧ Zrs G q a0 := by
  have F0 : Zfr G M_Reader_takeSlot c c := Zfr.rf
  unfold f_Reader_takeSlot
  obtain ⟨bt0, bg0, bs0, bfa0, bsl0, h0Zr00, h1Zr00, h2Zr00, h3Zr00, h4Zr00, tt0, r0Zr00, r1Zr00, r2Zr00, r3Zr00⟩ := hb_Zr0
  obtain ⟨v1, ev1, lv1, uv1⟩ := gf_6_10 W t_a0
  refine wb ev1 ?_
  refine wi (fun hq1 => ?_) (fun hq1 => ?_)
  · have := li_8
    have hq1 := i_lt hq1
    refine wb ev1 ?_
    obtain ⟨c4, ec4, Wc4, fc4, gc4⟩ := pf_6_16 W t_a0 (x := v1) (rgi (by omega) (by omega))
    refine wb ec4 ?_
    have e2 := (Zfr.gr fc4 t_a0 (by decide)).trans h0Zr00
    have e3 := (Zfr.gi fc4 tt0 (by decide)).trans h1Zr00
    have e4 := (Zfr.gi fc4 t_a0 (by decide)).trans h2Zr00
    have e5 := (Zfr.gi fc4 t_a0 (by decide)).trans h3Zr00
    have e6 := (Zfr.gi fc4 t_a0 (by decide)).trans ev1
    have F7 := Zfr.tr F0 fc4 (by decide)
    refine wb e6 ?_
    have := li_1
    have := i_add (a := v1) (b := 1) (by omega) (by omega)
    obtain ⟨c6, ec6, Wc6, fc6, gc6⟩ := pf_6_10 Wc4 t_a0 (x := (v1 + 1)) (rgi (by omega) (by omega))
    refine wb ec6 ?_
    have e8 := (Zfr.gr fc6 t_a0 (by decide)).trans e2
    have e9 := (Zfr.gi fc6 tt0 (by decide)).trans e3
    have e10 := (Zfr.gi fc6 t_a0 (by decide)).trans e4
    have e11 := (Zfr.gi fc6 t_a0 (by decide)).trans e5
    have e12 := (Zfr.gi fc6 t_a0 (by decide)).trans gc4
    have F13 := Zfr.tr F7 fc6 (by decide)
    unfold f_Reader_takeSlot_41
    exact ⟨_, rfl, Wc6, F13, ⟨bt0, bg0, bs0, bfa0, v1, e8, e9, e10, e11, e12, tt0, by (try dsimp only); omega, by (try dsimp only); omega, by (try dsimp only); omega, by (try dsimp only); omega, by (try dsimp only); omega⟩⟩
  · have := li_8
    have hq1 := i_nlt hq1
    have := li_m1
    obtain ⟨c7, ec7, Wc7, fc7, gc7⟩ := pf_6_16 W t_a0 (x := (-1)) (rgi (by omega) (by omega))
    refine wb ec7 ?_
    have e19 := (Zfr.gr fc7 t_a0 (by decide)).trans h0Zr00
    have e20 := (Zfr.gi fc7 tt0 (by decide)).trans h1Zr00
    have e21 := (Zfr.gi fc7 t_a0 (by decide)).trans h2Zr00
    have e22 := (Zfr.gi fc7 t_a0 (by decide)).trans h3Zr00
    have F23 := Zfr.tr F0 fc7 (by decide)
    obtain ⟨w9, ew9⟩ := go_6 Wc7 t_a0
    refine wb ew9 ?_
    have := li_3
    obtain ⟨q8, eq8, Wq8, fq8, pbZrfq8⟩ := p_Reader_failAt hn Wc7 (a1 := 3) (a2 := a1) t_a0 (by omega) (by omega) (by omega) (by omega) ⟨bt0, bg0, bs0, bfa0, ((-1) : Int32), e19, e20, e21, e22, gc7, tt0, by (try dsimp only); omega, by (try dsimp only); omega, by (try dsimp only); omega, by (try dsimp only); omega⟩
    refine wb eq8 ?_
    have e29 := (Zfr.gr fq8 t_a0 (by decide)).trans e19
    have e30 := (Zfr.gi fq8 tt0 (by decide)).trans e20
    have e31 := (Zfr.gi fq8 t_a0 (by decide)).trans e21
    have e32 := (Zfr.gi fq8 t_a0 (by decide)).trans gc7
    have F33 := Zfr.tr F23 fq8 (by decide)
    obtain ⟨btq8, bgq8, bsq8, bfaq8, bslq8, h0Zrfq8, h1Zrfq8, h2Zrfq8, h3Zrfq8, h4Zrfq8, ttq8, r0Zrfq8, r1Zrfq8, r2Zrfq8, r3Zrfq8, r4Zrfq8⟩ := pbZrfq8
    unfold f_Reader_takeSlot_41
    exact ⟨_, rfl, Wq8, F33, ⟨btq8, bgq8, bsq8, bfaq8, bslq8, h0Zrfq8, h1Zrfq8, h2Zrfq8, h3Zrfq8, h4Zrfq8, ttq8, by (try dsimp only); omega, by (try dsimp only); omega, by (try dsimp only); omega, by (try dsimp only); omega, by (try dsimp only); omega⟩⟩

abbrev M_Reader_makeKnown : List (Nat × Nat) := [(6, 11), (32, 0)]
set_option maxRecDepth 100000 in
set_option maxHeartbeats 400000 in
theorem p_Reader_makeKnown {nf : Nat} (hn : 8589934592 ≤ nf) {G : List Nat} {c : Zc} (W : Zwt zty G c) {a0 : Nat}  (t_a0 : G[a0]? = some 6) (hb_Zrs : Zrs G c a0) : ∃ q, f_Reader_makeKnown nf a0 c = some q ∧ Zwt zty G q ∧ Zfr G M_Reader_makeKnown c q ∧ Zrs G q a0 := by
  have F0 : Zfr G M_Reader_makeKnown c c := Zfr.rf
  unfold f_Reader_makeKnown
  obtain ⟨bt0, bg0, bs0, bfa0, bsl0, h0Zrs0, h1Zrs0, h2Zrs0, h3Zrs0, h4Zrs0, tt0, r0Zrs0, r1Zrs0, r2Zrs0, r3Zrs0, r4Zrs0⟩ := hb_Zrs
  obtain ⟨v1, ev1, _⟩ := gf_6_11 W t_a0
  refine wb ev1 ?_
  refine wb h4Zrs0 ?_
  obtain ⟨c3, ec3, Wc3, fc3, gc3⟩ := pf_6_11 W t_a0 (x := (v1 ||| ((1 : Int32) <<< (bsl0 &&& 31)))) (trivial)
  refine wb ec3 ?_
  have e1 := (Zfr.gr fc3 t_a0 (by decide)).trans h0Zrs0
  have e2 := (Zfr.gi fc3 tt0 (by decide)).trans h1Zrs0
  have e3 := (Zfr.gi fc3 t_a0 (by decide)).trans h2Zrs0
  have e4 := (Zfr.gi fc3 t_a0 (by decide)).trans h3Zrs0
  have e5 := (Zfr.gi fc3 t_a0 (by decide)).trans h4Zrs0
  have F6 := Zfr.tr F0 fc3 (by decide)
  refine wb e1 ?_
  obtain ⟨v5, ev5, tv5⟩ := gf_3_9 Wc3 tt0
  refine wb ev5 ?_
  refine wb e1 ?_
  refine wb e2 ?_
  have := li_1
  have := i_sub (a := bg0) (b := 1) (by omega) (by omega)
  obtain ⟨v8, ev8, _⟩ := ga_32 Wc3 tv5 (i := (bg0 - 1)) (by omega) (by omega)
  refine wb ev8 ?_
  refine wb e5 ?_
  obtain ⟨c10, ec10, Wc10, fc10, gc10⟩ := pa_32 Wc3 tv5 (i := (bg0 - 1)) (by omega) (by omega) (x := (v8 ||| ((1 : Int32) <<< (bsl0 &&& 31)))) (trivial)
  refine wb ec10 ?_
  have e7 := (Zfr.gr fc10 t_a0 (by decide)).trans e1
  have e8 := (Zfr.gi fc10 tt0 (by decide)).trans e2
  have e9 := (Zfr.gi fc10 t_a0 (by decide)).trans e3
  have e10 := (Zfr.gi fc10 t_a0 (by decide)).trans e4
  have e11 := (Zfr.gi fc10 t_a0 (by decide)).trans e5
  have F12 := Zfr.tr F6 fc10 (by decide)
  exact ⟨_, rfl, Wc10, F12, ⟨bt0, bg0, bs0, bfa0, bsl0, e7, e8, e9, e10, e11, tt0, by (try dsimp only); omega, by (try dsimp only); omega, by (try dsimp only); omega, by (try dsimp only); omega, by (try dsimp only); omega⟩⟩

abbrev M_Reader_tellNode : List (Nat × Nat) := [(3, 2), (6, 0), (6, 9), (6, 10), (6, 11), (6, 16), (32, 0)]
set_option maxRecDepth 100000 in
set_option maxHeartbeats 400000 in
theorem p_Reader_tellNode {nf : Nat} (hn : 8589934592 ≤ nf) {G : List Nat} {c : Zc} (W : Zwt zty G c) {a0 : Nat} {a1 : Int32}  (t_a0 : G[a0]? = some 6) (pl_a1 : 0 ≤ a1.toInt) (pu_a1 : a1.toInt ≤ 201) (hb_Zr0 : Zr0 G c a0) : ∃ q, f_Reader_tellNode nf a0 a1 c = some q ∧ Zwt zty G q ∧ Zfr G M_Reader_tellNode c q ∧ Zrs G q a0 := by
  have F0 : Zfr G M_Reader_tellNode c c := Zfr.rf
  unfold f_Reader_tellNode
  obtain ⟨bt0, bg0, bs0, bfa0, bsl0, h0Zr00, h1Zr00, h2Zr00, h3Zr00, h4Zr00, tt0, r0Zr00, r1Zr00, r2Zr00, r3Zr00⟩ := hb_Zr0
  obtain ⟨w2, ew2⟩ := go_6 W t_a0
  refine wb ew2 ?_
  obtain ⟨q1, eq1, Wq1, fq1, pbZrsq1⟩ := p_Reader_takeSlot hn W (a1 := a1) t_a0 (by omega) (by omega) ⟨bt0, bg0, bs0, bfa0, bsl0, h0Zr00, h1Zr00, h2Zr00, h3Zr00, h4Zr00, tt0, by (try dsimp only); omega, by (try dsimp only); omega, by (try dsimp only); omega, by (try dsimp only); omega⟩
  refine wb eq1 ?_
  have e6 := (Zfr.gr fq1 t_a0 (by decide)).trans h0Zr00
  have e7 := (Zfr.gi fq1 tt0 (by decide)).trans h1Zr00
  have e8 := (Zfr.gi fq1 t_a0 (by decide)).trans h2Zr00
  have F9 := Zfr.tr F0 fq1 (by decide)
  obtain ⟨btq1, bgq1, bsq1, bfaq1, bslq1, h0Zrsq1, h1Zrsq1, h2Zrsq1, h3Zrsq1, h4Zrsq1, ttq1, r0Zrsq1, r1Zrsq1, r2Zrsq1, r3Zrsq1, r4Zrsq1⟩ := pbZrsq1
  refine wb h3Zrsq1 ?_
  refine wi (fun hq10 => ?_) (fun hq10 => ?_)
  · have := li_0
    have := i_ge bfaq1
    have := i_up bfaq1
    have hq10 := i_eq hq10
    refine wb h0Zrsq1 ?_
    obtain ⟨v6, ev6, _⟩ := gf_3_2 Wq1 ttq1
    refine wb ev6 ?_
    obtain ⟨c7, ec7, Wc7, fc7, gc7⟩ := pf_3_2 Wq1 ttq1 (x := (v6 + 1)) (trivial)
    refine wb ec7 ?_
    have e11 := (Zfr.gr fc7 t_a0 (by decide)).trans h0Zrsq1
    have e12 := (Zfr.gi fc7 tt0 (by decide)).trans e7
    have e13 := (Zfr.gi fc7 t_a0 (by decide)).trans h2Zrsq1
    have e14 := (Zfr.gi fc7 ttq1 (by decide)).trans h1Zrsq1
    have e15 := (Zfr.gi fc7 t_a0 (by decide)).trans h3Zrsq1
    have e16 := (Zfr.gi fc7 t_a0 (by decide)).trans h4Zrsq1
    have F17 := Zfr.tr F9 fc7 (by decide)
    obtain ⟨w9, ew9⟩ := go_6 Wc7 t_a0
    refine wb ew9 ?_
    obtain ⟨q8, eq8, Wq8, fq8, pbZrsq8⟩ := p_Reader_makeKnown hn Wc7  t_a0 ⟨btq1, bgq1, bsq1, bfaq1, bslq1, e11, e14, e13, e15, e16, ttq1, by (try dsimp only); omega, by (try dsimp only); omega, by (try dsimp only); omega, by (try dsimp only); omega, by (try dsimp only); omega⟩
    refine wb eq8 ?_
    have e23 := (Zfr.gr fq8 t_a0 (by decide)).trans e11
    have e24 := (Zfr.gi fq8 tt0 (by decide)).trans e12
    have e25 := (Zfr.gi fq8 t_a0 (by decide)).trans e13
    have e26 := (Zfr.gi fq8 ttq1 (by decide)).trans e14
    have e27 := (Zfr.gi fq8 t_a0 (by decide)).trans e15
    have e28 := (Zfr.gi fq8 t_a0 (by decide)).trans e16
    have F29 := Zfr.tr F17 fq8 (by decide)
    obtain ⟨btq8, bgq8, bsq8, bfaq8, bslq8, h0Zrsq8, h1Zrsq8, h2Zrsq8, h3Zrsq8, h4Zrsq8, ttq8, r0Zrsq8, r1Zrsq8, r2Zrsq8, r3Zrsq8, r4Zrsq8⟩ := pbZrsq8
    unfold f_Reader_tellNode_29
    exact ⟨_, rfl, Wq8, F29, ⟨btq8, bgq8, bsq8, bfaq8, bslq8, h0Zrsq8, h1Zrsq8, h2Zrsq8, h3Zrsq8, h4Zrsq8, ttq8, by (try dsimp only); omega, by (try dsimp only); omega, by (try dsimp only); omega, by (try dsimp only); omega, by (try dsimp only); omega⟩⟩
  · have := li_0
    have := i_ge bfaq1
    have := i_up bfaq1
    have hq10 := i_ne hq10
    unfold f_Reader_tellNode_29
    exact ⟨_, rfl, Wq1, F9, ⟨btq1, bgq1, bsq1, bfaq1, bslq1, h0Zrsq1, h1Zrsq1, h2Zrsq1, h3Zrsq1, h4Zrsq1, ttq1, by (try dsimp only); omega, by (try dsimp only); omega, by (try dsimp only); omega, by (try dsimp only); omega, by (try dsimp only); omega⟩⟩

abbrev M_Reader_nameNode : List (Nat × Nat) := [(3, 2), (6, 0), (6, 9), (6, 10), (6, 11), (6, 16), (32, 0), (46, 0)]
set_option maxRecDepth 100000 in
set_option maxHeartbeats 400000 in
theorem p_Reader_nameNode {nf : Nat} (hn : 8589934592 ≤ nf) {G : List Nat} {c : Zc} (W : Zwt zty G c) {a0 : Nat} {a1 : Int32}  (t_a0 : G[a0]? = some 6) (pl_a1 : 0 ≤ a1.toInt) (pu_a1 : a1.toInt ≤ 65) (hb_Zr0 : Zr0 G c a0) : ∃ q, f_Reader_nameNode nf a0 a1 c = some q ∧ Zwt zty G q ∧ Zfr G M_Reader_nameNode c q ∧ Zrs G q a0 := by
  have F0 : Zfr G M_Reader_nameNode c c := Zfr.rf
  unfold f_Reader_nameNode
  obtain ⟨bt0, bg0, bs0, bfa0, bsl0, h0Zr00, h1Zr00, h2Zr00, h3Zr00, h4Zr00, tt0, r0Zr00, r1Zr00, r2Zr00, r3Zr00⟩ := hb_Zr0
  obtain ⟨v1, ev1, tv1⟩ := gf_6_3 W t_a0
  refine wb ev1 ?_
  obtain ⟨v2, ev2, lv2, uv2⟩ := ga_46 W tv1 (i := a1) (by omega) (by omega)
  refine wb ev2 ?_
  obtain ⟨c3, ec3, Wc3, fc3, gc3⟩ := pf_6_16 W t_a0 (x := v2) (rgi (by omega) (by omega))
  refine wb ec3 ?_
  have e1 := (Zfr.gr fc3 t_a0 (by decide)).trans h0Zr00
  have e2 := (Zfr.gi fc3 tt0 (by decide)).trans h1Zr00
  have e3 := (Zfr.gi fc3 t_a0 (by decide)).trans h2Zr00
  have e4 := (Zfr.gi fc3 t_a0 (by decide)).trans h3Zr00
  have e5 := (Zfr.gr fc3 t_a0 (by decide)).trans ev1
  have F6 := Zfr.tr F0 fc3 (by decide)
  refine wb gc3 ?_
  refine wi (fun hq7 => ?_) (fun hq7 => ?_)
  · have := li_m1
    have hq7 := i_eq hq7
    obtain ⟨v16, ev16, lv16, uv16⟩ := gf_6_7 Wc3 t_a0
    refine wb ev16 ?_
    obtain ⟨w18, ew18⟩ := go_6 Wc3 t_a0
    refine wb ew18 ?_
    obtain ⟨q17, eq17, Wq17, fq17, pbZrsq17⟩ := p_Reader_tellNode hn Wc3 (a1 := v16) t_a0 (by omega) (by omega) ⟨bt0, bg0, bs0, bfa0, v2, e1, e2, e3, e4, gc3, tt0, by (try dsimp only); omega, by (try dsimp only); omega, by (try dsimp only); omega, by (try dsimp only); omega⟩
    refine wb eq17 ?_
    have e13 := (Zfr.gr fq17 t_a0 (by decide)).trans e1
    have e14 := (Zfr.gi fq17 tt0 (by decide)).trans e2
    have e15 := (Zfr.gi fq17 t_a0 (by decide)).trans e3
    have e16 := (Zfr.gr fq17 t_a0 (by decide)).trans e5
    have F17 := Zfr.tr F6 fq17 (by decide)
    obtain ⟨btq17, bgq17, bsq17, bfaq17, bslq17, h0Zrsq17, h1Zrsq17, h2Zrsq17, h3Zrsq17, h4Zrsq17, ttq17, r0Zrsq17, r1Zrsq17, r2Zrsq17, r3Zrsq17, r4Zrsq17⟩ := pbZrsq17
    refine wb e16 ?_
    refine wb h4Zrsq17 ?_
    obtain ⟨c21, ec21, Wc21, fc21, gc21⟩ := pa_46 Wq17 tv1 (i := a1) (by omega) (by omega) (x := bslq17) (rgi (by omega) (by omega))
    refine wb ec21 ?_
    have e18 := (Zfr.gr fc21 t_a0 (by decide)).trans h0Zrsq17
    have e19 := (Zfr.gi fc21 tt0 (by decide)).trans e14
    have e20 := (Zfr.gi fc21 t_a0 (by decide)).trans h2Zrsq17
    have e21 := (Zfr.gi fc21 ttq17 (by decide)).trans h1Zrsq17
    have e22 := (Zfr.gi fc21 t_a0 (by decide)).trans h3Zrsq17
    have e23 := (Zfr.gi fc21 t_a0 (by decide)).trans h4Zrsq17
    have F24 := Zfr.tr F17 fc21 (by decide)
    unfold f_Reader_nameNode_79
    exact ⟨_, rfl, Wc21, F24, ⟨btq17, bgq17, bsq17, bfaq17, bslq17, e18, e21, e20, e22, e23, ttq17, by (try dsimp only); omega, by (try dsimp only); omega, by (try dsimp only); omega, by (try dsimp only); omega, by (try dsimp only); omega⟩⟩
  · have := li_m1
    have hq7 := i_ne hq7
    obtain ⟨v6, ev6, _⟩ := gf_6_12 Wc3 t_a0
    refine wb ev6 ?_
    refine wb gc3 ?_
    refine wi (fun hq30 => ?_) (fun hq30 => ?_)
    · have := li_1
      have := i_andr (a := (v6 >>> (v2 &&& 31))) (b := 1) (by omega)
      have := li_0
      have hq30 := i_eq hq30
      obtain ⟨v9, ev9, _⟩ := gf_6_11 Wc3 t_a0
      refine wb ev9 ?_
      refine wb gc3 ?_
      refine wi (fun hq31 => ?_) (fun hq31 => ?_)
      · have := i_andr (a := (v9 >>> (v2 &&& 31))) (b := 1) (by omega)
        have hq31 := i_eq hq31
        obtain ⟨w13, ew13⟩ := go_6 Wc3 t_a0
        refine wb ew13 ?_
        obtain ⟨q12, eq12, Wq12, fq12, pbZrsq12⟩ := p_Reader_makeKnown hn Wc3  t_a0 ⟨bt0, bg0, bs0, bfa0, v2, e1, e2, e3, e4, gc3, tt0, by (try dsimp only); omega, by (try dsimp only); omega, by (try dsimp only); omega, by (try dsimp only); omega, by (try dsimp only); omega⟩
        refine wb eq12 ?_
        have e37 := (Zfr.gr fq12 t_a0 (by decide)).trans e1
        have e38 := (Zfr.gi fq12 tt0 (by decide)).trans e2
        have e39 := (Zfr.gi fq12 t_a0 (by decide)).trans e3
        have e40 := (Zfr.gi fq12 t_a0 (by decide)).trans e4
        have e41 := (Zfr.gi fq12 t_a0 (by decide)).trans gc3
        have F42 := Zfr.tr F6 fq12 (by decide)
        obtain ⟨btq12, bgq12, bsq12, bfaq12, bslq12, h0Zrsq12, h1Zrsq12, h2Zrsq12, h3Zrsq12, h4Zrsq12, ttq12, r0Zrsq12, r1Zrsq12, r2Zrsq12, r3Zrsq12, r4Zrsq12⟩ := pbZrsq12
        unfold f_Reader_nameNode_79
        exact ⟨_, rfl, Wq12, F42, ⟨btq12, bgq12, bsq12, bfaq12, bslq12, h0Zrsq12, h1Zrsq12, h2Zrsq12, h3Zrsq12, h4Zrsq12, ttq12, by (try dsimp only); omega, by (try dsimp only); omega, by (try dsimp only); omega, by (try dsimp only); omega, by (try dsimp only); omega⟩⟩
      · have := i_andr (a := (v9 >>> (v2 &&& 31))) (b := 1) (by omega)
        have hq31 := i_ne hq31
        unfold f_Reader_nameNode_79
        exact ⟨_, rfl, Wc3, F6, ⟨bt0, bg0, bs0, bfa0, v2, e1, e2, e3, e4, gc3, tt0, by (try dsimp only); omega, by (try dsimp only); omega, by (try dsimp only); omega, by (try dsimp only); omega, by (try dsimp only); omega⟩⟩
    · have := li_1
      have := i_andr (a := (v6 >>> (v2 &&& 31))) (b := 1) (by omega)
      have := li_0
      have hq30 := i_ne hq30
      obtain ⟨w15, ew15⟩ := go_6 Wc3 t_a0
      refine wb ew15 ?_
      have := li_4
      obtain ⟨q14, eq14, Wq14, fq14, pbZrfq14⟩ := p_Reader_fail hn Wc3 (a1 := 4) t_a0 (by omega) (by omega) ⟨bt0, bg0, bs0, bfa0, v2, e1, e2, e3, e4, gc3, tt0, by (try dsimp only); omega, by (try dsimp only); omega, by (try dsimp only); omega, by (try dsimp only); omega⟩
      refine wb eq14 ?_
      have e58 := (Zfr.gr fq14 t_a0 (by decide)).trans e1
      have e59 := (Zfr.gi fq14 tt0 (by decide)).trans e2
      have e60 := (Zfr.gi fq14 t_a0 (by decide)).trans e3
      have e61 := (Zfr.gi fq14 t_a0 (by decide)).trans gc3
      have F62 := Zfr.tr F6 fq14 (by decide)
      obtain ⟨btq14, bgq14, bsq14, bfaq14, bslq14, h0Zrfq14, h1Zrfq14, h2Zrfq14, h3Zrfq14, h4Zrfq14, ttq14, r0Zrfq14, r1Zrfq14, r2Zrfq14, r3Zrfq14, r4Zrfq14⟩ := pbZrfq14
      unfold f_Reader_nameNode_79
      exact ⟨_, rfl, Wq14, F62, ⟨btq14, bgq14, bsq14, bfaq14, bslq14, h0Zrfq14, h1Zrfq14, h2Zrfq14, h3Zrfq14, h4Zrfq14, ttq14, by (try dsimp only); omega, by (try dsimp only); omega, by (try dsimp only); omega, by (try dsimp only); omega, by (try dsimp only); omega⟩⟩

abbrev M_Reader_closeNode : List (Nat × Nat) := [(2, 0), (2, 1), (3, 5), (6, 8), (30, 0), (33, 0), (34, 0)]
set_option maxRecDepth 100000 in
set_option maxHeartbeats 400000 in
theorem p_Reader_closeNode {nf : Nat} (hn : 8589934592 ≤ nf) {G : List Nat} {c : Zc} (W : Zwt zty G c) {a0 : Nat}  (t_a0 : G[a0]? = some 6) (hb_Zrs : Zrs G c a0) : ∃ q, f_Reader_closeNode nf a0 c = some q ∧ Zwt zty G q ∧ Zfr G M_Reader_closeNode c q ∧ Zrt G q a0 := by
  have F0 : Zfr G M_Reader_closeNode c c := Zfr.rf
  unfold f_Reader_closeNode
  obtain ⟨bt0, bg0, bs0, bfa0, bsl0, h0Zrs0, h1Zrs0, h2Zrs0, h3Zrs0, h4Zrs0, tt0, r0Zrs0, r1Zrs0, r2Zrs0, r3Zrs0, r4Zrs0⟩ := hb_Zrs
  refine wb h3Zrs0 ?_
  refine wi (fun hq1 => ?_) (fun hq1 => ?_)
  · have := li_0
    have := i_ge bfa0
    have := i_up bfa0
    have hq1 := i_eq hq1
    obtain ⟨v3, ev3, lv3, uv3⟩ := gf_6_17 W t_a0
    refine wb ev3 ?_
    refine wi (fun hq2 => ?_) (fun hq2 => ?_)
    · have hq2 := i_eq hq2
      unfold f_Reader_closeNode_30
      obtain ⟨v5, ev5, lv5, uv5⟩ := gf_6_15 W t_a0
      refine wb ev5 ?_
      refine wi (fun hq3 => ?_) (fun hq3 => ?_)
      · have := li_m1
        have hq3 := i_eq hq3
        unfold f_Reader_closeNode_53
        refine wb h0Zrs0 ?_
        obtain ⟨w9, ew9⟩ := go_3 W tt0
        refine wb ew9 ?_
        obtain ⟨q8, eq8, Wq8, fq8, pbZtgq8⟩ := p_Text_endGroup hn W  tt0 ⟨bg0, h1Zrs0, by (try dsimp only); omega, by (try dsimp only); omega⟩
        refine wb eq8 ?_
        have e5 := (Zfr.gr fq8 t_a0 (by decide)).trans h0Zrs0
        have e6 := (Zfr.gi fq8 tt0 (by decide)).trans h1Zrs0
        have e7 := (Zfr.gi fq8 t_a0 (by decide)).trans h2Zrs0
        have e8 := (Zfr.gi fq8 t_a0 (by decide)).trans h3Zrs0
        have e9 := (Zfr.gi fq8 t_a0 (by decide)).trans h4Zrs0
        have F10 := Zfr.tr F0 fq8 (by decide)
        obtain ⟨bgq8, h0Ztgq8, r0Ztgq8, r1Ztgq8⟩ := pbZtgq8
        obtain ⟨c10, ec10, Wc10, fc10, gc10⟩ := pf_6_8 Wq8 t_a0 (x := 7) (trivial)
        refine wb ec10 ?_
        have e11 := (Zfr.gr fc10 t_a0 (by decide)).trans e5
        have e12 := (Zfr.gi fc10 tt0 (by decide)).trans h0Ztgq8
        have e13 := (Zfr.gi fc10 t_a0 (by decide)).trans e8
        have e14 := (Zfr.gi fc10 t_a0 (by decide)).trans e9
        have F15 := Zfr.tr F10 fc10 (by decide)
        have := li_7
        exact ⟨_, rfl, Wc10, F15, ⟨bt0, bgq8, (7 : Int32), bfa0, bsl0, e11, e12, gc10, e13, e14, tt0, by (try dsimp only); omega, by (try dsimp only); omega, by (try dsimp only); omega, by (try dsimp only); omega, by (try dsimp only); omega⟩⟩
      · have := li_m1
        have hq3 := i_ne hq3
        obtain ⟨v11, ev11, tv11⟩ := gf_6_5 W t_a0
        refine wb ev11 ?_
        refine wb ev5 ?_
        refine wb h4Zrs0 ?_
        obtain ⟨w15, ew15⟩ := go_2 W tv11
        refine wb ew15 ?_
        obtain ⟨q14, eq14, Wq14, fq14⟩ := p_Way_join hn W (a1 := v5) (a2 := bsl0) tv11 (by omega) (by omega) (by omega) (by omega)
        refine wb eq14 ?_
        have e21 := (Zfr.gr fq14 t_a0 (by decide)).trans h0Zrs0
        have e22 := (Zfr.gi fq14 tt0 (by decide)).trans h1Zrs0
        have e23 := (Zfr.gi fq14 t_a0 (by decide)).trans h2Zrs0
        have e24 := (Zfr.gi fq14 t_a0 (by decide)).trans h3Zrs0
        have e25 := (Zfr.gi fq14 t_a0 (by decide)).trans h4Zrs0
        have F26 := Zfr.tr F0 fq14 (by decide)
        unfold f_Reader_closeNode_53
        refine wb e21 ?_
        obtain ⟨w9, ew9⟩ := go_3 Wq14 tt0
        refine wb ew9 ?_
        obtain ⟨q8, eq8, Wq8, fq8, pbZtgq8⟩ := p_Text_endGroup hn Wq14  tt0 ⟨bg0, e22, by (try dsimp only); omega, by (try dsimp only); omega⟩
        refine wb eq8 ?_
        have e28 := (Zfr.gr fq8 t_a0 (by decide)).trans e21
        have e29 := (Zfr.gi fq8 tt0 (by decide)).trans e22
        have e30 := (Zfr.gi fq8 t_a0 (by decide)).trans e23
        have e31 := (Zfr.gi fq8 t_a0 (by decide)).trans e24
        have e32 := (Zfr.gi fq8 t_a0 (by decide)).trans e25
        have F33 := Zfr.tr F26 fq8 (by decide)
        obtain ⟨bgq8, h0Ztgq8, r0Ztgq8, r1Ztgq8⟩ := pbZtgq8
        obtain ⟨c10, ec10, Wc10, fc10, gc10⟩ := pf_6_8 Wq8 t_a0 (x := 7) (trivial)
        refine wb ec10 ?_
        have e34 := (Zfr.gr fc10 t_a0 (by decide)).trans e28
        have e35 := (Zfr.gi fc10 tt0 (by decide)).trans h0Ztgq8
        have e36 := (Zfr.gi fc10 t_a0 (by decide)).trans e31
        have e37 := (Zfr.gi fc10 t_a0 (by decide)).trans e32
        have F38 := Zfr.tr F33 fc10 (by decide)
        have := li_7
        exact ⟨_, rfl, Wc10, F38, ⟨bt0, bgq8, (7 : Int32), bfa0, bsl0, e34, e35, gc10, e36, e37, tt0, by (try dsimp only); omega, by (try dsimp only); omega, by (try dsimp only); omega, by (try dsimp only); omega, by (try dsimp only); omega⟩⟩
    · have hq2 := i_ne hq2
      refine wb h0Zrs0 ?_
      refine wb h4Zrs0 ?_
      refine wb ev3 ?_
      obtain ⟨w20, ew20⟩ := go_3 W tt0
      refine wb ew20 ?_
      obtain ⟨q19, eq19, Wq19, fq19⟩ := p_Text_addDemand hn W (a1 := bsl0) (a2 := v3) tt0 (by omega) (by omega) (by omega) (by omega)
      refine wb eq19 ?_
      have e44 := (Zfr.gr fq19 t_a0 (by decide)).trans h0Zrs0
      have e45 := (Zfr.gi fq19 tt0 (by decide)).trans h1Zrs0
      have e46 := (Zfr.gi fq19 t_a0 (by decide)).trans h2Zrs0
      have e47 := (Zfr.gi fq19 t_a0 (by decide)).trans h3Zrs0
      have e48 := (Zfr.gi fq19 t_a0 (by decide)).trans h4Zrs0
      have F49 := Zfr.tr F0 fq19 (by decide)
      unfold f_Reader_closeNode_30
      obtain ⟨v5, ev5, lv5, uv5⟩ := gf_6_15 Wq19 t_a0
      refine wb ev5 ?_
      refine wi (fun hq50 => ?_) (fun hq50 => ?_)
      · have := li_m1
        have hq50 := i_eq hq50
        unfold f_Reader_closeNode_53
        refine wb e44 ?_
        obtain ⟨w9, ew9⟩ := go_3 Wq19 tt0
        refine wb ew9 ?_
        obtain ⟨q8, eq8, Wq8, fq8, pbZtgq8⟩ := p_Text_endGroup hn Wq19  tt0 ⟨bg0, e45, by (try dsimp only); omega, by (try dsimp only); omega⟩
        refine wb eq8 ?_
        have e52 := (Zfr.gr fq8 t_a0 (by decide)).trans e44
        have e53 := (Zfr.gi fq8 tt0 (by decide)).trans e45
        have e54 := (Zfr.gi fq8 t_a0 (by decide)).trans e46
        have e55 := (Zfr.gi fq8 t_a0 (by decide)).trans e47
        have e56 := (Zfr.gi fq8 t_a0 (by decide)).trans e48
        have F57 := Zfr.tr F49 fq8 (by decide)
        obtain ⟨bgq8, h0Ztgq8, r0Ztgq8, r1Ztgq8⟩ := pbZtgq8
        obtain ⟨c10, ec10, Wc10, fc10, gc10⟩ := pf_6_8 Wq8 t_a0 (x := 7) (trivial)
        refine wb ec10 ?_
        have e58 := (Zfr.gr fc10 t_a0 (by decide)).trans e52
        have e59 := (Zfr.gi fc10 tt0 (by decide)).trans h0Ztgq8
        have e60 := (Zfr.gi fc10 t_a0 (by decide)).trans e55
        have e61 := (Zfr.gi fc10 t_a0 (by decide)).trans e56
        have F62 := Zfr.tr F57 fc10 (by decide)
        have := li_7
        exact ⟨_, rfl, Wc10, F62, ⟨bt0, bgq8, (7 : Int32), bfa0, bsl0, e58, e59, gc10, e60, e61, tt0, by (try dsimp only); omega, by (try dsimp only); omega, by (try dsimp only); omega, by (try dsimp only); omega, by (try dsimp only); omega⟩⟩
      · have := li_m1
        have hq50 := i_ne hq50
        obtain ⟨v11, ev11, tv11⟩ := gf_6_5 Wq19 t_a0
        refine wb ev11 ?_
        refine wb ev5 ?_
        refine wb e48 ?_
        obtain ⟨w15, ew15⟩ := go_2 Wq19 tv11
        refine wb ew15 ?_
        obtain ⟨q14, eq14, Wq14, fq14⟩ := p_Way_join hn Wq19 (a1 := v5) (a2 := bsl0) tv11 (by omega) (by omega) (by omega) (by omega)
        refine wb eq14 ?_
        have e68 := (Zfr.gr fq14 t_a0 (by decide)).trans e44
        have e69 := (Zfr.gi fq14 tt0 (by decide)).trans e45
        have e70 := (Zfr.gi fq14 t_a0 (by decide)).trans e46
        have e71 := (Zfr.gi fq14 t_a0 (by decide)).trans e47
        have e72 := (Zfr.gi fq14 t_a0 (by decide)).trans e48
        have F73 := Zfr.tr F49 fq14 (by decide)
        unfold f_Reader_closeNode_53
        refine wb e68 ?_
        obtain ⟨w9, ew9⟩ := go_3 Wq14 tt0
        refine wb ew9 ?_
        obtain ⟨q8, eq8, Wq8, fq8, pbZtgq8⟩ := p_Text_endGroup hn Wq14  tt0 ⟨bg0, e69, by (try dsimp only); omega, by (try dsimp only); omega⟩
        refine wb eq8 ?_
        have e75 := (Zfr.gr fq8 t_a0 (by decide)).trans e68
        have e76 := (Zfr.gi fq8 tt0 (by decide)).trans e69
        have e77 := (Zfr.gi fq8 t_a0 (by decide)).trans e70
        have e78 := (Zfr.gi fq8 t_a0 (by decide)).trans e71
        have e79 := (Zfr.gi fq8 t_a0 (by decide)).trans e72
        have F80 := Zfr.tr F73 fq8 (by decide)
        obtain ⟨bgq8, h0Ztgq8, r0Ztgq8, r1Ztgq8⟩ := pbZtgq8
        obtain ⟨c10, ec10, Wc10, fc10, gc10⟩ := pf_6_8 Wq8 t_a0 (x := 7) (trivial)
        refine wb ec10 ?_
        have e81 := (Zfr.gr fc10 t_a0 (by decide)).trans e75
        have e82 := (Zfr.gi fc10 tt0 (by decide)).trans h0Ztgq8
        have e83 := (Zfr.gi fc10 t_a0 (by decide)).trans e78
        have e84 := (Zfr.gi fc10 t_a0 (by decide)).trans e79
        have F85 := Zfr.tr F80 fc10 (by decide)
        have := li_7
        exact ⟨_, rfl, Wc10, F85, ⟨bt0, bgq8, (7 : Int32), bfa0, bsl0, e81, e82, gc10, e83, e84, tt0, by (try dsimp only); omega, by (try dsimp only); omega, by (try dsimp only); omega, by (try dsimp only); omega, by (try dsimp only); omega⟩⟩
  · have := li_0
    have := i_ge bfa0
    have := i_up bfa0
    have hq1 := i_ne hq1
    exact ⟨_, rfl, W, F0, ⟨bt0, bg0, bs0, bfa0, bsl0, h0Zrs0, h1Zrs0, h2Zrs0, h3Zrs0, h4Zrs0, tt0, by (try dsimp only); omega, by (try dsimp only); omega, by (try dsimp only); omega, by (try dsimp only); omega, by (try dsimp only); omega⟩⟩

abbrev M_Reader_takeHead : List (Nat × Nat) := [(3, 1), (6, 0), (6, 8), (6, 9)]
set_option maxRecDepth 100000 in
set_option maxHeartbeats 400000 in
theorem p_Reader_takeHead {nf : Nat} (hn : 8589934592 ≤ nf) {G : List Nat} {c : Zc} (W : Zwt zty G c) {a0 : Nat} {a1 : Int32}  (t_a0 : G[a0]? = some 6) (hb_Zrd : Zrd G c a0 a1) : ∃ q, f_Reader_takeHead nf a0 a1 c = some q ∧ Zwt zty G q ∧ Zfr G M_Reader_takeHead c q ∧ Zrt G q a0 := by
  have F0 : Zfr G M_Reader_takeHead c c := Zfr.rf
  unfold f_Reader_takeHead
  obtain ⟨bt0, bg0, bs0, bfa0, bsl0, btk0, bat_0, bvl0, bv0, h0Zrd0, h1Zrd0, h2Zrd0, h3Zrd0, h4Zrd0, h5Zrd0, h6Zrd0, h7Zrd0, h8Zrd0, tt0, ttk0, tvl0, r0Zrd0, r1Zrd0, r2Zrd0, r3Zrd0, r4Zrd0, r5Zrd0, r6Zrd0, r7Zrd0, r8Zrd0, r9Zrd0, r10Zrd0⟩ := hb_Zrd
  have J1 : ∃ q, f_Reader_takeHead_107 nf a0 c = some q ∧ Zwt zty G q ∧ Zfr G M_Reader_takeHead c q ∧ Zrt G q a0 := by
    unfold f_Reader_takeHead_107
    obtain ⟨c14, ec14, Wc14, fc14, gc14⟩ := pf_6_8 W t_a0 (x := 3) (trivial)
    refine wb ec14 ?_
    have e2 := (Zfr.gr fc14 t_a0 (by decide)).trans h0Zrd0
    have e3 := (Zfr.gi fc14 tt0 (by decide)).trans h1Zrd0
    have e4 := (Zfr.gi fc14 t_a0 (by decide)).trans h3Zrd0
    have e5 := (Zfr.gi fc14 t_a0 (by decide)).trans h4Zrd0
    have F6 := Zfr.tr F0 fc14 (by decide)
    unfold f_Reader_takeHead_120
    have := li_3
    exact ⟨_, rfl, Wc14, F6, ⟨bt0, bg0, (3 : Int32), bfa0, bsl0, e2, e3, gc14, e4, e5, tt0, by (try dsimp only); omega, by (try dsimp only); omega, by (try dsimp only); omega, by (try dsimp only); omega, by (try dsimp only); omega⟩⟩
  have J12 : ∃ q, f_Reader_takeHead_115 nf a0 c = some q ∧ Zwt zty G q ∧ Zfr G M_Reader_takeHead c q ∧ Zrt G q a0 := by
    unfold f_Reader_takeHead_115
    obtain ⟨w11, ew11⟩ := go_6 W t_a0
    refine wb ew11 ?_
    have := li_2
    obtain ⟨q10, eq10, Wq10, fq10, pbZrfq10⟩ := p_Reader_fail hn W (a1 := 2) t_a0 (by omega) (by omega) ⟨bt0, bg0, bs0, bfa0, bsl0, h0Zrd0, h1Zrd0, h2Zrd0, h3Zrd0, h4Zrd0, tt0, by (try dsimp only); omega, by (try dsimp only); omega, by (try dsimp only); omega, by (try dsimp only); omega⟩
    refine wb eq10 ?_
    have e18 := (Zfr.gr fq10 t_a0 (by decide)).trans h0Zrd0
    have e19 := (Zfr.gi fq10 tt0 (by decide)).trans h1Zrd0
    have e20 := (Zfr.gi fq10 t_a0 (by decide)).trans h2Zrd0
    have e21 := (Zfr.gi fq10 t_a0 (by decide)).trans h4Zrd0
    have F22 := Zfr.tr F0 fq10 (by decide)
    obtain ⟨btq10, bgq10, bsq10, bfaq10, bslq10, h0Zrfq10, h1Zrfq10, h2Zrfq10, h3Zrfq10, h4Zrfq10, ttq10, r0Zrfq10, r1Zrfq10, r2Zrfq10, r3Zrfq10, r4Zrfq10⟩ := pbZrfq10
    unfold f_Reader_takeHead_120
    exact ⟨_, rfl, Wq10, F22, ⟨btq10, bgq10, bsq10, bfaq10, bslq10, h0Zrfq10, h1Zrfq10, h2Zrfq10, h3Zrfq10, h4Zrfq10, ttq10, by (try dsimp only); omega, by (try dsimp only); omega, by (try dsimp only); omega, by (try dsimp only); omega, by (try dsimp only); omega⟩⟩
  have J28 : ∃ q, f_Reader_takeHead_79 nf a0 a1 c = some q ∧ Zwt zty G q ∧ Zfr G M_Reader_takeHead c q ∧ Zrt G q a0 := by
    unfold f_Reader_takeHead_79
    refine wi (fun hq29 => ?_) (fun hq29 => ?_)
    · have := li_10
      have := i_ge a1
      have := i_up a1
      have hq29 := i_eq hq29
      refine wb h2Zrd0 ?_
      refine wi (fun hq30 => ?_) (fun hq30 => ?_)
      · have := li_2
        have := i_ge bs0
        have := i_up bs0
        have hq30 := i_eq hq30
        exact J1
      · have := li_2
        have := i_ge bs0
        have := i_up bs0
        have hq30 := i_ne hq30
        refine wb h2Zrd0 ?_
        refine wi (fun hq31 => ?_) (fun hq31 => ?_)
        · have := li_0
          have hq31 := i_eq hq31
          obtain ⟨v17, ev17, lv17, uv17⟩ := gf_6_6 W t_a0
          refine wb ev17 ?_
          refine wi (fun hq32 => ?_) (fun hq32 => ?_)
          · have hq32 := i_eq hq32
            exact J1
          · have hq32 := i_ne hq32
            exact J12
        · have := li_0
          have hq31 := i_ne hq31
          exact J12
    · have := li_10
      have := i_ge a1
      have := i_up a1
      have hq29 := i_ne hq29
      exact J12
  refine wb h5Zrd0 ?_
  refine wb h7Zrd0 ?_
  refine wb h6Zrd0 ?_
  refine wb h8Zrd0 ?_
  refine wb h2Zrd0 ?_
  refine wi (fun hq33 => ?_) (fun hq33 => ?_)
  · have := li_0
    have := i_ge bs0
    have := i_up bs0
    have hq33 := i_eq hq33
    obtain ⟨v24, ev24, lv24, uv24⟩ := gf_6_6 W t_a0
    refine wb ev24 ?_
    refine wi (fun hq34 => ?_) (fun hq34 => ?_)
    · have hq34 := i_eq hq34
      unfold f_Reader_takeHead_41
      refine wb h2Zrd0 ?_
      refine wi (fun hq35 => ?_) (fun hq35 => ?_)
      · have := li_1
        have hq35 := i_eq hq35
        exfalso
        omega
      · have := li_1
        have hq35 := i_ne hq35
        exact J28
    · have hq34 := i_ne hq34
      refine wi (fun hq36 => ?_) (fun hq36 => ?_)
      · have := li_23
        have := i_ge a1
        have := i_up a1
        have hq36 := i_eq hq36
        obtain ⟨c27, ec27, Wc27, fc27, gc27⟩ := pf_6_8 W t_a0 (x := 1) (trivial)
        refine wb ec27 ?_
        have e37 := (Zfr.gr fc27 t_a0 (by decide)).trans h0Zrd0
        have e38 := (Zfr.gi fc27 tt0 (by decide)).trans h1Zrd0
        have e39 := (Zfr.gi fc27 t_a0 (by decide)).trans h3Zrd0
        have e40 := (Zfr.gi fc27 t_a0 (by decide)).trans h4Zrd0
        have F41 := Zfr.tr F0 fc27 (by decide)
        unfold f_Reader_takeHead_120
        have := li_1
        exact ⟨_, rfl, Wc27, F41, ⟨bt0, bg0, (1 : Int32), bfa0, bsl0, e37, e38, gc27, e39, e40, tt0, by (try dsimp only); omega, by (try dsimp only); omega, by (try dsimp only); omega, by (try dsimp only); omega, by (try dsimp only); omega⟩⟩
      · have := li_23
        have := i_ge a1
        have := i_up a1
        have hq36 := i_ne hq36
        unfold f_Reader_takeHead_41
        refine wb h2Zrd0 ?_
        refine wi (fun hq47 => ?_) (fun hq47 => ?_)
        · have := li_1
          have hq47 := i_eq hq47
          exfalso
          omega
        · have := li_1
          have hq47 := i_ne hq47
          exact J28
  · have := li_0
    have := i_ge bs0
    have := i_up bs0
    have hq33 := i_ne hq33
    unfold f_Reader_takeHead_41
    refine wb h2Zrd0 ?_
    refine wi (fun hq48 => ?_) (fun hq48 => ?_)
    · have := li_1
      have hq48 := i_eq hq48
      refine wi (fun hq49 => ?_) (fun hq49 => ?_)
      · have := li_5
        have := i_ge a1
        have := i_up a1
        have hq49 := i_eq hq49
        have := tkr5 r10Zrd0 (by omega)
        refine wi (fun hq50 => ?_) (fun hq50 => ?_)
        · have := li_8
          have hq50 := i_lt hq50
          exact J28
        · have := li_8
          have hq50 := i_nlt hq50
          refine wb h0Zrd0 ?_
          have := i_sub (a := bv0) (b := 8) (by omega) (by omega)
          obtain ⟨c22, ec22, Wc22, fc22, gc22⟩ := pf_3_1 W tt0 (x := (bv0 - 8)) (rgi (by omega) (by omega))
          refine wb ec22 ?_
          have e51 := (Zfr.gr fc22 t_a0 (by decide)).trans h0Zrd0
          have e52 := (Zfr.gi fc22 tt0 (by decide)).trans h1Zrd0
          have e53 := (Zfr.gi fc22 t_a0 (by decide)).trans h2Zrd0
          have e54 := (Zfr.gi fc22 t_a0 (by decide)).trans h3Zrd0
          have e55 := (Zfr.gi fc22 t_a0 (by decide)).trans h4Zrd0
          have F56 := Zfr.tr F0 fc22 (by decide)
          obtain ⟨c23, ec23, Wc23, fc23, gc23⟩ := pf_6_8 Wc22 t_a0 (x := 2) (trivial)
          refine wb ec23 ?_
          have e57 := (Zfr.gr fc23 t_a0 (by decide)).trans e51
          have e58 := (Zfr.gi fc23 tt0 (by decide)).trans e52
          have e59 := (Zfr.gi fc23 t_a0 (by decide)).trans e54
          have e60 := (Zfr.gi fc23 t_a0 (by decide)).trans e55
          have F61 := Zfr.tr F56 fc23 (by decide)
          unfold f_Reader_takeHead_120
          have := li_2
          exact ⟨_, rfl, Wc23, F61, ⟨bt0, bg0, (2 : Int32), bfa0, bsl0, e57, e58, gc23, e59, e60, tt0, by (try dsimp only); omega, by (try dsimp only); omega, by (try dsimp only); omega, by (try dsimp only); omega, by (try dsimp only); omega⟩⟩
      · have := li_5
        have := i_ge a1
        have := i_up a1
        have hq49 := i_ne hq49
        exact J28
    · have := li_1
      have hq48 := i_ne hq48
      exact J28

abbrev M_Reader_takeInNode : List (Nat × Nat) := [(2, 0), (2, 1), (3, 2), (3, 5), (6, 0), (6, 8), (6, 9), (6, 10), (6, 11), (6, 14), (6, 16), (6, 17), (30, 0), (32, 0), (33, 0), (34, 0), (46, 0)]
set_option maxRecDepth 100000 in
set_option maxHeartbeats 400000 in
theorem p_Reader_takeInNode {nf : Nat} (hn : 8589934592 ≤ nf) {G : List Nat} {c : Zc} (W : Zwt zty G c) {a0 : Nat} {a1 : Int32}  (t_a0 : G[a0]? = some 6) (hb_Zrd : Zrd G c a0 a1) : ∃ q, f_Reader_takeInNode nf a0 a1 c = some q ∧ Zwt zty G q ∧ Zfr G M_Reader_takeInNode c q ∧ Zrt G q a0 := by
  have F0 : Zfr G M_Reader_takeInNode c c := Zfr.rf
  unfold f_Reader_takeInNode
  obtain ⟨bt0, bg0, bs0, bfa0, bsl0, btk0, bat_0, bvl0, bv0, h0Zrd0, h1Zrd0, h2Zrd0, h3Zrd0, h4Zrd0, h5Zrd0, h6Zrd0, h7Zrd0, h8Zrd0, tt0, ttk0, tvl0, r0Zrd0, r1Zrd0, r2Zrd0, r3Zrd0, r4Zrd0, r5Zrd0, r6Zrd0, r7Zrd0, r8Zrd0, r9Zrd0, r10Zrd0⟩ := hb_Zrd
  refine wb h2Zrd0 ?_
  refine wi (fun hq1 => ?_) (fun hq1 => ?_)
  · have := li_3
    have := i_ge bs0
    have := i_up bs0
    have hq1 := i_eq hq1
    refine wi (fun hq2 => ?_) (fun hq2 => ?_)
    · have := li_40
      have := i_ge a1
      have := i_up a1
      have hq2 := i_eq hq2
      refine wb h6Zrd0 ?_
      obtain ⟨c42, ec42, Wc42, fc42, gc42⟩ := pf_6_14 W t_a0 (x := bat_0) (rgi (by omega) (by omega))
      refine wb ec42 ?_
      have e3 := (Zfr.gr fc42 t_a0 (by decide)).trans h0Zrd0
      have e4 := (Zfr.gi fc42 tt0 (by decide)).trans h1Zrd0
      have e5 := (Zfr.gi fc42 t_a0 (by decide)).trans h2Zrd0
      have e6 := (Zfr.gi fc42 t_a0 (by decide)).trans h3Zrd0
      have e7 := (Zfr.gi fc42 t_a0 (by decide)).trans h4Zrd0
      have F8 := Zfr.tr F0 fc42 (by decide)
      have := li_0
      obtain ⟨c43, ec43, Wc43, fc43, gc43⟩ := pf_6_17 Wc42 t_a0 (x := 0) (rgi (by omega) (by omega))
      refine wb ec43 ?_
      have e9 := (Zfr.gr fc43 t_a0 (by decide)).trans e3
      have e10 := (Zfr.gi fc43 tt0 (by decide)).trans e4
      have e11 := (Zfr.gi fc43 t_a0 (by decide)).trans e5
      have e12 := (Zfr.gi fc43 t_a0 (by decide)).trans e6
      have e13 := (Zfr.gi fc43 t_a0 (by decide)).trans e7
      have F14 := Zfr.tr F8 fc43 (by decide)
      obtain ⟨c44, ec44, Wc44, fc44, gc44⟩ := pf_6_8 Wc43 t_a0 (x := 4) (trivial)
      refine wb ec44 ?_
      have e15 := (Zfr.gr fc44 t_a0 (by decide)).trans e9
      have e16 := (Zfr.gi fc44 tt0 (by decide)).trans e10
      have e17 := (Zfr.gi fc44 t_a0 (by decide)).trans e12
      have e18 := (Zfr.gi fc44 t_a0 (by decide)).trans e13
      have F19 := Zfr.tr F14 fc44 (by decide)
      unfold f_Reader_takeInNode_185
      have := li_4
      exact ⟨_, rfl, Wc44, F19, ⟨bt0, bg0, (4 : Int32), bfa0, bsl0, e15, e16, gc44, e17, e18, tt0, by (try dsimp only); omega, by (try dsimp only); omega, by (try dsimp only); omega, by (try dsimp only); omega, by (try dsimp only); omega⟩⟩
    · have := li_40
      have := i_ge a1
      have := i_up a1
      have hq2 := i_ne hq2
      unfold f_Reader_takeInNode_35
      refine wb h2Zrd0 ?_
      refine wi (fun hq25 => ?_) (fun hq25 => ?_)
      · have := li_4
        have hq25 := i_eq hq25
        exfalso
        omega
      · have := li_4
        have hq25 := i_ne hq25
        unfold f_Reader_takeInNode_72
        refine wb h2Zrd0 ?_
        refine wi (fun hq26 => ?_) (fun hq26 => ?_)
        · have := li_6
          have hq26 := i_eq hq26
          exfalso
          omega
        · have := li_6
          have hq26 := i_ne hq26
          unfold f_Reader_takeInNode_117
          refine wb h2Zrd0 ?_
          refine wi (fun hq27 => ?_) (fun hq27 => ?_)
          · have hq27 := i_eq hq27
            exfalso
            omega
          · have hq27 := i_ne hq27
            refine wb h2Zrd0 ?_
            refine wi (fun hq28 => ?_) (fun hq28 => ?_)
            · have := li_5
              have hq28 := i_eq hq28
              exfalso
              omega
            · have := li_5
              have hq28 := i_ne hq28
              unfold f_Reader_takeInNode_180
              obtain ⟨w21, ew21⟩ := go_6 W t_a0
              refine wb ew21 ?_
              have := li_2
              obtain ⟨q20, eq20, Wq20, fq20, pbZrfq20⟩ := p_Reader_fail hn W (a1 := 2) t_a0 (by omega) (by omega) ⟨bt0, bg0, bs0, bfa0, bsl0, h0Zrd0, h1Zrd0, h2Zrd0, h3Zrd0, h4Zrd0, tt0, by (try dsimp only); omega, by (try dsimp only); omega, by (try dsimp only); omega, by (try dsimp only); omega⟩
              refine wb eq20 ?_
              have e34 := (Zfr.gr fq20 t_a0 (by decide)).trans h0Zrd0
              have e35 := (Zfr.gi fq20 tt0 (by decide)).trans h1Zrd0
              have e36 := (Zfr.gi fq20 t_a0 (by decide)).trans h2Zrd0
              have e37 := (Zfr.gi fq20 t_a0 (by decide)).trans h4Zrd0
              have F38 := Zfr.tr F0 fq20 (by decide)
              obtain ⟨btq20, bgq20, bsq20, bfaq20, bslq20, h0Zrfq20, h1Zrfq20, h2Zrfq20, h3Zrfq20, h4Zrfq20, ttq20, r0Zrfq20, r1Zrfq20, r2Zrfq20, r3Zrfq20, r4Zrfq20⟩ := pbZrfq20
              unfold f_Reader_takeInNode_185
              exact ⟨_, rfl, Wq20, F38, ⟨btq20, bgq20, bsq20, bfaq20, bslq20, h0Zrfq20, h1Zrfq20, h2Zrfq20, h3Zrfq20, h4Zrfq20, ttq20, by (try dsimp only); omega, by (try dsimp only); omega, by (try dsimp only); omega, by (try dsimp only); omega, by (try dsimp only); omega⟩⟩
  · have := li_3
    have := i_ge bs0
    have := i_up bs0
    have hq1 := i_ne hq1
    unfold f_Reader_takeInNode_35
    refine wb h2Zrd0 ?_
    refine wi (fun hq44 => ?_) (fun hq44 => ?_)
    · have := li_4
      have hq44 := i_eq hq44
      refine wi (fun hq45 => ?_) (fun hq45 => ?_)
      · have := li_2
        have := i_ge a1
        have := i_up a1
        have hq45 := i_eq hq45
        have := tkr2 r10Zrd0 (by omega)
        refine wb h5Zrd0 ?_
        refine wb h7Zrd0 ?_
        refine wb h6Zrd0 ?_
        refine wb h8Zrd0 ?_
        obtain ⟨w38, ew38⟩ := go_6 W t_a0
        refine wb ew38 ?_
        obtain ⟨q37, eq37, Wq37, fq37, pbZrsq37⟩ := p_Reader_nameNode hn W (a1 := bv0) t_a0 (by omega) (by omega) ⟨bt0, bg0, bs0, bfa0, bsl0, h0Zrd0, h1Zrd0, h2Zrd0, h3Zrd0, h4Zrd0, tt0, by (try dsimp only); omega, by (try dsimp only); omega, by (try dsimp only); omega, by (try dsimp only); omega⟩
        refine wb eq37 ?_
        have e51 := (Zfr.gr fq37 t_a0 (by decide)).trans h0Zrd0
        have e52 := (Zfr.gi fq37 tt0 (by decide)).trans h1Zrd0
        have e53 := (Zfr.gi fq37 t_a0 (by decide)).trans h2Zrd0
        have F54 := Zfr.tr F0 fq37 (by decide)
        obtain ⟨btq37, bgq37, bsq37, bfaq37, bslq37, h0Zrsq37, h1Zrsq37, h2Zrsq37, h3Zrsq37, h4Zrsq37, ttq37, r0Zrsq37, r1Zrsq37, r2Zrsq37, r3Zrsq37, r4Zrsq37⟩ := pbZrsq37
        obtain ⟨c39, ec39, Wc39, fc39, gc39⟩ := pf_6_8 Wq37 t_a0 (x := 5) (trivial)
        refine wb ec39 ?_
        have e55 := (Zfr.gr fc39 t_a0 (by decide)).trans h0Zrsq37
        have e56 := (Zfr.gi fc39 tt0 (by decide)).trans e52
        have e57 := (Zfr.gi fc39 ttq37 (by decide)).trans h1Zrsq37
        have e58 := (Zfr.gi fc39 t_a0 (by decide)).trans h3Zrsq37
        have e59 := (Zfr.gi fc39 t_a0 (by decide)).trans h4Zrsq37
        have F60 := Zfr.tr F54 fc39 (by decide)
        unfold f_Reader_takeInNode_185
        have := li_5
        exact ⟨_, rfl, Wc39, F60, ⟨btq37, bgq37, (5 : Int32), bfaq37, bslq37, e55, e57, gc39, e58, e59, ttq37, by (try dsimp only); omega, by (try dsimp only); omega, by (try dsimp only); omega, by (try dsimp only); omega, by (try dsimp only); omega⟩⟩
      · have := li_2
        have := i_ge a1
        have := i_up a1
        have hq45 := i_ne hq45
        unfold f_Reader_takeInNode_72
        refine wb h2Zrd0 ?_
        refine wi (fun hq66 => ?_) (fun hq66 => ?_)
        · have := li_6
          have hq66 := i_eq hq66
          exfalso
          omega
        · have := li_6
          have hq66 := i_ne hq66
          unfold f_Reader_takeInNode_117
          refine wb h2Zrd0 ?_
          refine wi (fun hq67 => ?_) (fun hq67 => ?_)
          · have hq67 := i_eq hq67
            unfold f_Reader_takeInNode_133
            refine wi (fun hq68 => ?_) (fun hq68 => ?_)
            · have := li_58
              have hq68 := i_eq hq68
              unfold f_Reader_takeInNode_145
              refine wb h2Zrd0 ?_
              refine wi (fun hq69 => ?_) (fun hq69 => ?_)
              · have hq69 := i_eq hq69
                obtain ⟨v16, ev16, lv16, uv16⟩ := gf_6_14 W t_a0
                refine wb ev16 ?_
                obtain ⟨w18, ew18⟩ := go_6 W t_a0
                refine wb ew18 ?_
                obtain ⟨q17, eq17, Wq17, fq17, pbZrsq17⟩ := p_Reader_tellNode hn W (a1 := v16) t_a0 (by omega) (by omega) ⟨bt0, bg0, bs0, bfa0, bsl0, h0Zrd0, h1Zrd0, h2Zrd0, h3Zrd0, h4Zrd0, tt0, by (try dsimp only); omega, by (try dsimp only); omega, by (try dsimp only); omega, by (try dsimp only); omega⟩
                refine wb eq17 ?_
                have e75 := (Zfr.gr fq17 t_a0 (by decide)).trans h0Zrd0
                have e76 := (Zfr.gi fq17 tt0 (by decide)).trans h1Zrd0
                have e77 := (Zfr.gi fq17 t_a0 (by decide)).trans h2Zrd0
                have F78 := Zfr.tr F0 fq17 (by decide)
                obtain ⟨btq17, bgq17, bsq17, bfaq17, bslq17, h0Zrsq17, h1Zrsq17, h2Zrsq17, h3Zrsq17, h4Zrsq17, ttq17, r0Zrsq17, r1Zrsq17, r2Zrsq17, r3Zrsq17, r4Zrsq17⟩ := pbZrsq17
                unfold f_Reader_takeInNode_161
                obtain ⟨c12, ec12, Wc12, fc12, gc12⟩ := pf_6_8 Wq17 t_a0 (x := 6) (trivial)
                refine wb ec12 ?_
                have e79 := (Zfr.gr fc12 t_a0 (by decide)).trans h0Zrsq17
                have e80 := (Zfr.gi fc12 tt0 (by decide)).trans e76
                have e81 := (Zfr.gi fc12 ttq17 (by decide)).trans h1Zrsq17
                have e82 := (Zfr.gi fc12 t_a0 (by decide)).trans h3Zrsq17
                have e83 := (Zfr.gi fc12 t_a0 (by decide)).trans h4Zrsq17
                have F84 := Zfr.tr F78 fc12 (by decide)
                refine wi (fun hq85 => ?_) (fun hq85 => ?_)
                · have := li_41
                  have hq85 := i_eq hq85
                  exfalso
                  omega
                · have := li_41
                  have hq85 := i_ne hq85
                  unfold f_Reader_takeInNode_185
                  exact ⟨_, rfl, Wc12, F84, ⟨btq17, bgq17, (6 : Int32), bfaq17, bslq17, e79, e81, gc12, e82, e83, ttq17, by (try dsimp only); omega, by (try dsimp only); omega, by (try dsimp only); omega, by (try dsimp only); omega, by (try dsimp only); omega⟩⟩
              · have hq69 := i_ne hq69
                exfalso
                omega
            · have := li_58
              have hq68 := i_ne hq68
              refine wi (fun hq91 => ?_) (fun hq91 => ?_)
              · have := li_41
                have hq91 := i_eq hq91
                unfold f_Reader_takeInNode_145
                refine wb h2Zrd0 ?_
                refine wi (fun hq92 => ?_) (fun hq92 => ?_)
                · have hq92 := i_eq hq92
                  obtain ⟨v16, ev16, lv16, uv16⟩ := gf_6_14 W t_a0
                  refine wb ev16 ?_
                  obtain ⟨w18, ew18⟩ := go_6 W t_a0
                  refine wb ew18 ?_
                  obtain ⟨q17, eq17, Wq17, fq17, pbZrsq17⟩ := p_Reader_tellNode hn W (a1 := v16) t_a0 (by omega) (by omega) ⟨bt0, bg0, bs0, bfa0, bsl0, h0Zrd0, h1Zrd0, h2Zrd0, h3Zrd0, h4Zrd0, tt0, by (try dsimp only); omega, by (try dsimp only); omega, by (try dsimp only); omega, by (try dsimp only); omega⟩
                  refine wb eq17 ?_
                  have e98 := (Zfr.gr fq17 t_a0 (by decide)).trans h0Zrd0
                  have e99 := (Zfr.gi fq17 tt0 (by decide)).trans h1Zrd0
                  have e100 := (Zfr.gi fq17 t_a0 (by decide)).trans h2Zrd0
                  have F101 := Zfr.tr F0 fq17 (by decide)
                  obtain ⟨btq17, bgq17, bsq17, bfaq17, bslq17, h0Zrsq17, h1Zrsq17, h2Zrsq17, h3Zrsq17, h4Zrsq17, ttq17, r0Zrsq17, r1Zrsq17, r2Zrsq17, r3Zrsq17, r4Zrsq17⟩ := pbZrsq17
                  unfold f_Reader_takeInNode_161
                  obtain ⟨c12, ec12, Wc12, fc12, gc12⟩ := pf_6_8 Wq17 t_a0 (x := 6) (trivial)
                  refine wb ec12 ?_
                  have e102 := (Zfr.gr fc12 t_a0 (by decide)).trans h0Zrsq17
                  have e103 := (Zfr.gi fc12 tt0 (by decide)).trans e99
                  have e104 := (Zfr.gi fc12 ttq17 (by decide)).trans h1Zrsq17
                  have e105 := (Zfr.gi fc12 t_a0 (by decide)).trans h3Zrsq17
                  have e106 := (Zfr.gi fc12 t_a0 (by decide)).trans h4Zrsq17
                  have F107 := Zfr.tr F101 fc12 (by decide)
                  refine wi (fun hq108 => ?_) (fun hq108 => ?_)
                  · have hq108 := i_eq hq108
                    obtain ⟨w15, ew15⟩ := go_6 Wc12 t_a0
                    refine wb ew15 ?_
                    obtain ⟨q14, eq14, Wq14, fq14, pbZrtq14⟩ := p_Reader_closeNode hn Wc12  t_a0 ⟨btq17, bgq17, (6 : Int32), bfaq17, bslq17, e102, e104, gc12, e105, e106, ttq17, by (try dsimp only); omega, by (try dsimp only); omega, by (try dsimp only); omega, by (try dsimp only); omega, by (try dsimp only); omega⟩
                    refine wb eq14 ?_
                    have e114 := (Zfr.gr fq14 t_a0 (by decide)).trans e102
                    have e115 := (Zfr.gi fq14 tt0 (by decide)).trans e103
                    have e116 := (Zfr.gi fq14 ttq17 (by decide)).trans e104
                    have e117 := (Zfr.gi fq14 t_a0 (by decide)).trans e105
                    have e118 := (Zfr.gi fq14 t_a0 (by decide)).trans e106
                    have F119 := Zfr.tr F107 fq14 (by decide)
                    obtain ⟨btq14, bgq14, bsq14, bfaq14, bslq14, h0Zrtq14, h1Zrtq14, h2Zrtq14, h3Zrtq14, h4Zrtq14, ttq14, r0Zrtq14, r1Zrtq14, r2Zrtq14, r3Zrtq14, r4Zrtq14⟩ := pbZrtq14
                    unfold f_Reader_takeInNode_185
                    exact ⟨_, rfl, Wq14, F119, ⟨btq14, bgq14, bsq14, bfaq14, bslq14, h0Zrtq14, h1Zrtq14, h2Zrtq14, h3Zrtq14, h4Zrtq14, ttq14, by (try dsimp only); omega, by (try dsimp only); omega, by (try dsimp only); omega, by (try dsimp only); omega, by (try dsimp only); omega⟩⟩
                  · have hq108 := i_ne hq108
                    exfalso
                    omega
                · have hq92 := i_ne hq92
                  exfalso
                  omega
              · have := li_41
                have hq91 := i_ne hq91
                unfold f_Reader_takeInNode_180
                obtain ⟨w21, ew21⟩ := go_6 W t_a0
                refine wb ew21 ?_
                obtain ⟨q20, eq20, Wq20, fq20, pbZrfq20⟩ := p_Reader_fail hn W (a1 := 2) t_a0 (by omega) (by omega) ⟨bt0, bg0, bs0, bfa0, bsl0, h0Zrd0, h1Zrd0, h2Zrd0, h3Zrd0, h4Zrd0, tt0, by (try dsimp only); omega, by (try dsimp only); omega, by (try dsimp only); omega, by (try dsimp only); omega⟩
                refine wb eq20 ?_
                have e130 := (Zfr.gr fq20 t_a0 (by decide)).trans h0Zrd0
                have e131 := (Zfr.gi fq20 tt0 (by decide)).trans h1Zrd0
                have e132 := (Zfr.gi fq20 t_a0 (by decide)).trans h2Zrd0
                have e133 := (Zfr.gi fq20 t_a0 (by decide)).trans h4Zrd0
                have F134 := Zfr.tr F0 fq20 (by decide)
                obtain ⟨btq20, bgq20, bsq20, bfaq20, bslq20, h0Zrfq20, h1Zrfq20, h2Zrfq20, h3Zrfq20, h4Zrfq20, ttq20, r0Zrfq20, r1Zrfq20, r2Zrfq20, r3Zrfq20, r4Zrfq20⟩ := pbZrfq20
                unfold f_Reader_takeInNode_185
                exact ⟨_, rfl, Wq20, F134, ⟨btq20, bgq20, bsq20, bfaq20, bslq20, h0Zrfq20, h1Zrfq20, h2Zrfq20, h3Zrfq20, h4Zrfq20, ttq20, by (try dsimp only); omega, by (try dsimp only); omega, by (try dsimp only); omega, by (try dsimp only); omega, by (try dsimp only); omega⟩⟩
          · have hq67 := i_ne hq67
            exfalso
            omega
    · have := li_4
      have hq44 := i_ne hq44
      unfold f_Reader_takeInNode_72
      refine wb h2Zrd0 ?_
      refine wi (fun hq140 => ?_) (fun hq140 => ?_)
      · have := li_6
        have hq140 := i_eq hq140
        refine wi (fun hq141 => ?_) (fun hq141 => ?_)
        · have := i_ge a1
          have := i_up a1
          have hq141 := i_eq hq141
          have := tkr3 r10Zrd0 (by omega)
          obtain ⟨v25, ev25, lv25, uv25⟩ := gf_6_17 W t_a0
          refine wb ev25 ?_
          refine wb h5Zrd0 ?_
          refine wb h7Zrd0 ?_
          refine wb h6Zrd0 ?_
          refine wb h8Zrd0 ?_
          have := li_1
          have := i_shl7 (b := bv0) (by omega) (by omega)
          have := i_or (a := v25) (b := ((1 : Int32) <<< (bv0 &&& 31))) 8 (by decide) (by omega) (by omega) (by omega) (by omega)
          obtain ⟨c30, ec30, Wc30, fc30, gc30⟩ := pf_6_17 W t_a0 (x := (v25 ||| ((1 : Int32) <<< (bv0 &&& 31)))) (rgi (by omega) (by omega))
          refine wb ec30 ?_
          have e142 := (Zfr.gr fc30 t_a0 (by decide)).trans h0Zrd0
          have e143 := (Zfr.gi fc30 tt0 (by decide)).trans h1Zrd0
          have e144 := (Zfr.gi fc30 t_a0 (by decide)).trans h2Zrd0
          have e145 := (Zfr.gi fc30 t_a0 (by decide)).trans h3Zrd0
          have e146 := (Zfr.gi fc30 t_a0 (by decide)).trans h4Zrd0
          have F147 := Zfr.tr F0 fc30 (by decide)
          obtain ⟨c31, ec31, Wc31, fc31, gc31⟩ := pf_6_8 Wc30 t_a0 (x := 5) (trivial)
          refine wb ec31 ?_
          have e148 := (Zfr.gr fc31 t_a0 (by decide)).trans e142
          have e149 := (Zfr.gi fc31 tt0 (by decide)).trans e143
          have e150 := (Zfr.gi fc31 t_a0 (by decide)).trans e145
          have e151 := (Zfr.gi fc31 t_a0 (by decide)).trans e146
          have F152 := Zfr.tr F147 fc31 (by decide)
          unfold f_Reader_takeInNode_185
          have := li_5
          exact ⟨_, rfl, Wc31, F152, ⟨bt0, bg0, (5 : Int32), bfa0, bsl0, e148, e149, gc31, e150, e151, tt0, by (try dsimp only); omega, by (try dsimp only); omega, by (try dsimp only); omega, by (try dsimp only); omega, by (try dsimp only); omega⟩⟩
        · have := i_ge a1
          have := i_up a1
          have hq141 := i_ne hq141
          unfold f_Reader_takeInNode_117
          refine wb h2Zrd0 ?_
          refine wi (fun hq158 => ?_) (fun hq158 => ?_)
          · have hq158 := i_eq hq158
            exfalso
            omega
          · have hq158 := i_ne hq158
            refine wb h2Zrd0 ?_
            refine wi (fun hq159 => ?_) (fun hq159 => ?_)
            · have := li_5
              have hq159 := i_eq hq159
              exfalso
              omega
            · have := li_5
              have hq159 := i_ne hq159
              unfold f_Reader_takeInNode_180
              obtain ⟨w21, ew21⟩ := go_6 W t_a0
              refine wb ew21 ?_
              have := li_2
              obtain ⟨q20, eq20, Wq20, fq20, pbZrfq20⟩ := p_Reader_fail hn W (a1 := 2) t_a0 (by omega) (by omega) ⟨bt0, bg0, bs0, bfa0, bsl0, h0Zrd0, h1Zrd0, h2Zrd0, h3Zrd0, h4Zrd0, tt0, by (try dsimp only); omega, by (try dsimp only); omega, by (try dsimp only); omega, by (try dsimp only); omega⟩
              refine wb eq20 ?_
              have e165 := (Zfr.gr fq20 t_a0 (by decide)).trans h0Zrd0
              have e166 := (Zfr.gi fq20 tt0 (by decide)).trans h1Zrd0
              have e167 := (Zfr.gi fq20 t_a0 (by decide)).trans h2Zrd0
              have e168 := (Zfr.gi fq20 t_a0 (by decide)).trans h4Zrd0
              have F169 := Zfr.tr F0 fq20 (by decide)
              obtain ⟨btq20, bgq20, bsq20, bfaq20, bslq20, h0Zrfq20, h1Zrfq20, h2Zrfq20, h3Zrfq20, h4Zrfq20, ttq20, r0Zrfq20, r1Zrfq20, r2Zrfq20, r3Zrfq20, r4Zrfq20⟩ := pbZrfq20
              unfold f_Reader_takeInNode_185
              exact ⟨_, rfl, Wq20, F169, ⟨btq20, bgq20, bsq20, bfaq20, bslq20, h0Zrfq20, h1Zrfq20, h2Zrfq20, h3Zrfq20, h4Zrfq20, ttq20, by (try dsimp only); omega, by (try dsimp only); omega, by (try dsimp only); omega, by (try dsimp only); omega, by (try dsimp only); omega⟩⟩
      · have := li_6
        have hq140 := i_ne hq140
        unfold f_Reader_takeInNode_117
        refine wb h2Zrd0 ?_
        refine wi (fun hq175 => ?_) (fun hq175 => ?_)
        · have hq175 := i_eq hq175
          unfold f_Reader_takeInNode_133
          refine wi (fun hq176 => ?_) (fun hq176 => ?_)
          · have := li_58
            have := i_ge a1
            have := i_up a1
            have hq176 := i_eq hq176
            unfold f_Reader_takeInNode_145
            refine wb h2Zrd0 ?_
            refine wi (fun hq177 => ?_) (fun hq177 => ?_)
            · have hq177 := i_eq hq177
              obtain ⟨v16, ev16, lv16, uv16⟩ := gf_6_14 W t_a0
              refine wb ev16 ?_
              obtain ⟨w18, ew18⟩ := go_6 W t_a0
              refine wb ew18 ?_
              obtain ⟨q17, eq17, Wq17, fq17, pbZrsq17⟩ := p_Reader_tellNode hn W (a1 := v16) t_a0 (by omega) (by omega) ⟨bt0, bg0, bs0, bfa0, bsl0, h0Zrd0, h1Zrd0, h2Zrd0, h3Zrd0, h4Zrd0, tt0, by (try dsimp only); omega, by (try dsimp only); omega, by (try dsimp only); omega, by (try dsimp only); omega⟩
              refine wb eq17 ?_
              have e183 := (Zfr.gr fq17 t_a0 (by decide)).trans h0Zrd0
              have e184 := (Zfr.gi fq17 tt0 (by decide)).trans h1Zrd0
              have e185 := (Zfr.gi fq17 t_a0 (by decide)).trans h2Zrd0
              have F186 := Zfr.tr F0 fq17 (by decide)
              obtain ⟨btq17, bgq17, bsq17, bfaq17, bslq17, h0Zrsq17, h1Zrsq17, h2Zrsq17, h3Zrsq17, h4Zrsq17, ttq17, r0Zrsq17, r1Zrsq17, r2Zrsq17, r3Zrsq17, r4Zrsq17⟩ := pbZrsq17
              unfold f_Reader_takeInNode_161
              obtain ⟨c12, ec12, Wc12, fc12, gc12⟩ := pf_6_8 Wq17 t_a0 (x := 6) (trivial)
              refine wb ec12 ?_
              have e187 := (Zfr.gr fc12 t_a0 (by decide)).trans h0Zrsq17
              have e188 := (Zfr.gi fc12 tt0 (by decide)).trans e184
              have e189 := (Zfr.gi fc12 ttq17 (by decide)).trans h1Zrsq17
              have e190 := (Zfr.gi fc12 t_a0 (by decide)).trans h3Zrsq17
              have e191 := (Zfr.gi fc12 t_a0 (by decide)).trans h4Zrsq17
              have F192 := Zfr.tr F186 fc12 (by decide)
              refine wi (fun hq193 => ?_) (fun hq193 => ?_)
              · have := li_41
                have hq193 := i_eq hq193
                exfalso
                omega
              · have := li_41
                have hq193 := i_ne hq193
                unfold f_Reader_takeInNode_185
                exact ⟨_, rfl, Wc12, F192, ⟨btq17, bgq17, (6 : Int32), bfaq17, bslq17, e187, e189, gc12, e190, e191, ttq17, by (try dsimp only); omega, by (try dsimp only); omega, by (try dsimp only); omega, by (try dsimp only); omega, by (try dsimp only); omega⟩⟩
            · have hq177 := i_ne hq177
              exfalso
              omega
          · have := li_58
            have := i_ge a1
            have := i_up a1
            have hq176 := i_ne hq176
            refine wi (fun hq199 => ?_) (fun hq199 => ?_)
            · have := li_41
              have hq199 := i_eq hq199
              unfold f_Reader_takeInNode_145
              refine wb h2Zrd0 ?_
              refine wi (fun hq200 => ?_) (fun hq200 => ?_)
              · have hq200 := i_eq hq200
                obtain ⟨v16, ev16, lv16, uv16⟩ := gf_6_14 W t_a0
                refine wb ev16 ?_
                obtain ⟨w18, ew18⟩ := go_6 W t_a0
                refine wb ew18 ?_
                obtain ⟨q17, eq17, Wq17, fq17, pbZrsq17⟩ := p_Reader_tellNode hn W (a1 := v16) t_a0 (by omega) (by omega) ⟨bt0, bg0, bs0, bfa0, bsl0, h0Zrd0, h1Zrd0, h2Zrd0, h3Zrd0, h4Zrd0, tt0, by (try dsimp only); omega, by (try dsimp only); omega, by (try dsimp only); omega, by (try dsimp only); omega⟩
                refine wb eq17 ?_
                have e206 := (Zfr.gr fq17 t_a0 (by decide)).trans h0Zrd0
                have e207 := (Zfr.gi fq17 tt0 (by decide)).trans h1Zrd0
                have e208 := (Zfr.gi fq17 t_a0 (by decide)).trans h2Zrd0
                have F209 := Zfr.tr F0 fq17 (by decide)
                obtain ⟨btq17, bgq17, bsq17, bfaq17, bslq17, h0Zrsq17, h1Zrsq17, h2Zrsq17, h3Zrsq17, h4Zrsq17, ttq17, r0Zrsq17, r1Zrsq17, r2Zrsq17, r3Zrsq17, r4Zrsq17⟩ := pbZrsq17
                unfold f_Reader_takeInNode_161
                obtain ⟨c12, ec12, Wc12, fc12, gc12⟩ := pf_6_8 Wq17 t_a0 (x := 6) (trivial)
                refine wb ec12 ?_
                have e210 := (Zfr.gr fc12 t_a0 (by decide)).trans h0Zrsq17
                have e211 := (Zfr.gi fc12 tt0 (by decide)).trans e207
                have e212 := (Zfr.gi fc12 ttq17 (by decide)).trans h1Zrsq17
                have e213 := (Zfr.gi fc12 t_a0 (by decide)).trans h3Zrsq17
                have e214 := (Zfr.gi fc12 t_a0 (by decide)).trans h4Zrsq17
                have F215 := Zfr.tr F209 fc12 (by decide)
                refine wi (fun hq216 => ?_) (fun hq216 => ?_)
                · have hq216 := i_eq hq216
                  obtain ⟨w15, ew15⟩ := go_6 Wc12 t_a0
                  refine wb ew15 ?_
                  obtain ⟨q14, eq14, Wq14, fq14, pbZrtq14⟩ := p_Reader_closeNode hn Wc12  t_a0 ⟨btq17, bgq17, (6 : Int32), bfaq17, bslq17, e210, e212, gc12, e213, e214, ttq17, by (try dsimp only); omega, by (try dsimp only); omega, by (try dsimp only); omega, by (try dsimp only); omega, by (try dsimp only); omega⟩
                  refine wb eq14 ?_
                  have e222 := (Zfr.gr fq14 t_a0 (by decide)).trans e210
                  have e223 := (Zfr.gi fq14 tt0 (by decide)).trans e211
                  have e224 := (Zfr.gi fq14 ttq17 (by decide)).trans e212
                  have e225 := (Zfr.gi fq14 t_a0 (by decide)).trans e213
                  have e226 := (Zfr.gi fq14 t_a0 (by decide)).trans e214
                  have F227 := Zfr.tr F215 fq14 (by decide)
                  obtain ⟨btq14, bgq14, bsq14, bfaq14, bslq14, h0Zrtq14, h1Zrtq14, h2Zrtq14, h3Zrtq14, h4Zrtq14, ttq14, r0Zrtq14, r1Zrtq14, r2Zrtq14, r3Zrtq14, r4Zrtq14⟩ := pbZrtq14
                  unfold f_Reader_takeInNode_185
                  exact ⟨_, rfl, Wq14, F227, ⟨btq14, bgq14, bsq14, bfaq14, bslq14, h0Zrtq14, h1Zrtq14, h2Zrtq14, h3Zrtq14, h4Zrtq14, ttq14, by (try dsimp only); omega, by (try dsimp only); omega, by (try dsimp only); omega, by (try dsimp only); omega, by (try dsimp only); omega⟩⟩
                · have hq216 := i_ne hq216
                  exfalso
                  omega
              · have hq200 := i_ne hq200
                exfalso
                omega
            · have := li_41
              have hq199 := i_ne hq199
              unfold f_Reader_takeInNode_180
              obtain ⟨w21, ew21⟩ := go_6 W t_a0
              refine wb ew21 ?_
              have := li_2
              obtain ⟨q20, eq20, Wq20, fq20, pbZrfq20⟩ := p_Reader_fail hn W (a1 := 2) t_a0 (by omega) (by omega) ⟨bt0, bg0, bs0, bfa0, bsl0, h0Zrd0, h1Zrd0, h2Zrd0, h3Zrd0, h4Zrd0, tt0, by (try dsimp only); omega, by (try dsimp only); omega, by (try dsimp only); omega, by (try dsimp only); omega⟩
              refine wb eq20 ?_
              have e238 := (Zfr.gr fq20 t_a0 (by decide)).trans h0Zrd0
              have e239 := (Zfr.gi fq20 tt0 (by decide)).trans h1Zrd0
              have e240 := (Zfr.gi fq20 t_a0 (by decide)).trans h2Zrd0
              have e241 := (Zfr.gi fq20 t_a0 (by decide)).trans h4Zrd0
              have F242 := Zfr.tr F0 fq20 (by decide)
              obtain ⟨btq20, bgq20, bsq20, bfaq20, bslq20, h0Zrfq20, h1Zrfq20, h2Zrfq20, h3Zrfq20, h4Zrfq20, ttq20, r0Zrfq20, r1Zrfq20, r2Zrfq20, r3Zrfq20, r4Zrfq20⟩ := pbZrfq20
              unfold f_Reader_takeInNode_185
              exact ⟨_, rfl, Wq20, F242, ⟨btq20, bgq20, bsq20, bfaq20, bslq20, h0Zrfq20, h1Zrfq20, h2Zrfq20, h3Zrfq20, h4Zrfq20, ttq20, by (try dsimp only); omega, by (try dsimp only); omega, by (try dsimp only); omega, by (try dsimp only); omega, by (try dsimp only); omega⟩⟩
        · have hq175 := i_ne hq175
          refine wb h2Zrd0 ?_
          refine wi (fun hq248 => ?_) (fun hq248 => ?_)
          · have := li_5
            have hq248 := i_eq hq248
            unfold f_Reader_takeInNode_133
            refine wi (fun hq249 => ?_) (fun hq249 => ?_)
            · have := li_58
              have := i_ge a1
              have := i_up a1
              have hq249 := i_eq hq249
              unfold f_Reader_takeInNode_145
              refine wb h2Zrd0 ?_
              refine wi (fun hq250 => ?_) (fun hq250 => ?_)
              · have hq250 := i_eq hq250
                exfalso
                omega
              · have hq250 := i_ne hq250
                unfold f_Reader_takeInNode_161
                obtain ⟨c12, ec12, Wc12, fc12, gc12⟩ := pf_6_8 W t_a0 (x := 6) (trivial)
                refine wb ec12 ?_
                have e251 := (Zfr.gr fc12 t_a0 (by decide)).trans h0Zrd0
                have e252 := (Zfr.gi fc12 tt0 (by decide)).trans h1Zrd0
                have e253 := (Zfr.gi fc12 t_a0 (by decide)).trans h3Zrd0
                have e254 := (Zfr.gi fc12 t_a0 (by decide)).trans h4Zrd0
                have F255 := Zfr.tr F0 fc12 (by decide)
                refine wi (fun hq256 => ?_) (fun hq256 => ?_)
                · have := li_41
                  have hq256 := i_eq hq256
                  exfalso
                  omega
                · have := li_41
                  have hq256 := i_ne hq256
                  unfold f_Reader_takeInNode_185
                  exact ⟨_, rfl, Wc12, F255, ⟨bt0, bg0, (6 : Int32), bfa0, bsl0, e251, e252, gc12, e253, e254, tt0, by (try dsimp only); omega, by (try dsimp only); omega, by (try dsimp only); omega, by (try dsimp only); omega, by (try dsimp only); omega⟩⟩
            · have := li_58
              have := i_ge a1
              have := i_up a1
              have hq249 := i_ne hq249
              refine wi (fun hq262 => ?_) (fun hq262 => ?_)
              · have := li_41
                have hq262 := i_eq hq262
                unfold f_Reader_takeInNode_145
                refine wb h2Zrd0 ?_
                refine wi (fun hq263 => ?_) (fun hq263 => ?_)
                · have hq263 := i_eq hq263
                  exfalso
                  omega
                · have hq263 := i_ne hq263
                  unfold f_Reader_takeInNode_161
                  obtain ⟨c12, ec12, Wc12, fc12, gc12⟩ := pf_6_8 W t_a0 (x := 6) (trivial)
                  refine wb ec12 ?_
                  have e264 := (Zfr.gr fc12 t_a0 (by decide)).trans h0Zrd0
                  have e265 := (Zfr.gi fc12 tt0 (by decide)).trans h1Zrd0
                  have e266 := (Zfr.gi fc12 t_a0 (by decide)).trans h3Zrd0
                  have e267 := (Zfr.gi fc12 t_a0 (by decide)).trans h4Zrd0
                  have F268 := Zfr.tr F0 fc12 (by decide)
                  refine wi (fun hq269 => ?_) (fun hq269 => ?_)
                  · have hq269 := i_eq hq269
                    obtain ⟨w15, ew15⟩ := go_6 Wc12 t_a0
                    refine wb ew15 ?_
                    obtain ⟨q14, eq14, Wq14, fq14, pbZrtq14⟩ := p_Reader_closeNode hn Wc12  t_a0 ⟨bt0, bg0, (6 : Int32), bfa0, bsl0, e264, e265, gc12, e266, e267, tt0, by (try dsimp only); omega, by (try dsimp only); omega, by (try dsimp only); omega, by (try dsimp only); omega, by (try dsimp only); omega⟩
                    refine wb eq14 ?_
                    have e275 := (Zfr.gr fq14 t_a0 (by decide)).trans e264
                    have e276 := (Zfr.gi fq14 tt0 (by decide)).trans e265
                    have e277 := (Zfr.gi fq14 t_a0 (by decide)).trans e266
                    have e278 := (Zfr.gi fq14 t_a0 (by decide)).trans e267
                    have F279 := Zfr.tr F268 fq14 (by decide)
                    obtain ⟨btq14, bgq14, bsq14, bfaq14, bslq14, h0Zrtq14, h1Zrtq14, h2Zrtq14, h3Zrtq14, h4Zrtq14, ttq14, r0Zrtq14, r1Zrtq14, r2Zrtq14, r3Zrtq14, r4Zrtq14⟩ := pbZrtq14
                    unfold f_Reader_takeInNode_185
                    exact ⟨_, rfl, Wq14, F279, ⟨btq14, bgq14, bsq14, bfaq14, bslq14, h0Zrtq14, h1Zrtq14, h2Zrtq14, h3Zrtq14, h4Zrtq14, ttq14, by (try dsimp only); omega, by (try dsimp only); omega, by (try dsimp only); omega, by (try dsimp only); omega, by (try dsimp only); omega⟩⟩
                  · have hq269 := i_ne hq269
                    exfalso
                    omega
              · have := li_41
                have hq262 := i_ne hq262
                unfold f_Reader_takeInNode_180
                obtain ⟨w21, ew21⟩ := go_6 W t_a0
                refine wb ew21 ?_
                have := li_2
                obtain ⟨q20, eq20, Wq20, fq20, pbZrfq20⟩ := p_Reader_fail hn W (a1 := 2) t_a0 (by omega) (by omega) ⟨bt0, bg0, bs0, bfa0, bsl0, h0Zrd0, h1Zrd0, h2Zrd0, h3Zrd0, h4Zrd0, tt0, by (try dsimp only); omega, by (try dsimp only); omega, by (try dsimp only); omega, by (try dsimp only); omega⟩
                refine wb eq20 ?_
                have e290 := (Zfr.gr fq20 t_a0 (by decide)).trans h0Zrd0
                have e291 := (Zfr.gi fq20 tt0 (by decide)).trans h1Zrd0
                have e292 := (Zfr.gi fq20 t_a0 (by decide)).trans h2Zrd0
                have e293 := (Zfr.gi fq20 t_a0 (by decide)).trans h4Zrd0
                have F294 := Zfr.tr F0 fq20 (by decide)
                obtain ⟨btq20, bgq20, bsq20, bfaq20, bslq20, h0Zrfq20, h1Zrfq20, h2Zrfq20, h3Zrfq20, h4Zrfq20, ttq20, r0Zrfq20, r1Zrfq20, r2Zrfq20, r3Zrfq20, r4Zrfq20⟩ := pbZrfq20
                unfold f_Reader_takeInNode_185
                exact ⟨_, rfl, Wq20, F294, ⟨btq20, bgq20, bsq20, bfaq20, bslq20, h0Zrfq20, h1Zrfq20, h2Zrfq20, h3Zrfq20, h4Zrfq20, ttq20, by (try dsimp only); omega, by (try dsimp only); omega, by (try dsimp only); omega, by (try dsimp only); omega, by (try dsimp only); omega⟩⟩
          · have := li_5
            have hq248 := i_ne hq248
            unfold f_Reader_takeInNode_180
            obtain ⟨w21, ew21⟩ := go_6 W t_a0
            refine wb ew21 ?_
            have := li_2
            obtain ⟨q20, eq20, Wq20, fq20, pbZrfq20⟩ := p_Reader_fail hn W (a1 := 2) t_a0 (by omega) (by omega) ⟨bt0, bg0, bs0, bfa0, bsl0, h0Zrd0, h1Zrd0, h2Zrd0, h3Zrd0, h4Zrd0, tt0, by (try dsimp only); omega, by (try dsimp only); omega, by (try dsimp only); omega, by (try dsimp only); omega⟩
            refine wb eq20 ?_
            have e305 := (Zfr.gr fq20 t_a0 (by decide)).trans h0Zrd0
            have e306 := (Zfr.gi fq20 tt0 (by decide)).trans h1Zrd0
            have e307 := (Zfr.gi fq20 t_a0 (by decide)).trans h2Zrd0
            have e308 := (Zfr.gi fq20 t_a0 (by decide)).trans h4Zrd0
            have F309 := Zfr.tr F0 fq20 (by decide)
            obtain ⟨btq20, bgq20, bsq20, bfaq20, bslq20, h0Zrfq20, h1Zrfq20, h2Zrfq20, h3Zrfq20, h4Zrfq20, ttq20, r0Zrfq20, r1Zrfq20, r2Zrfq20, r3Zrfq20, r4Zrfq20⟩ := pbZrfq20
            unfold f_Reader_takeInNode_185
            exact ⟨_, rfl, Wq20, F309, ⟨btq20, bgq20, bsq20, bfaq20, bslq20, h0Zrfq20, h1Zrfq20, h2Zrfq20, h3Zrfq20, h4Zrfq20, ttq20, by (try dsimp only); omega, by (try dsimp only); omega, by (try dsimp only); omega, by (try dsimp only); omega, by (try dsimp only); omega⟩⟩

end ZzT
