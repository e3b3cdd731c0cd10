section ZzT
abbrev M_Tokens_nameKind : List (Nat × Nat) := [(39, 0)]
set_option maxRecDepth 100000 in
set_option maxHeartbeats 400000 in
theorem p_Tokens_nameKind {nf : Nat} (hn : 8589934592 ≤ nf) {G : List Nat} {c : Zc} (W : Zwt zty G c) {a0 : Nat} {a1 : Int32} {a2 : Int32}  (t_a0 : G[a0]? = some 4) (pl_a1 : 0 ≤ a1.toInt) (pu_a1 : a1.toInt ≤ 1499) (pl_a2 : 1 ≤ a2.toInt) (pu_a2 : a2.toInt ≤ 1500) (pp_2 : a1.toInt < a2.toInt) (hb_Zkt : Zkt G c a0) : ∃ q, f_Tokens_nameKind nf a0 a1 a2 c = some q ∧ Zwt zty G q.2 ∧ Zfr G M_Tokens_nameKind c q.2 ∧ Zkv G q.2 a0 q.1 := by
  have F0 : Zfr G M_Tokens_nameKind c c := Zfr.rf
  unfold f_Tokens_nameKind
  obtain ⟨btp0, bkk0, bvv0, bn0, h0Zkt0, h1Zkt0, h2Zkt0, h3Zkt0, ttp0, tkk0, tvv0, r0Zkt0, r1Zkt0, k0Zkt0⟩ := hb_Zkt
  refine wb h2Zkt0 ?_
  refine wb h3Zkt0 ?_
  have := li_0
  obtain ⟨c3, ec3, Wc3, fc3, gc3⟩ := pa_39 W tvv0 (i := bn0) (by omega) (by omega) (x := 0) (rgi (by omega) (by omega))
  refine wb ec3 ?_
  have e1 := (Zfr.gr fc3 t_a0 (by decide)).trans h0Zkt0
  have e2 := (Zfr.gr fc3 t_a0 (by decide)).trans h1Zkt0
  have e3 := (Zfr.gr fc3 t_a0 (by decide)).trans h2Zkt0
  have e4 := (Zfr.gi fc3 t_a0 (by decide)).trans h3Zkt0
  have k5 := TkR_wv k0Zkt0 tkk0 tvv0 ec3
  have F6 := Zfr.tr F0 fc3 (by decide)
  refine wb e1 ?_
  obtain ⟨v5, ev5, _⟩ := ga_42 Wc3 ttp0 (i := a1) (by omega) (by omega)
  refine wb ev5 ?_
  obtain ⟨q6, eq6, Wq6, fq6, po0q6, pl1q6, pu1q6⟩ := p_Tokens_isDigit hn Wc3 (a0 := v5) 
  refine wb eq6 ?_
  have e7 := (Zfr.gr fq6 t_a0 (by decide)).trans e1
  have e8 := (Zfr.gr fq6 t_a0 (by decide)).trans e2
  have e9 := (Zfr.gr fq6 t_a0 (by decide)).trans e3
  have e10 := (Zfr.gi fq6 t_a0 (by decide)).trans e4
  have e11 := (Zfr.ai fq6 tvv0 (by decide)).trans gc3
  have e12 := (Zfr.ai fq6 ttp0 (by decide)).trans ev5
  have k13 := TkR_fr k5 fq6 tkk0 tvv0 (by decide) (by decide)
  have F14 := Zfr.tr F6 fq6 (by decide)
  refine wi (fun hq15 => ?_) (fun hq15 => ?_)
  · have hq15 := i_eq hq15
    refine wi (fun hq16 => ?_) (fun hq16 => ?_)
    · have := i_sub (a := a2) (b := a1) (by omega) (by omega)
      have := li_1
      have hq16 := i_eq hq16
      refine wb e7 ?_
      refine wb e12 ?_
      obtain ⟨w25, ew25⟩ := go_4 Wq6 t_a0
      refine wb ew25 ?_
      obtain ⟨q24, eq24, Wq24, fq24, pbZkvq24⟩ := p_Tokens_letterKind hn Wq6 (a1 := (UInt32.toInt32 (Int32.toUInt32 v5 % 65536))) t_a0 ⟨btp0, bkk0, bvv0, bn0, e7, e8, e9, e10, ttp0, tkk0, tvv0, by (try dsimp only); omega, by (try dsimp only); omega, k13⟩
      refine wb eq24 ?_
      have e21 := (Zfr.gr fq24 t_a0 (by decide)).trans e7
      have e22 := (Zfr.gr fq24 t_a0 (by decide)).trans e8
      have e23 := (Zfr.gr fq24 t_a0 (by decide)).trans e9
      have e24 := (Zfr.gi fq24 t_a0 (by decide)).trans e10
      have e25 := (Zfr.ai fq24 ttp0 (by decide)).trans e12
      have F27 := Zfr.tr F14 fq24 (by decide)
      obtain ⟨btpq24, bkkq24, bvvq24, bnq24, bvq24, h0Zkvq24, h1Zkvq24, h2Zkvq24, h3Zkvq24, h4Zkvq24, ttpq24, tkkq24, tvvq24, r0Zkvq24, r1Zkvq24, r2Zkvq24, k0Zkvq24⟩ := pbZkvq24
      exact ⟨_, rfl, Wq24, F27, ⟨btpq24, bkkq24, bvvq24, bnq24, bvq24, h0Zkvq24, h1Zkvq24, h2Zkvq24, h3Zkvq24, h4Zkvq24, ttpq24, tkkq24, tvvq24, by (try dsimp only); omega, by (try dsimp only); omega, r2Zkvq24, k0Zkvq24⟩⟩
    · have := i_sub (a := a2) (b := a1) (by omega) (by omega)
      have := li_1
      have hq16 := i_ne hq16
      refine wi (fun hq33 => ?_) (fun hq33 => ?_)
      · have := li_2
        have hq33 := i_eq hq33
        refine wb e7 ?_
        have := i_add (a := a1) (b := 1) (by omega) (by omega)
        obtain ⟨v13, ev13, _⟩ := ga_42 Wq6 ttp0 (i := (a1 + 1)) (by omega) (by omega)
        refine wb ev13 ?_
        obtain ⟨q14, eq14, Wq14, fq14, po0q14, pl1q14, pu1q14⟩ := p_Tokens_isDigit hn Wq6 (a0 := v13) 
        refine wb eq14 ?_
        have e34 := (Zfr.gr fq14 t_a0 (by decide)).trans e7
        have e35 := (Zfr.gr fq14 t_a0 (by decide)).trans e8
        have e36 := (Zfr.gr fq14 t_a0 (by decide)).trans e9
        have e37 := (Zfr.gi fq14 t_a0 (by decide)).trans e10
        have e38 := (Zfr.ai fq14 tvv0 (by decide)).trans e11
        have e39 := (Zfr.ai fq14 ttp0 (by decide)).trans e12
        have e40 := (Zfr.ai fq14 ttp0 (by decide)).trans ev13
        have k41 := TkR_fr k13 fq14 tkk0 tvv0 (by decide) (by decide)
        have F42 := Zfr.tr F14 fq14 (by decide)
        refine wi (fun hq43 => ?_) (fun hq43 => ?_)
        · have hq43 := i_eq hq43
          unfold f_Tokens_nameKind_92
          obtain ⟨w11, ew11⟩ := go_4 Wq14 t_a0
          refine wb ew11 ?_
          obtain ⟨q10, eq10, Wq10, fq10, pl0q10, pu0q10, po1q10, pbZktq10⟩ := p_Tokens_wordKind hn Wq14 (a1 := a1) (a2 := a2) t_a0 (by omega) (by omega) (by omega) (by omega) (by omega) ⟨btp0, bkk0, bvv0, bn0, e34, e35, e36, e37, ttp0, tkk0, tvv0, by (try dsimp only); omega, by (try dsimp only); omega, k41⟩
          refine wb eq10 ?_
          have e48 := (Zfr.gr fq10 t_a0 (by decide)).trans e34
          have e49 := (Zfr.gr fq10 t_a0 (by decide)).trans e35
          have e50 := (Zfr.gr fq10 t_a0 (by decide)).trans e36
          have e51 := (Zfr.gi fq10 t_a0 (by decide)).trans e37
          have e52 := (Zfr.ai fq10 tvv0 (by decide)).trans e38
          have e53 := (Zfr.ai fq10 ttp0 (by decide)).trans e39
          have e54 := (Zfr.ai fq10 ttp0 (by decide)).trans e40
          have k55 := TkR_fr k41 fq10 tkk0 tvv0 (by decide) (by decide)
          have F56 := Zfr.tr F42 fq10 (by decide)
          obtain ⟨btpq10, bkkq10, bvvq10, bnq10, h0Zktq10, h1Zktq10, h2Zktq10, h3Zktq10, ttpq10, tkkq10, tvvq10, r0Zktq10, r1Zktq10, k0Zktq10⟩ := pbZktq10
          obtain ⟨w_61, ew_61, lw_61, uw_61⟩ := ga_39 Wq10 tvvq10 (i := bnq10) (by omega) (by omega)
          exact ⟨_, rfl, Wq10, F56, ⟨btpq10, bkkq10, bvvq10, bnq10, w_61, h0Zktq10, h1Zktq10, h2Zktq10, h3Zktq10, ew_61, ttpq10, tkkq10, tvvq10, by (try dsimp only); omega, by (try dsimp only); omega, tkri (by (try dsimp only); omega) (by (try dsimp only); omega) (by (try dsimp only); omega) (by (try dsimp only); omega) (by (try dsimp only); omega), k0Zktq10⟩⟩
        · have hq43 := i_ne hq43
          refine wb e34 ?_
          refine wb e39 ?_
          refine wb e34 ?_
          refine wb e40 ?_
          obtain ⟨w21, ew21⟩ := go_4 Wq14 t_a0
          refine wb ew21 ?_
          have := li_48
          have := i_sub (a := v13) (b := 48) (by omega) (by omega)
          obtain ⟨q20, eq20, Wq20, fq20, pbZkvq20⟩ := p_Tokens_numberedKind hn Wq14 (a1 := (UInt32.toInt32 (Int32.toUInt32 v5 % 65536))) (a2 := (v13 - 48)) t_a0 (by omega) (by omega) ⟨btp0, bkk0, bvv0, bn0, e34, e35, e36, e37, ttp0, tkk0, tvv0, by (try dsimp only); omega, by (try dsimp only); omega, k41⟩
          refine wb eq20 ?_
          have e66 := (Zfr.gr fq20 t_a0 (by decide)).trans e34
          have e67 := (Zfr.gr fq20 t_a0 (by decide)).trans e35
          have e68 := (Zfr.gr fq20 t_a0 (by decide)).trans e36
          have e69 := (Zfr.gi fq20 t_a0 (by decide)).trans e37
          have e70 := (Zfr.ai fq20 ttp0 (by decide)).trans e39
          have e71 := (Zfr.ai fq20 ttp0 (by decide)).trans e40
          have F73 := Zfr.tr F42 fq20 (by decide)
          obtain ⟨btpq20, bkkq20, bvvq20, bnq20, bvq20, h0Zkvq20, h1Zkvq20, h2Zkvq20, h3Zkvq20, h4Zkvq20, ttpq20, tkkq20, tvvq20, r0Zkvq20, r1Zkvq20, r2Zkvq20, k0Zkvq20⟩ := pbZkvq20
          exact ⟨_, rfl, Wq20, F73, ⟨btpq20, bkkq20, bvvq20, bnq20, bvq20, h0Zkvq20, h1Zkvq20, h2Zkvq20, h3Zkvq20, h4Zkvq20, ttpq20, tkkq20, tvvq20, by (try dsimp only); omega, by (try dsimp only); omega, r2Zkvq20, k0Zkvq20⟩⟩
      · have := li_2
        have hq33 := i_ne hq33
        unfold f_Tokens_nameKind_92
        obtain ⟨w11, ew11⟩ := go_4 Wq6 t_a0
        refine wb ew11 ?_
        obtain ⟨q10, eq10, Wq10, fq10, pl0q10, pu0q10, po1q10, pbZktq10⟩ := p_Tokens_wordKind hn Wq6 (a1 := a1) (a2 := a2) t_a0 (by omega) (by omega) (by omega) (by omega) (by omega) ⟨btp0, bkk0, bvv0, bn0, e7, e8, e9, e10, ttp0, tkk0, tvv0, by (try dsimp only); omega, by (try dsimp only); omega, k13⟩
        refine wb eq10 ?_
        have e83 := (Zfr.gr fq10 t_a0 (by decide)).trans e7
        have e84 := (Zfr.gr fq10 t_a0 (by decide)).trans e8
        have e85 := (Zfr.gr fq10 t_a0 (by decide)).trans e9
        have e86 := (Zfr.gi fq10 t_a0 (by decide)).trans e10
        have e87 := (Zfr.ai fq10 tvv0 (by decide)).trans e11
        have e88 := (Zfr.ai fq10 ttp0 (by decide)).trans e12
        have k89 := TkR_fr k13 fq10 tkk0 tvv0 (by decide) (by decide)
        have F90 := Zfr.tr F14 fq10 (by decide)
        obtain ⟨btpq10, bkkq10, bvvq10, bnq10, h0Zktq10, h1Zktq10, h2Zktq10, h3Zktq10, ttpq10, tkkq10, tvvq10, r0Zktq10, r1Zktq10, k0Zktq10⟩ := pbZktq10
        obtain ⟨w_95, ew_95, lw_95, uw_95⟩ := ga_39 Wq10 tvvq10 (i := bnq10) (by omega) (by omega)
        exact ⟨_, rfl, Wq10, F90, ⟨btpq10, bkkq10, bvvq10, bnq10, w_95, h0Zktq10, h1Zktq10, h2Zktq10, h3Zktq10, ew_95, ttpq10, tkkq10, tvvq10, by (try dsimp only); omega, by (try dsimp only); omega, tkri (by (try dsimp only); omega) (by (try dsimp only); omega) (by (try dsimp only); omega) (by (try dsimp only); omega) (by (try dsimp only); omega), k0Zktq10⟩⟩
  · have hq15 := i_ne hq15
    obtain ⟨w27, ew27⟩ := go_4 Wq6 t_a0
    refine wb ew27 ?_
    obtain ⟨q26, eq26, Wq26, fq26, pbZkvq26⟩ := p_Tokens_numberKind hn Wq6 (a1 := a1) (a2 := a2) t_a0 (by omega) (by omega) (by omega) (by omega) (by omega) ⟨btp0, bkk0, bvv0, bn0, e7, e8, e9, e10, ttp0, tkk0, tvv0, by (try dsimp only); omega, by (try dsimp only); omega, k13⟩
    refine wb eq26 ?_
    have e100 := (Zfr.gr fq26 t_a0 (by decide)).trans e7
    have e101 := (Zfr.gr fq26 t_a0 (by decide)).trans e8
    have e102 := (Zfr.gr fq26 t_a0 (by decide)).trans e9
    have e103 := (Zfr.gi fq26 t_a0 (by decide)).trans e10
    have e104 := (Zfr.ai fq26 ttp0 (by decide)).trans e12
    have F106 := Zfr.tr F14 fq26 (by decide)
    obtain ⟨btpq26, bkkq26, bvvq26, bnq26, bvq26, h0Zkvq26, h1Zkvq26, h2Zkvq26, h3Zkvq26, h4Zkvq26, ttpq26, tkkq26, tvvq26, r0Zkvq26, r1Zkvq26, r2Zkvq26, k0Zkvq26⟩ := pbZkvq26
    exact ⟨_, rfl, Wq26, F106, ⟨btpq26, bkkq26, bvvq26, bnq26, bvq26, h0Zkvq26, h1Zkvq26, h2Zkvq26, h3Zkvq26, h4Zkvq26, ttpq26, tkkq26, tvvq26, by (try dsimp only); omega, by (try dsimp only); omega, r2Zkvq26, k0Zkvq26⟩⟩

abbrev M_Tokens_signKind : List (Nat × Nat) := [(39, 0)]
set_option maxRecDepth 100000 in
set_option maxHeartbeats 400000 in
theorem p_Tokens_signKind {nf : Nat} (hn : 8589934592 ≤ nf) {G : List Nat} {c : Zc} (W : Zwt zty G c) {a0 : Nat} {a1 : Int32}  (t_a0 : G[a0]? = some 4) (pl_a1 : 0 ≤ a1.toInt) (pu_a1 : a1.toInt ≤ 1499) (hb_Zkt : Zkt G c a0) : ∃ q, f_Tokens_signKind nf a0 a1 c = some q ∧ Zwt zty G q.2 ∧ Zfr G M_Tokens_signKind c q.2 ∧ Zkv G q.2 a0 q.1 := by
  have F0 : Zfr G M_Tokens_signKind c c := Zfr.rf
  unfold f_Tokens_signKind
  obtain ⟨btp0, bkk0, bvv0, bn0, h0Zkt0, h1Zkt0, h2Zkt0, h3Zkt0, ttp0, tkk0, tvv0, r0Zkt0, r1Zkt0, k0Zkt0⟩ := hb_Zkt
  refine wb h0Zkt0 ?_
  obtain ⟨v2, ev2, _⟩ := ga_42 W ttp0 (i := a1) (by omega) (by omega)
  refine wb ev2 ?_
  obtain ⟨v3, ev3, lv3, uv3⟩ := gf_4_5 W t_a0
  refine wb ev3 ?_
  refine wi (fun hq1 => ?_) (fun hq1 => ?_)
  · have := li_1
    have := i_add (a := a1) (b := 1) (by omega) (by omega)
    have hq1 := i_le hq1
    unfold f_Tokens_signKind_29
    refine wb h2Zkt0 ?_
    refine wb h3Zkt0 ?_
    have := li_0
    obtain ⟨c7, ec7, Wc7, fc7, gc7⟩ := pa_39 W tvv0 (i := bn0) (by omega) (by omega) (x := 0) (rgi (by omega) (by omega))
    refine wb ec7 ?_
    have e2 := (Zfr.gr fc7 t_a0 (by decide)).trans h0Zkt0
    have e3 := (Zfr.gr fc7 t_a0 (by decide)).trans h1Zkt0
    have e4 := (Zfr.gr fc7 t_a0 (by decide)).trans h2Zkt0
    have e5 := (Zfr.gi fc7 t_a0 (by decide)).trans h3Zkt0
    have e6 := (Zfr.ai fc7 ttp0 (by decide)).trans ev2
    have k7 := TkR_wv k0Zkt0 tkk0 tvv0 ec7
    have F8 := Zfr.tr F0 fc7 (by decide)
    refine wi (fun hq9 => ?_) (fun hq9 => ?_)
    · have := li_45
      have := i_ge v2
      have := i_up v2
      have hq9 := i_eq hq9
      refine wi (fun hq10 => ?_) (fun hq10 => ?_)
      · have := li_62
        have hq10 := i_eq hq10
        have := li_256
        exact ⟨_, rfl, Wc7, F8, ⟨btp0, bkk0, bvv0, bn0, (0 : Int32), e2, e3, e4, e5, gc7, ttp0, tkk0, tvv0, by (try dsimp only); omega, by (try dsimp only); omega, tkri (by (try dsimp only); omega) (by (try dsimp only); omega) (by (try dsimp only); omega) (by (try dsimp only); omega) (by (try dsimp only); omega), k7⟩⟩
      · have := li_62
        have hq10 := i_ne hq10
        unfold f_Tokens_signKind_56
        refine wi (fun hq16 => ?_) (fun hq16 => ?_)
        · have := li_60
          have hq16 := i_eq hq16
          exfalso
          omega
        · have := li_60
          have hq16 := i_ne hq16
          unfold f_Tokens_signKind_72
          refine wi (fun hq17 => ?_) (fun hq17 => ?_)
          · have := li_61
            have hq17 := i_eq hq17
            refine wi (fun hq18 => ?_) (fun hq18 => ?_)
            · have := li_33
              have hq18 := i_eq hq18
              exfalso
              omega
            · have := li_33
              have hq18 := i_ne hq18
              refine wi (fun hq19 => ?_) (fun hq19 => ?_)
              · have hq19 := i_eq hq19
                exfalso
                omega
              · have hq19 := i_ne hq19
                refine wi (fun hq20 => ?_) (fun hq20 => ?_)
                · have hq20 := i_eq hq20
                  exfalso
                  omega
                · have hq20 := i_ne hq20
                  unfold f_Tokens_signKind_124
                  refine wi (fun hq21 => ?_) (fun hq21 => ?_)
                  · have hq21 := i_le hq21
                    exfalso
                    omega
                  · have hq21 := i_nle hq21
                    refine wb (show zst 3 = some () from rfl) ?_
                    obtain ⟨q12, eq12, Wq12, fq12, pl0q12, pu0q12⟩ := p_String_indexOf_0__3 hn Wc7 (a1 := (UInt32.toInt32 (Int32.toUInt32 v2 % 65536))) 
                    refine wb eq12 ?_
                    have e22 := (Zfr.gr fq12 t_a0 (by decide)).trans e2
                    have e23 := (Zfr.gr fq12 t_a0 (by decide)).trans e3
                    have e24 := (Zfr.gr fq12 t_a0 (by decide)).trans e4
                    have e25 := (Zfr.gi fq12 t_a0 (by decide)).trans e5
                    have e26 := (Zfr.ai fq12 ttp0 (by decide)).trans e6
                    have e27 := (Zfr.ai fq12 tvv0 (by decide)).trans gc7
                    have k28 := TkR_fr k7 fq12 tkk0 tvv0 (by decide) (by decide)
                    have F29 := Zfr.tr F8 fq12 (by decide)
                    refine wi (fun hq30 => ?_) (fun hq30 => ?_)
                    · have hq30 := i_lt hq30
                      unfold f_Tokens_signKind_142
                      unfold f_Tokens_signKind_143
                      exact ⟨_, rfl, Wq12, F29, ⟨btp0, bkk0, bvv0, bn0, (0 : Int32), e22, e23, e24, e25, e27, ttp0, tkk0, tvv0, by (try dsimp only); omega, by (try dsimp only); omega, tkri (by (try dsimp only); omega) (by (try dsimp only); omega) (by (try dsimp only); omega) (by (try dsimp only); omega) (by (try dsimp only); omega), k28⟩⟩
                    · have hq30 := i_nlt hq30
                      unfold f_Tokens_signKind_143
                      exact ⟨_, rfl, Wq12, F29, ⟨btp0, bkk0, bvv0, bn0, (0 : Int32), e22, e23, e24, e25, e27, ttp0, tkk0, tvv0, by (try dsimp only); omega, by (try dsimp only); omega, tkri (by (try dsimp only); omega) (by (try dsimp only); omega) (by (try dsimp only); omega) (by (try dsimp only); omega) (by (try dsimp only); omega), k28⟩⟩
          · have := li_61
            have hq17 := i_ne hq17
            unfold f_Tokens_signKind_124
            refine wi (fun hq41 => ?_) (fun hq41 => ?_)
            · have hq41 := i_le hq41
              exfalso
              omega
            · have hq41 := i_nle hq41
              refine wb (show zst 3 = some () from rfl) ?_
              obtain ⟨q12, eq12, Wq12, fq12, pl0q12, pu0q12⟩ := p_String_indexOf_0__3 hn Wc7 (a1 := (UInt32.toInt32 (Int32.toUInt32 v2 % 65536))) 
              refine wb eq12 ?_
              have e42 := (Zfr.gr fq12 t_a0 (by decide)).trans e2
              have e43 := (Zfr.gr fq12 t_a0 (by decide)).trans e3
              have e44 := (Zfr.gr fq12 t_a0 (by decide)).trans e4
              have e45 := (Zfr.gi fq12 t_a0 (by decide)).trans e5
              have e46 := (Zfr.ai fq12 ttp0 (by decide)).trans e6
              have e47 := (Zfr.ai fq12 tvv0 (by decide)).trans gc7
              have k48 := TkR_fr k7 fq12 tkk0 tvv0 (by decide) (by decide)
              have F49 := Zfr.tr F8 fq12 (by decide)
              refine wi (fun hq50 => ?_) (fun hq50 => ?_)
              · have hq50 := i_lt hq50
                unfold f_Tokens_signKind_142
                unfold f_Tokens_signKind_143
                exact ⟨_, rfl, Wq12, F49, ⟨btp0, bkk0, bvv0, bn0, (0 : Int32), e42, e43, e44, e45, e47, ttp0, tkk0, tvv0, by (try dsimp only); omega, by (try dsimp only); omega, tkri (by (try dsimp only); omega) (by (try dsimp only); omega) (by (try dsimp only); omega) (by (try dsimp only); omega) (by (try dsimp only); omega), k48⟩⟩
              · have hq50 := i_nlt hq50
                unfold f_Tokens_signKind_143
                exact ⟨_, rfl, Wq12, F49, ⟨btp0, bkk0, bvv0, bn0, (0 : Int32), e42, e43, e44, e45, e47, ttp0, tkk0, tvv0, by (try dsimp only); omega, by (try dsimp only); omega, tkri (by (try dsimp only); omega) (by (try dsimp only); omega) (by (try dsimp only); omega) (by (try dsimp only); omega) (by (try dsimp only); omega), k48⟩⟩
    · have := li_45
      have := i_ge v2
      have := i_up v2
      have hq9 := i_ne hq9
      unfold f_Tokens_signKind_56
      refine wi (fun hq61 => ?_) (fun hq61 => ?_)
      · have := li_60
        have hq61 := i_eq hq61
        refine wi (fun hq62 => ?_) (fun hq62 => ?_)
        · have hq62 := i_eq hq62
          have := li_257
          exact ⟨_, rfl, Wc7, F8, ⟨btp0, bkk0, bvv0, bn0, (0 : Int32), e2, e3, e4, e5, gc7, ttp0, tkk0, tvv0, by (try dsimp only); omega, by (try dsimp only); omega, tkri (by (try dsimp only); omega) (by (try dsimp only); omega) (by (try dsimp only); omega) (by (try dsimp only); omega) (by (try dsimp only); omega), k7⟩⟩
        · have hq62 := i_ne hq62
          unfold f_Tokens_signKind_72
          refine wi (fun hq68 => ?_) (fun hq68 => ?_)
          · have := li_61
            have hq68 := i_eq hq68
            refine wi (fun hq69 => ?_) (fun hq69 => ?_)
            · have := li_33
              have hq69 := i_eq hq69
              exfalso
              omega
            · have := li_33
              have hq69 := i_ne hq69
              refine wi (fun hq70 => ?_) (fun hq70 => ?_)
              · have hq70 := i_eq hq70
                unfold f_Tokens_signKind_96
                refine wi (fun hq71 => ?_) (fun hq71 => ?_)
                · have hq71 := i_eq hq71
                  exfalso
                  omega
                · have hq71 := i_ne hq71
                  refine wi (fun hq72 => ?_) (fun hq72 => ?_)
                  · have hq72 := i_eq hq72
                    unfold f_Tokens_signKind_123
                    have := li_259
                    exact ⟨_, rfl, Wc7, F8, ⟨btp0, bkk0, bvv0, bn0, (0 : Int32), e2, e3, e4, e5, gc7, ttp0, tkk0, tvv0, by (try dsimp only); omega, by (try dsimp only); omega, tkri (by (try dsimp only); omega) (by (try dsimp only); omega) (by (try dsimp only); omega) (by (try dsimp only); omega) (by (try dsimp only); omega), k7⟩⟩
                  · have hq72 := i_ne hq72
                    exfalso
                    omega
              · have hq70 := i_ne hq70
                exfalso
                omega
          · have := li_61
            have hq68 := i_ne hq68
            unfold f_Tokens_signKind_124
            refine wi (fun hq78 => ?_) (fun hq78 => ?_)
            · have hq78 := i_le hq78
              exfalso
              omega
            · have hq78 := i_nle hq78
              refine wb (show zst 3 = some () from rfl) ?_
              obtain ⟨q12, eq12, Wq12, fq12, pl0q12, pu0q12⟩ := p_String_indexOf_0__3 hn Wc7 (a1 := (UInt32.toInt32 (Int32.toUInt32 v2 % 65536))) 
              refine wb eq12 ?_
              have e79 := (Zfr.gr fq12 t_a0 (by decide)).trans e2
              have e80 := (Zfr.gr fq12 t_a0 (by decide)).trans e3
              have e81 := (Zfr.gr fq12 t_a0 (by decide)).trans e4
              have e82 := (Zfr.gi fq12 t_a0 (by decide)).trans e5
              have e83 := (Zfr.ai fq12 ttp0 (by decide)).trans e6
              have e84 := (Zfr.ai fq12 tvv0 (by decide)).trans gc7
              have k85 := TkR_fr k7 fq12 tkk0 tvv0 (by decide) (by decide)
              have F86 := Zfr.tr F8 fq12 (by decide)
              refine wi (fun hq87 => ?_) (fun hq87 => ?_)
              · have hq87 := i_lt hq87
                unfold f_Tokens_signKind_142
                unfold f_Tokens_signKind_143
                exact ⟨_, rfl, Wq12, F86, ⟨btp0, bkk0, bvv0, bn0, (0 : Int32), e79, e80, e81, e82, e84, ttp0, tkk0, tvv0, by (try dsimp only); omega, by (try dsimp only); omega, tkri (by (try dsimp only); omega) (by (try dsimp only); omega) (by (try dsimp only); omega) (by (try dsimp only); omega) (by (try dsimp only); omega), k85⟩⟩
              · have hq87 := i_nlt hq87
                unfold f_Tokens_signKind_143
                exact ⟨_, rfl, Wq12, F86, ⟨btp0, bkk0, bvv0, bn0, (0 : Int32), e79, e80, e81, e82, e84, ttp0, tkk0, tvv0, by (try dsimp only); omega, by (try dsimp only); omega, tkri (by (try dsimp only); omega) (by (try dsimp only); omega) (by (try dsimp only); omega) (by (try dsimp only); omega) (by (try dsimp only); omega), k85⟩⟩
      · have := li_60
        have hq61 := i_ne hq61
        unfold f_Tokens_signKind_72
        refine wi (fun hq98 => ?_) (fun hq98 => ?_)
        · have := li_61
          have hq98 := i_eq hq98
          refine wi (fun hq99 => ?_) (fun hq99 => ?_)
          · have := li_33
            have hq99 := i_eq hq99
            unfold f_Tokens_signKind_96
            refine wi (fun hq100 => ?_) (fun hq100 => ?_)
            · have hq100 := i_eq hq100
              unfold f_Tokens_signKind_123
              have := li_258
              exact ⟨_, rfl, Wc7, F8, ⟨btp0, bkk0, bvv0, bn0, (0 : Int32), e2, e3, e4, e5, gc7, ttp0, tkk0, tvv0, by (try dsimp only); omega, by (try dsimp only); omega, tkri (by (try dsimp only); omega) (by (try dsimp only); omega) (by (try dsimp only); omega) (by (try dsimp only); omega) (by (try dsimp only); omega), k7⟩⟩
            · have hq100 := i_ne hq100
              exfalso
              omega
          · have := li_33
            have hq99 := i_ne hq99
            refine wi (fun hq106 => ?_) (fun hq106 => ?_)
            · have hq106 := i_eq hq106
              unfold f_Tokens_signKind_96
              refine wi (fun hq107 => ?_) (fun hq107 => ?_)
              · have hq107 := i_eq hq107
                exfalso
                omega
              · have hq107 := i_ne hq107
                refine wi (fun hq108 => ?_) (fun hq108 => ?_)
                · have hq108 := i_eq hq108
                  unfold f_Tokens_signKind_123
                  have := li_259
                  exact ⟨_, rfl, Wc7, F8, ⟨btp0, bkk0, bvv0, bn0, (0 : Int32), e2, e3, e4, e5, gc7, ttp0, tkk0, tvv0, by (try dsimp only); omega, by (try dsimp only); omega, tkri (by (try dsimp only); omega) (by (try dsimp only); omega) (by (try dsimp only); omega) (by (try dsimp only); omega) (by (try dsimp only); omega), k7⟩⟩
                · have hq108 := i_ne hq108
                  exfalso
                  omega
            · have hq106 := i_ne hq106
              refine wi (fun hq114 => ?_) (fun hq114 => ?_)
              · have := li_62
                have hq114 := i_eq hq114
                unfold f_Tokens_signKind_96
                refine wi (fun hq115 => ?_) (fun hq115 => ?_)
                · have hq115 := i_eq hq115
                  exfalso
                  omega
                · have hq115 := i_ne hq115
                  refine wi (fun hq116 => ?_) (fun hq116 => ?_)
                  · have hq116 := i_eq hq116
                    exfalso
                    omega
                  · have hq116 := i_ne hq116
                    unfold f_Tokens_signKind_123
                    have := li_260
                    exact ⟨_, rfl, Wc7, F8, ⟨btp0, bkk0, bvv0, bn0, (0 : Int32), e2, e3, e4, e5, gc7, ttp0, tkk0, tvv0, by (try dsimp only); omega, by (try dsimp only); omega, tkri (by (try dsimp only); omega) (by (try dsimp only); omega) (by (try dsimp only); omega) (by (try dsimp only); omega) (by (try dsimp only); omega), k7⟩⟩
              · have := li_62
                have hq114 := i_ne hq114
                unfold f_Tokens_signKind_124
                refine wi (fun hq122 => ?_) (fun hq122 => ?_)
                · have hq122 := i_le hq122
                  unfold f_Tokens_signKind_142
                  unfold f_Tokens_signKind_143
                  exact ⟨_, rfl, Wc7, F8, ⟨btp0, bkk0, bvv0, bn0, (0 : Int32), e2, e3, e4, e5, gc7, ttp0, tkk0, tvv0, by (try dsimp only); omega, by (try dsimp only); omega, tkri (by (try dsimp only); omega) (by (try dsimp only); omega) (by (try dsimp only); omega) (by (try dsimp only); omega) (by (try dsimp only); omega), k7⟩⟩
                · have hq122 := i_nle hq122
                  refine wb (show zst 3 = some () from rfl) ?_
                  obtain ⟨q12, eq12, Wq12, fq12, pl0q12, pu0q12⟩ := p_String_indexOf_0__3 hn Wc7 (a1 := (UInt32.toInt32 (Int32.toUInt32 v2 % 65536))) 
                  refine wb eq12 ?_
                  have e128 := (Zfr.gr fq12 t_a0 (by decide)).trans e2
                  have e129 := (Zfr.gr fq12 t_a0 (by decide)).trans e3
                  have e130 := (Zfr.gr fq12 t_a0 (by decide)).trans e4
                  have e131 := (Zfr.gi fq12 t_a0 (by decide)).trans e5
                  have e132 := (Zfr.ai fq12 ttp0 (by decide)).trans e6
                  have e133 := (Zfr.ai fq12 tvv0 (by decide)).trans gc7
                  have k134 := TkR_fr k7 fq12 tkk0 tvv0 (by decide) (by decide)
                  have F135 := Zfr.tr F8 fq12 (by decide)
                  refine wi (fun hq136 => ?_) (fun hq136 => ?_)
                  · have hq136 := i_lt hq136
                    unfold f_Tokens_signKind_142
                    unfold f_Tokens_signKind_143
                    exact ⟨_, rfl, Wq12, F135, ⟨btp0, bkk0, bvv0, bn0, (0 : Int32), e128, e129, e130, e131, e133, ttp0, tkk0, tvv0, by (try dsimp only); omega, by (try dsimp only); omega, tkri (by (try dsimp only); omega) (by (try dsimp only); omega) (by (try dsimp only); omega) (by (try dsimp only); omega) (by (try dsimp only); omega), k134⟩⟩
                  · have hq136 := i_nlt hq136
                    unfold f_Tokens_signKind_143
                    exact ⟨_, rfl, Wq12, F135, ⟨btp0, bkk0, bvv0, bn0, (0 : Int32), e128, e129, e130, e131, e133, ttp0, tkk0, tvv0, by (try dsimp only); omega, by (try dsimp only); omega, tkri (by (try dsimp only); omega) (by (try dsimp only); omega) (by (try dsimp only); omega) (by (try dsimp only); omega) (by (try dsimp only); omega), k134⟩⟩
        · have := li_61
          have hq98 := i_ne hq98
          unfold f_Tokens_signKind_124
          refine wi (fun hq147 => ?_) (fun hq147 => ?_)
          · have hq147 := i_le hq147
            unfold f_Tokens_signKind_142
            unfold f_Tokens_signKind_143
            exact ⟨_, rfl, Wc7, F8, ⟨btp0, bkk0, bvv0, bn0, (0 : Int32), e2, e3, e4, e5, gc7, ttp0, tkk0, tvv0, by (try dsimp only); omega, by (try dsimp only); omega, tkri (by (try dsimp only); omega) (by (try dsimp only); omega) (by (try dsimp only); omega) (by (try dsimp only); omega) (by (try dsimp only); omega), k7⟩⟩
          · have hq147 := i_nle hq147
            refine wb (show zst 3 = some () from rfl) ?_
            obtain ⟨q12, eq12, Wq12, fq12, pl0q12, pu0q12⟩ := p_String_indexOf_0__3 hn Wc7 (a1 := (UInt32.toInt32 (Int32.toUInt32 v2 % 65536))) 
            refine wb eq12 ?_
            have e153 := (Zfr.gr fq12 t_a0 (by decide)).trans e2
            have e154 := (Zfr.gr fq12 t_a0 (by decide)).trans e3
            have e155 := (Zfr.gr fq12 t_a0 (by decide)).trans e4
            have e156 := (Zfr.gi fq12 t_a0 (by decide)).trans e5
            have e157 := (Zfr.ai fq12 ttp0 (by decide)).trans e6
            have e158 := (Zfr.ai fq12 tvv0 (by decide)).trans gc7
            have k159 := TkR_fr k7 fq12 tkk0 tvv0 (by decide) (by decide)
            have F160 := Zfr.tr F8 fq12 (by decide)
            refine wi (fun hq161 => ?_) (fun hq161 => ?_)
            · have hq161 := i_lt hq161
              unfold f_Tokens_signKind_142
              unfold f_Tokens_signKind_143
              exact ⟨_, rfl, Wq12, F160, ⟨btp0, bkk0, bvv0, bn0, (0 : Int32), e153, e154, e155, e156, e158, ttp0, tkk0, tvv0, by (try dsimp only); omega, by (try dsimp only); omega, tkri (by (try dsimp only); omega) (by (try dsimp only); omega) (by (try dsimp only); omega) (by (try dsimp only); omega) (by (try dsimp only); omega), k159⟩⟩
            · have hq161 := i_nlt hq161
              unfold f_Tokens_signKind_143
              exact ⟨_, rfl, Wq12, F160, ⟨btp0, bkk0, bvv0, bn0, (0 : Int32), e153, e154, e155, e156, e158, ttp0, tkk0, tvv0, by (try dsimp only); omega, by (try dsimp only); omega, tkri (by (try dsimp only); omega) (by (try dsimp only); omega) (by (try dsimp only); omega) (by (try dsimp only); omega) (by (try dsimp only); omega), k159⟩⟩
  · have := li_1
    have := i_add (a := a1) (b := 1) (by omega) (by omega)
    have hq1 := i_nle hq1
    refine wb h0Zkt0 ?_
    obtain ⟨v23, ev23, _⟩ := ga_42 W ttp0 (i := (a1 + 1)) (by omega) (by omega)
    refine wb ev23 ?_
    unfold f_Tokens_signKind_29
    refine wb h2Zkt0 ?_
    refine wb h3Zkt0 ?_
    have := li_0
    obtain ⟨c7, ec7, Wc7, fc7, gc7⟩ := pa_39 W tvv0 (i := bn0) (by omega) (by omega) (x := 0) (rgi (by omega) (by omega))
    refine wb ec7 ?_
    have e172 := (Zfr.gr fc7 t_a0 (by decide)).trans h0Zkt0
    have e173 := (Zfr.gr fc7 t_a0 (by decide)).trans h1Zkt0
    have e174 := (Zfr.gr fc7 t_a0 (by decide)).trans h2Zkt0
    have e175 := (Zfr.gi fc7 t_a0 (by decide)).trans h3Zkt0
    have e176 := (Zfr.ai fc7 ttp0 (by decide)).trans ev2
    have e177 := (Zfr.ai fc7 ttp0 (by decide)).trans ev23
    have k178 := TkR_wv k0Zkt0 tkk0 tvv0 ec7
    have F179 := Zfr.tr F0 fc7 (by decide)
    refine wi (fun hq180 => ?_) (fun hq180 => ?_)
    · have := li_45
      have := i_ge v2
      have := i_up v2
      have hq180 := i_eq hq180
      refine wi (fun hq181 => ?_) (fun hq181 => ?_)
      · have := li_62
        have := i_ge v23
        have := i_up v23
        have hq181 := i_eq hq181
        have := li_256
        exact ⟨_, rfl, Wc7, F179, ⟨btp0, bkk0, bvv0, bn0, (0 : Int32), e172, e173, e174, e175, gc7, ttp0, tkk0, tvv0, by (try dsimp only); omega, by (try dsimp only); omega, tkri (by (try dsimp only); omega) (by (try dsimp only); omega) (by (try dsimp only); omega) (by (try dsimp only); omega) (by (try dsimp only); omega), k178⟩⟩
      · have := li_62
        have := i_ge v23
        have := i_up v23
        have hq181 := i_ne hq181
        unfold f_Tokens_signKind_56
        refine wi (fun hq187 => ?_) (fun hq187 => ?_)
        · have := li_60
          have hq187 := i_eq hq187
          exfalso
          omega
        · have := li_60
          have hq187 := i_ne hq187
          unfold f_Tokens_signKind_72
          refine wi (fun hq188 => ?_) (fun hq188 => ?_)
          · have := li_61
            have hq188 := i_eq hq188
            refine wi (fun hq189 => ?_) (fun hq189 => ?_)
            · have := li_33
              have hq189 := i_eq hq189
              exfalso
              omega
            · have := li_33
              have hq189 := i_ne hq189
              refine wi (fun hq190 => ?_) (fun hq190 => ?_)
              · have hq190 := i_eq hq190
                exfalso
                omega
              · have hq190 := i_ne hq190
                refine wi (fun hq191 => ?_) (fun hq191 => ?_)
                · have hq191 := i_eq hq191
                  exfalso
                  omega
                · have hq191 := i_ne hq191
                  unfold f_Tokens_signKind_124
                  refine wi (fun hq192 => ?_) (fun hq192 => ?_)
                  · have hq192 := i_le hq192
                    exfalso
                    omega
                  · have hq192 := i_nle hq192
                    refine wb (show zst 3 = some () from rfl) ?_
                    obtain ⟨q12, eq12, Wq12, fq12, pl0q12, pu0q12⟩ := p_String_indexOf_0__3 hn Wc7 (a1 := (UInt32.toInt32 (Int32.toUInt32 v2 % 65536))) 
                    refine wb eq12 ?_
                    have e193 := (Zfr.gr fq12 t_a0 (by decide)).trans e172
                    have e194 := (Zfr.gr fq12 t_a0 (by decide)).trans e173
                    have e195 := (Zfr.gr fq12 t_a0 (by decide)).trans e174
                    have e196 := (Zfr.gi fq12 t_a0 (by decide)).trans e175
                    have e197 := (Zfr.ai fq12 ttp0 (by decide)).trans e176
                    have e198 := (Zfr.ai fq12 ttp0 (by decide)).trans e177
                    have e199 := (Zfr.ai fq12 tvv0 (by decide)).trans gc7
                    have k200 := TkR_fr k178 fq12 tkk0 tvv0 (by decide) (by decide)
                    have F201 := Zfr.tr F179 fq12 (by decide)
                    refine wi (fun hq202 => ?_) (fun hq202 => ?_)
                    · have hq202 := i_lt hq202
                      unfold f_Tokens_signKind_142
                      unfold f_Tokens_signKind_143
                      exact ⟨_, rfl, Wq12, F201, ⟨btp0, bkk0, bvv0, bn0, (0 : Int32), e193, e194, e195, e196, e199, ttp0, tkk0, tvv0, by (try dsimp only); omega, by (try dsimp only); omega, tkri (by (try dsimp only); omega) (by (try dsimp only); omega) (by (try dsimp only); omega) (by (try dsimp only); omega) (by (try dsimp only); omega), k200⟩⟩
                    · have hq202 := i_nlt hq202
                      unfold f_Tokens_signKind_143
                      exact ⟨_, rfl, Wq12, F201, ⟨btp0, bkk0, bvv0, bn0, (0 : Int32), e193, e194, e195, e196, e199, ttp0, tkk0, tvv0, by (try dsimp only); omega, by (try dsimp only); omega, tkri (by (try dsimp only); omega) (by (try dsimp only); omega) (by (try dsimp only); omega) (by (try dsimp only); omega) (by (try dsimp only); omega), k200⟩⟩
          · have := li_61
            have hq188 := i_ne hq188
            unfold f_Tokens_signKind_124
            refine wi (fun hq213 => ?_) (fun hq213 => ?_)
            · have hq213 := i_le hq213
              exfalso
              omega
            · have hq213 := i_nle hq213
              refine wb (show zst 3 = some () from rfl) ?_
              obtain ⟨q12, eq12, Wq12, fq12, pl0q12, pu0q12⟩ := p_String_indexOf_0__3 hn Wc7 (a1 := (UInt32.toInt32 (Int32.toUInt32 v2 % 65536))) 
              refine wb eq12 ?_
              have e214 := (Zfr.gr fq12 t_a0 (by decide)).trans e172
              have e215 := (Zfr.gr fq12 t_a0 (by decide)).trans e173
              have e216 := (Zfr.gr fq12 t_a0 (by decide)).trans e174
              have e217 := (Zfr.gi fq12 t_a0 (by decide)).trans e175
              have e218 := (Zfr.ai fq12 ttp0 (by decide)).trans e176
              have e219 := (Zfr.ai fq12 ttp0 (by decide)).trans e177
              have e220 := (Zfr.ai fq12 tvv0 (by decide)).trans gc7
              have k221 := TkR_fr k178 fq12 tkk0 tvv0 (by decide) (by decide)
              have F222 := Zfr.tr F179 fq12 (by decide)
              refine wi (fun hq223 => ?_) (fun hq223 => ?_)
              · have hq223 := i_lt hq223
                unfold f_Tokens_signKind_142
                unfold f_Tokens_signKind_143
                exact ⟨_, rfl, Wq12, F222, ⟨btp0, bkk0, bvv0, bn0, (0 : Int32), e214, e215, e216, e217, e220, ttp0, tkk0, tvv0, by (try dsimp only); omega, by (try dsimp only); omega, tkri (by (try dsimp only); omega) (by (try dsimp only); omega) (by (try dsimp only); omega) (by (try dsimp only); omega) (by (try dsimp only); omega), k221⟩⟩
              · have hq223 := i_nlt hq223
                unfold f_Tokens_signKind_143
                exact ⟨_, rfl, Wq12, F222, ⟨btp0, bkk0, bvv0, bn0, (0 : Int32), e214, e215, e216, e217, e220, ttp0, tkk0, tvv0, by (try dsimp only); omega, by (try dsimp only); omega, tkri (by (try dsimp only); omega) (by (try dsimp only); omega) (by (try dsimp only); omega) (by (try dsimp only); omega) (by (try dsimp only); omega), k221⟩⟩
    · have := li_45
      have := i_ge v2
      have := i_up v2
      have hq180 := i_ne hq180
      unfold f_Tokens_signKind_56
      refine wi (fun hq234 => ?_) (fun hq234 => ?_)
      · have := li_60
        have hq234 := i_eq hq234
        refine wi (fun hq235 => ?_) (fun hq235 => ?_)
        · have := i_ge v23
          have := i_up v23
          have hq235 := i_eq hq235
          have := li_257
          exact ⟨_, rfl, Wc7, F179, ⟨btp0, bkk0, bvv0, bn0, (0 : Int32), e172, e173, e174, e175, gc7, ttp0, tkk0, tvv0, by (try dsimp only); omega, by (try dsimp only); omega, tkri (by (try dsimp only); omega) (by (try dsimp only); omega) (by (try dsimp only); omega) (by (try dsimp only); omega) (by (try dsimp only); omega), k178⟩⟩
        · have := i_ge v23
          have := i_up v23
          have hq235 := i_ne hq235
          unfold f_Tokens_signKind_72
          refine wi (fun hq241 => ?_) (fun hq241 => ?_)
          · have := li_61
            have hq241 := i_eq hq241
            refine wi (fun hq242 => ?_) (fun hq242 => ?_)
            · have := li_33
              have hq242 := i_eq hq242
              exfalso
              omega
            · have := li_33
              have hq242 := i_ne hq242
              refine wi (fun hq243 => ?_) (fun hq243 => ?_)
              · have hq243 := i_eq hq243
                unfold f_Tokens_signKind_96
                refine wi (fun hq244 => ?_) (fun hq244 => ?_)
                · have hq244 := i_eq hq244
                  exfalso
                  omega
                · have hq244 := i_ne hq244
                  refine wi (fun hq245 => ?_) (fun hq245 => ?_)
                  · have hq245 := i_eq hq245
                    unfold f_Tokens_signKind_123
                    have := li_259
                    exact ⟨_, rfl, Wc7, F179, ⟨btp0, bkk0, bvv0, bn0, (0 : Int32), e172, e173, e174, e175, gc7, ttp0, tkk0, tvv0, by (try dsimp only); omega, by (try dsimp only); omega, tkri (by (try dsimp only); omega) (by (try dsimp only); omega) (by (try dsimp only); omega) (by (try dsimp only); omega) (by (try dsimp only); omega), k178⟩⟩
                  · have hq245 := i_ne hq245
                    exfalso
                    omega
              · have hq243 := i_ne hq243
                exfalso
                omega
          · have := li_61
            have hq241 := i_ne hq241
            unfold f_Tokens_signKind_124
            refine wi (fun hq251 => ?_) (fun hq251 => ?_)
            · have hq251 := i_le hq251
              exfalso
              omega
            · have hq251 := i_nle hq251
              refine wb (show zst 3 = some () from rfl) ?_
              obtain ⟨q12, eq12, Wq12, fq12, pl0q12, pu0q12⟩ := p_String_indexOf_0__3 hn Wc7 (a1 := (UInt32.toInt32 (Int32.toUInt32 v2 % 65536))) 
              refine wb eq12 ?_
              have e252 := (Zfr.gr fq12 t_a0 (by decide)).trans e172
              have e253 := (Zfr.gr fq12 t_a0 (by decide)).trans e173
              have e254 := (Zfr.gr fq12 t_a0 (by decide)).trans e174
              have e255 := (Zfr.gi fq12 t_a0 (by decide)).trans e175
              have e256 := (Zfr.ai fq12 ttp0 (by decide)).trans e176
              have e257 := (Zfr.ai fq12 ttp0 (by decide)).trans e177
              have e258 := (Zfr.ai fq12 tvv0 (by decide)).trans gc7
              have k259 := TkR_fr k178 fq12 tkk0 tvv0 (by decide) (by decide)
              have F260 := Zfr.tr F179 fq12 (by decide)
              refine wi (fun hq261 => ?_) (fun hq261 => ?_)
              · have hq261 := i_lt hq261
                unfold f_Tokens_signKind_142
                unfold f_Tokens_signKind_143
                exact ⟨_, rfl, Wq12, F260, ⟨btp0, bkk0, bvv0, bn0, (0 : Int32), e252, e253, e254, e255, e258, ttp0, tkk0, tvv0, by (try dsimp only); omega, by (try dsimp only); omega, tkri (by (try dsimp only); omega) (by (try dsimp only); omega) (by (try dsimp only); omega) (by (try dsimp only); omega) (by (try dsimp only); omega), k259⟩⟩
              · have hq261 := i_nlt hq261
                unfold f_Tokens_signKind_143
                exact ⟨_, rfl, Wq12, F260, ⟨btp0, bkk0, bvv0, bn0, (0 : Int32), e252, e253, e254, e255, e258, ttp0, tkk0, tvv0, by (try dsimp only); omega, by (try dsimp only); omega, tkri (by (try dsimp only); omega) (by (try dsimp only); omega) (by (try dsimp only); omega) (by (try dsimp only); omega) (by (try dsimp only); omega), k259⟩⟩
      · have := li_60
        have hq234 := i_ne hq234
        unfold f_Tokens_signKind_72
        refine wi (fun hq272 => ?_) (fun hq272 => ?_)
        · have := li_61
          have := i_ge v23
          have := i_up v23
          have hq272 := i_eq hq272
          refine wi (fun hq273 => ?_) (fun hq273 => ?_)
          · have := li_33
            have hq273 := i_eq hq273
            unfold f_Tokens_signKind_96
            refine wi (fun hq274 => ?_) (fun hq274 => ?_)
            · have hq274 := i_eq hq274
              unfold f_Tokens_signKind_123
              have := li_258
              exact ⟨_, rfl, Wc7, F179, ⟨btp0, bkk0, bvv0, bn0, (0 : Int32), e172, e173, e174, e175, gc7, ttp0, tkk0, tvv0, by (try dsimp only); omega, by (try dsimp only); omega, tkri (by (try dsimp only); omega) (by (try dsimp only); omega) (by (try dsimp only); omega) (by (try dsimp only); omega) (by (try dsimp only); omega), k178⟩⟩
            · have hq274 := i_ne hq274
              exfalso
              omega
          · have := li_33
            have hq273 := i_ne hq273
            refine wi (fun hq280 => ?_) (fun hq280 => ?_)
            · have hq280 := i_eq hq280
              unfold f_Tokens_signKind_96
              refine wi (fun hq281 => ?_) (fun hq281 => ?_)
              · have hq281 := i_eq hq281
                exfalso
                omega
              · have hq281 := i_ne hq281
                refine wi (fun hq282 => ?_) (fun hq282 => ?_)
                · have hq282 := i_eq hq282
                  unfold f_Tokens_signKind_123
                  have := li_259
                  exact ⟨_, rfl, Wc7, F179, ⟨btp0, bkk0, bvv0, bn0, (0 : Int32), e172, e173, e174, e175, gc7, ttp0, tkk0, tvv0, by (try dsimp only); omega, by (try dsimp only); omega, tkri (by (try dsimp only); omega) (by (try dsimp only); omega) (by (try dsimp only); omega) (by (try dsimp only); omega) (by (try dsimp only); omega), k178⟩⟩
                · have hq282 := i_ne hq282
                  exfalso
                  omega
            · have hq280 := i_ne hq280
              refine wi (fun hq288 => ?_) (fun hq288 => ?_)
              · have := li_62
                have hq288 := i_eq hq288
                unfold f_Tokens_signKind_96
                refine wi (fun hq289 => ?_) (fun hq289 => ?_)
                · have hq289 := i_eq hq289
                  exfalso
                  omega
                · have hq289 := i_ne hq289
                  refine wi (fun hq290 => ?_) (fun hq290 => ?_)
                  · have hq290 := i_eq hq290
                    exfalso
                    omega
                  · have hq290 := i_ne hq290
                    unfold f_Tokens_signKind_123
                    have := li_260
                    exact ⟨_, rfl, Wc7, F179, ⟨btp0, bkk0, bvv0, bn0, (0 : Int32), e172, e173, e174, e175, gc7, ttp0, tkk0, tvv0, by (try dsimp only); omega, by (try dsimp only); omega, tkri (by (try dsimp only); omega) (by (try dsimp only); omega) (by (try dsimp only); omega) (by (try dsimp only); omega) (by (try dsimp only); omega), k178⟩⟩
              · have := li_62
                have hq288 := i_ne hq288
                unfold f_Tokens_signKind_124
                refine wi (fun hq296 => ?_) (fun hq296 => ?_)
                · have hq296 := i_le hq296
                  unfold f_Tokens_signKind_142
                  unfold f_Tokens_signKind_143
                  exact ⟨_, rfl, Wc7, F179, ⟨btp0, bkk0, bvv0, bn0, (0 : Int32), e172, e173, e174, e175, gc7, ttp0, tkk0, tvv0, by (try dsimp only); omega, by (try dsimp only); omega, tkri (by (try dsimp only); omega) (by (try dsimp only); omega) (by (try dsimp only); omega) (by (try dsimp only); omega) (by (try dsimp only); omega), k178⟩⟩
                · have hq296 := i_nle hq296
                  refine wb (show zst 3 = some () from rfl) ?_
                  obtain ⟨q12, eq12, Wq12, fq12, pl0q12, pu0q12⟩ := p_String_indexOf_0__3 hn Wc7 (a1 := (UInt32.toInt32 (Int32.toUInt32 v2 % 65536))) 
                  refine wb eq12 ?_
                  have e302 := (Zfr.gr fq12 t_a0 (by decide)).trans e172
                  have e303 := (Zfr.gr fq12 t_a0 (by decide)).trans e173
                  have e304 := (Zfr.gr fq12 t_a0 (by decide)).trans e174
                  have e305 := (Zfr.gi fq12 t_a0 (by decide)).trans e175
                  have e306 := (Zfr.ai fq12 ttp0 (by decide)).trans e176
                  have e307 := (Zfr.ai fq12 ttp0 (by decide)).trans e177
                  have e308 := (Zfr.ai fq12 tvv0 (by decide)).trans gc7
                  have k309 := TkR_fr k178 fq12 tkk0 tvv0 (by decide) (by decide)
                  have F310 := Zfr.tr F179 fq12 (by decide)
                  refine wi (fun hq311 => ?_) (fun hq311 => ?_)
                  · have hq311 := i_lt hq311
                    unfold f_Tokens_signKind_142
                    unfold f_Tokens_signKind_143
                    exact ⟨_, rfl, Wq12, F310, ⟨btp0, bkk0, bvv0, bn0, (0 : Int32), e302, e303, e304, e305, e308, ttp0, tkk0, tvv0, by (try dsimp only); omega, by (try dsimp only); omega, tkri (by (try dsimp only); omega) (by (try dsimp only); omega) (by (try dsimp only); omega) (by (try dsimp only); omega) (by (try dsimp only); omega), k309⟩⟩
                  · have hq311 := i_nlt hq311
                    unfold f_Tokens_signKind_143
                    exact ⟨_, rfl, Wq12, F310, ⟨btp0, bkk0, bvv0, bn0, (0 : Int32), e302, e303, e304, e305, e308, ttp0, tkk0, tvv0, by (try dsimp only); omega, by (try dsimp only); omega, tkri (by (try dsimp only); omega) (by (try dsimp only); omega) (by (try dsimp only); omega) (by (try dsimp only); omega) (by (try dsimp only); omega), k309⟩⟩
        · have := li_61
          have := i_ge v23
          have := i_up v23
          have hq272 := i_ne hq272
          unfold f_Tokens_signKind_124
          refine wi (fun hq322 => ?_) (fun hq322 => ?_)
          · have hq322 := i_le hq322
            unfold f_Tokens_signKind_142
            unfold f_Tokens_signKind_143
            exact ⟨_, rfl, Wc7, F179, ⟨btp0, bkk0, bvv0, bn0, (0 : Int32), e172, e173, e174, e175, gc7, ttp0, tkk0, tvv0, by (try dsimp only); omega, by (try dsimp only); omega, tkri (by (try dsimp only); omega) (by (try dsimp only); omega) (by (try dsimp only); omega) (by (try dsimp only); omega) (by (try dsimp only); omega), k178⟩⟩
          · have hq322 := i_nle hq322
            refine wb (show zst 3 = some () from rfl) ?_
            obtain ⟨q12, eq12, Wq12, fq12, pl0q12, pu0q12⟩ := p_String_indexOf_0__3 hn Wc7 (a1 := (UInt32.toInt32 (Int32.toUInt32 v2 % 65536))) 
            refine wb eq12 ?_
            have e328 := (Zfr.gr fq12 t_a0 (by decide)).trans e172
            have e329 := (Zfr.gr fq12 t_a0 (by decide)).trans e173
            have e330 := (Zfr.gr fq12 t_a0 (by decide)).trans e174
            have e331 := (Zfr.gi fq12 t_a0 (by decide)).trans e175
            have e332 := (Zfr.ai fq12 ttp0 (by decide)).trans e176
            have e333 := (Zfr.ai fq12 ttp0 (by decide)).trans e177
            have e334 := (Zfr.ai fq12 tvv0 (by decide)).trans gc7
            have k335 := TkR_fr k178 fq12 tkk0 tvv0 (by decide) (by decide)
            have F336 := Zfr.tr F179 fq12 (by decide)
            refine wi (fun hq337 => ?_) (fun hq337 => ?_)
            · have hq337 := i_lt hq337
              unfold f_Tokens_signKind_142
              unfold f_Tokens_signKind_143
              exact ⟨_, rfl, Wq12, F336, ⟨btp0, bkk0, bvv0, bn0, (0 : Int32), e328, e329, e330, e331, e334, ttp0, tkk0, tvv0, by (try dsimp only); omega, by (try dsimp only); omega, tkri (by (try dsimp only); omega) (by (try dsimp only); omega) (by (try dsimp only); omega) (by (try dsimp only); omega) (by (try dsimp only); omega), k335⟩⟩
            · have hq337 := i_nlt hq337
              unfold f_Tokens_signKind_143
              exact ⟨_, rfl, Wq12, F336, ⟨btp0, bkk0, bvv0, bn0, (0 : Int32), e328, e329, e330, e331, e334, ttp0, tkk0, tvv0, by (try dsimp only); omega, by (try dsimp only); omega, tkri (by (try dsimp only); omega) (by (try dsimp only); omega) (by (try dsimp only); omega) (by (try dsimp only); omega) (by (try dsimp only); omega), k335⟩⟩

abbrev M_Tokens_takeToken : List (Nat × Nat) := [(4, 3), (38, 0), (39, 0), (40, 0)]
set_option maxRecDepth 100000 in
set_option maxHeartbeats 400000 in
theorem p_Tokens_takeToken {nf : Nat} (hn : 8589934592 ≤ nf) {G : List Nat} {c : Zc} (W : Zwt zty G c) {a0 : Nat} {a1 : Int32}  (t_a0 : G[a0]? = some 4) (pl_a1 : 0 ≤ a1.toInt) (pu_a1 : a1.toInt ≤ 1499) (hb_Zkt : Zkt G c a0) : ∃ q, f_Tokens_takeToken nf a0 a1 c = some q ∧ Zwt zty G q.2 ∧ Zfr G M_Tokens_takeToken c q.2 ∧ 0 ≤ q.1.toInt ∧ q.1.toInt ≤ 1501 ∧ Zku G q.2 a0 := by
  have F0 : Zfr G M_Tokens_takeToken c c := Zfr.rf
  unfold f_Tokens_takeToken
  obtain ⟨btp0, bkk0, bvv0, bn0, h0Zkt0, h1Zkt0, h2Zkt0, h3Zkt0, ttp0, tkk0, tvv0, r0Zkt0, r1Zkt0, k0Zkt0⟩ := hb_Zkt
  unfold f_Tokens_takeToken_2
  have L1 : ∃ b, zlp (fun a : Nat × Int32 × Int32 × Zc => g_Tokens_takeToken_2 nf a.1 a.2.1 a.2.2.1 a.2.2.2) nf (a0, a1, a1, c) = some b ∧ (fun b : (Nat × Int32 × Int32 × Zc) => a0 = b.1 ∧ a1 = b.2.1 ∧ Zwt zty G b.2.2.2 ∧ Zfr G ([] : List (Nat × Nat)) c b.2.2.2 ∧ 0 ≤ b.2.2.1.toInt ∧ b.2.2.1.toInt ≤ 1500) b := by
    refine wlp (fun a : Nat × Int32 × Int32 × Zc => a0 = a.1 ∧ a1 = a.2.1 ∧ Zwt zty G a.2.2.2 ∧ Zfr G ([] : List (Nat × Nat)) c a.2.2.2 ∧ 0 ≤ a.2.2.1.toInt ∧ a.2.2.1.toInt ≤ 1500) (fun a => (1500 - a.2.2.1.toInt).toNat) (fun b : (Nat × Int32 × Int32 × Zc) => a0 = b.1 ∧ a1 = b.2.1 ∧ Zwt zty G b.2.2.2 ∧ Zfr G ([] : List (Nat × Nat)) c b.2.2.2 ∧ 0 ≤ b.2.2.1.toInt ∧ b.2.2.1.toInt ≤ 1500) ?_ ?_ ?_
    · rintro ⟨x0_2, x1_2, x2_2, c_2⟩ hI
      try dsimp only at hI ⊢
      obtain ⟨rfl, rfl, WLc_2, FLc_2, j3, j4⟩ := hI
      have e5 := (Zfr.gr FLc_2 t_a0 (by decide)).trans h0Zkt0
      have e6 := (Zfr.gr FLc_2 t_a0 (by decide)).trans h1Zkt0
      have e7 := (Zfr.gr FLc_2 t_a0 (by decide)).trans h2Zkt0
      have e8 := (Zfr.gi FLc_2 t_a0 (by decide)).trans h3Zkt0
      have k9 := TkR_fr k0Zkt0 FLc_2 tkk0 tvv0 (by decide) (by decide)
      unfold g_Tokens_takeToken_2
      obtain ⟨v1, ev1, lv1, uv1⟩ := gf_4_5 WLc_2 t_a0
      refine wb ev1 ?_
      refine wi (fun hq10 => ?_) (fun hq10 => ?_)
      · have hq10 := i_le hq10
        exact lInr ⟨rfl, rfl, WLc_2, FLc_2, by (try dsimp only); omega, by (try dsimp only); omega⟩
      · have hq10 := i_nle hq10
        refine wb e5 ?_
        obtain ⟨v4, ev4, _⟩ := ga_42 WLc_2 ttp0 (i := x2_2) (by omega) (by omega)
        refine wb ev4 ?_
        obtain ⟨q5, eq5, Wq5, fq5, pl0q5, pu0q5⟩ := p_Tokens_isLetter hn WLc_2 (a0 := v4) 
        refine wb eq5 ?_
        have e11 := (Zfr.gr fq5 t_a0 (by decide)).trans e5
        have e12 := (Zfr.gr fq5 t_a0 (by decide)).trans e6
        have e13 := (Zfr.gr fq5 t_a0 (by decide)).trans e7
        have e14 := (Zfr.gi fq5 t_a0 (by decide)).trans e8
        have e15 := (Zfr.ai fq5 ttp0 (by decide)).trans ev4
        have k16 := TkR_fr k9 fq5 tkk0 tvv0 (by decide) (by decide)
        have F17 := Zfr.tr FLc_2 fq5 (by decide)
        refine wi (fun hq18 => ?_) (fun hq18 => ?_)
        · have := li_0
          have hq18 := i_eq hq18
          refine wb e11 ?_
          refine wb e15 ?_
          obtain ⟨q9, eq9, Wq9, fq9, po0q9, pl1q9, pu1q9⟩ := p_Tokens_isDigit hn Wq5 (a0 := v4) 
          refine wb eq9 ?_
          have e19 := (Zfr.gr fq9 t_a0 (by decide)).trans e11
          have e20 := (Zfr.gr fq9 t_a0 (by decide)).trans e12
          have e21 := (Zfr.gr fq9 t_a0 (by decide)).trans e13
          have e22 := (Zfr.gi fq9 t_a0 (by decide)).trans e14
          have e23 := (Zfr.ai fq9 ttp0 (by decide)).trans e15
          have k24 := TkR_fr k16 fq9 tkk0 tvv0 (by decide) (by decide)
          have F25 := Zfr.tr F17 fq9 (by decide)
          refine wi (fun hq26 => ?_) (fun hq26 => ?_)
          · have hq26 := i_eq hq26
            exact lInr ⟨rfl, rfl, Wq9, F25, by (try dsimp only); omega, by (try dsimp only); omega⟩
          · have hq26 := i_ne hq26
            unfold f_Tokens_takeToken_34
            have := li_1
            have := i_add (a := x2_2) (b := 1) (by omega) (by omega)
            exact lInl ⟨rfl, rfl, Wq9, F25, by (try dsimp only); omega, by (try dsimp only); omega⟩ (by (try dsimp only); omega)
        · have := li_0
          have hq18 := i_ne hq18
          unfold f_Tokens_takeToken_34
          have := li_1
          have := i_add (a := x2_2) (b := 1) (by omega) (by omega)
          exact lInl ⟨rfl, rfl, Wq5, F17, by (try dsimp only); omega, by (try dsimp only); omega⟩ (by (try dsimp only); omega)
    · exact ⟨rfl, rfl, W, Zfr.rf, by (try dsimp only); omega, by (try dsimp only); omega⟩
    · (try dsimp only); omega
  obtain ⟨b, eb, hb⟩ := L1
  refine wb eb ?_
  clear eb
  obtain ⟨z0_27, z1_27, z2_27, c_27⟩ := b
  try dsimp only at hb ⊢
  obtain ⟨rfl, rfl, WXc_27, FXc_27, j28, j29⟩ := hb
  have e30 := (Zfr.gr FXc_27 t_a0 (by decide)).trans h0Zkt0
  have e31 := (Zfr.gr FXc_27 t_a0 (by decide)).trans h1Zkt0
  have e32 := (Zfr.gr FXc_27 t_a0 (by decide)).trans h2Zkt0
  have e33 := (Zfr.gi FXc_27 t_a0 (by decide)).trans h3Zkt0
  have k34 := TkR_fr k0Zkt0 FXc_27 tkk0 tvv0 (by decide) (by decide)
  have F35 := Zfr.tr F0 FXc_27 (by decide)
  unfold f_Tokens_takeToken_40
  refine wi (fun hq36 => ?_) (fun hq36 => ?_)
  · have hq36 := i_le hq36
    obtain ⟨w13, ew13⟩ := go_4 WXc_27 t_a0
    refine wb ew13 ?_
    obtain ⟨q12, eq12, Wq12, fq12, pbZkvq12⟩ := p_Tokens_signKind hn WXc_27 (a1 := a1) t_a0 (by omega) (by omega) ⟨btp0, bkk0, bvv0, bn0, e30, e31, e32, e33, ttp0, tkk0, tvv0, by (try dsimp only); omega, by (try dsimp only); omega, k34⟩
    refine wb eq12 ?_
    have e41 := (Zfr.gr fq12 t_a0 (by decide)).trans e30
    have e42 := (Zfr.gr fq12 t_a0 (by decide)).trans e31
    have e43 := (Zfr.gr fq12 t_a0 (by decide)).trans e32
    have e44 := (Zfr.gi fq12 t_a0 (by decide)).trans e33
    have F46 := Zfr.tr F35 fq12 (by decide)
    obtain ⟨btpq12, bkkq12, bvvq12, bnq12, bvq12, h0Zkvq12, h1Zkvq12, h2Zkvq12, h3Zkvq12, h4Zkvq12, ttpq12, tkkq12, tvvq12, r0Zkvq12, r1Zkvq12, r2Zkvq12, k0Zkvq12⟩ := pbZkvq12
    unfold f_Tokens_takeToken_59
    refine wb h1Zkvq12 ?_
    refine wb h3Zkvq12 ?_
    obtain ⟨c16, ec16, Wc16, fc16, gc16⟩ := pa_38 Wq12 tkkq12 (i := bnq12) (by omega) (by omega) (x := q12.1) (trivial)
    refine wb ec16 ?_
    have e47 := (Zfr.gr fc16 t_a0 (by decide)).trans h0Zkvq12
    have e48 := (Zfr.gr fc16 t_a0 (by decide)).trans h1Zkvq12
    have e49 := (Zfr.gr fc16 t_a0 (by decide)).trans h2Zkvq12
    have e50 := (Zfr.gi fc16 t_a0 (by decide)).trans h3Zkvq12
    have e51 := (Zfr.ai fc16 tvvq12 (by decide)).trans h4Zkvq12
    have k52 := TkR_wk k0Zkvq12 tkkq12 tvvq12 ec16
    have F53 := Zfr.tr F46 fc16 (by decide)
    obtain ⟨v17, ev17, tv17⟩ := gf_4_2 Wc16 t_a0
    refine wb ev17 ?_
    refine wb e50 ?_
    obtain ⟨c19, ec19, Wc19, fc19, gc19⟩ := pa_40 Wc16 tv17 (i := bnq12) (by omega) (by omega) (x := a1) (trivial)
    refine wb ec19 ?_
    have e54 := (Zfr.gr fc19 t_a0 (by decide)).trans e47
    have e55 := (Zfr.gr fc19 t_a0 (by decide)).trans e48
    have e56 := (Zfr.gr fc19 t_a0 (by decide)).trans e49
    have e57 := (Zfr.gi fc19 t_a0 (by decide)).trans e50
    have e58 := (Zfr.ai fc19 tvvq12 (by decide)).trans e51
    have e59 := (Zfr.ai fc19 tkkq12 (by decide)).trans gc16
    have k60 := TkR_fr k52 fc19 tkkq12 tvvq12 (by decide) (by decide)
    have F61 := Zfr.tr F53 fc19 (by decide)
    refine wb e57 ?_
    have := li_1
    have := i_add (a := bnq12) (b := 1) (by omega) (by omega)
    obtain ⟨c21, ec21, Wc21, fc21, gc21⟩ := pf_4_3 Wc19 t_a0 (x := (bnq12 + 1)) (rgi (by omega) (by omega))
    refine wb ec21 ?_
    have e62 := (Zfr.gr fc21 t_a0 (by decide)).trans e54
    have e63 := (Zfr.gr fc21 t_a0 (by decide)).trans e55
    have e64 := (Zfr.gr fc21 t_a0 (by decide)).trans e56
    have e65 := (Zfr.ai fc21 tvvq12 (by decide)).trans e58
    have e66 := (Zfr.ai fc21 tkkq12 (by decide)).trans e59
    have e67 := (Zfr.ai fc21 tv17 (by decide)).trans gc19
    have k68 := TkR_fr k60 fc21 tkkq12 tvvq12 (by decide) (by decide)
    have F69 := Zfr.tr F61 fc21 (by decide)
    have k70 := TkR_ext (k := q12.1) (v := bvq12) k68 e66 e65 (r2Zkvq12) (by omega)
    refine wi (fun hq71 => ?_) (fun hq71 => ?_)
    · have := li_0
      have := i_ge q12.1
      have := i_up q12.1
      have hq71 := i_eq hq71
      obtain ⟨v25, ev25, lv25, uv25⟩ := gf_4_5 Wc21 t_a0
      refine wb ev25 ?_
      exact ⟨_, rfl, Wc21, F69, by (try dsimp only); omega, by (try dsimp only); omega, ⟨btpq12, bkkq12, bvvq12, (bnq12 + 1), e62, e63, e64, gc21, ttpq12, tkkq12, tvvq12, by (try dsimp only); omega, by (try dsimp only); omega, k70⟩⟩
    · have := li_0
      have := i_ge q12.1
      have := i_up q12.1
      have hq71 := i_ne hq71
      refine wi (fun hq76 => ?_) (fun hq76 => ?_)
      · have hq76 := i_le hq76
        refine wi (fun hq77 => ?_) (fun hq77 => ?_)
        · have := li_256
          have hq77 := i_lt hq77
          unfold f_Tokens_takeToken_121
          unfold f_Tokens_takeToken_122
          have := i_add (a := a1) (b := 1) (by omega) (by omega)
          exact ⟨_, rfl, Wc21, F69, by (try dsimp only); omega, by (try dsimp only); omega, ⟨btpq12, bkkq12, bvvq12, (bnq12 + 1), e62, e63, e64, gc21, ttpq12, tkkq12, tvvq12, by (try dsimp only); omega, by (try dsimp only); omega, k70⟩⟩
        · have := li_256
          have hq77 := i_nlt hq77
          unfold f_Tokens_takeToken_121
          unfold f_Tokens_takeToken_122
          have := li_2
          have := i_add (a := a1) (b := 2) (by omega) (by omega)
          exact ⟨_, rfl, Wc21, F69, by (try dsimp only); omega, by (try dsimp only); omega, ⟨btpq12, bkkq12, bvvq12, (bnq12 + 1), e62, e63, e64, gc21, ttpq12, tkkq12, tvvq12, by (try dsimp only); omega, by (try dsimp only); omega, k70⟩⟩
      · have hq76 := i_nle hq76
        unfold f_Tokens_takeToken_122
        exact ⟨_, rfl, Wc21, F69, by (try dsimp only); omega, by (try dsimp only); omega, ⟨btpq12, bkkq12, bvvq12, (bnq12 + 1), e62, e63, e64, gc21, ttpq12, tkkq12, tvvq12, by (try dsimp only); omega, by (try dsimp only); omega, k70⟩⟩
  · have hq36 := i_nle hq36
    obtain ⟨w27, ew27⟩ := go_4 WXc_27 t_a0
    refine wb ew27 ?_
    obtain ⟨q26, eq26, Wq26, fq26, pbZkvq26⟩ := p_Tokens_nameKind hn WXc_27 (a1 := a1) (a2 := z2_27) t_a0 (by omega) (by omega) (by omega) (by omega) (by omega) ⟨btp0, bkk0, bvv0, bn0, e30, e31, e32, e33, ttp0, tkk0, tvv0, by (try dsimp only); omega, by (try dsimp only); omega, k34⟩
    refine wb eq26 ?_
    have e94 := (Zfr.gr fq26 t_a0 (by decide)).trans e30
    have e95 := (Zfr.gr fq26 t_a0 (by decide)).trans e31
    have e96 := (Zfr.gr fq26 t_a0 (by decide)).trans e32
    have e97 := (Zfr.gi fq26 t_a0 (by decide)).trans e33
    have F99 := Zfr.tr F35 fq26 (by decide)
    obtain ⟨btpq26, bkkq26, bvvq26, bnq26, bvq26, h0Zkvq26, h1Zkvq26, h2Zkvq26, h3Zkvq26, h4Zkvq26, ttpq26, tkkq26, tvvq26, r0Zkvq26, r1Zkvq26, r2Zkvq26, k0Zkvq26⟩ := pbZkvq26
    unfold f_Tokens_takeToken_59
    refine wb h1Zkvq26 ?_
    refine wb h3Zkvq26 ?_
    obtain ⟨c16, ec16, Wc16, fc16, gc16⟩ := pa_38 Wq26 tkkq26 (i := bnq26) (by omega) (by omega) (x := q26.1) (trivial)
    refine wb ec16 ?_
    have e100 := (Zfr.gr fc16 t_a0 (by decide)).trans h0Zkvq26
    have e101 := (Zfr.gr fc16 t_a0 (by decide)).trans h1Zkvq26
    have e102 := (Zfr.gr fc16 t_a0 (by decide)).trans h2Zkvq26
    have e103 := (Zfr.gi fc16 t_a0 (by decide)).trans h3Zkvq26
    have e104 := (Zfr.ai fc16 tvvq26 (by decide)).trans h4Zkvq26
    have k105 := TkR_wk k0Zkvq26 tkkq26 tvvq26 ec16
    have F106 := Zfr.tr F99 fc16 (by decide)
    obtain ⟨v17, ev17, tv17⟩ := gf_4_2 Wc16 t_a0
    refine wb ev17 ?_
    refine wb e103 ?_
    obtain ⟨c19, ec19, Wc19, fc19, gc19⟩ := pa_40 Wc16 tv17 (i := bnq26) (by omega) (by omega) (x := a1) (trivial)
    refine wb ec19 ?_
    have e107 := (Zfr.gr fc19 t_a0 (by decide)).trans e100
    have e108 := (Zfr.gr fc19 t_a0 (by decide)).trans e101
    have e109 := (Zfr.gr fc19 t_a0 (by decide)).trans e102
    have e110 := (Zfr.gi fc19 t_a0 (by decide)).trans e103
    have e111 := (Zfr.ai fc19 tvvq26 (by decide)).trans e104
    have e112 := (Zfr.ai fc19 tkkq26 (by decide)).trans gc16
    have k113 := TkR_fr k105 fc19 tkkq26 tvvq26 (by decide) (by decide)
    have F114 := Zfr.tr F106 fc19 (by decide)
    refine wb e110 ?_
    have := li_1
    have := i_add (a := bnq26) (b := 1) (by omega) (by omega)
    obtain ⟨c21, ec21, Wc21, fc21, gc21⟩ := pf_4_3 Wc19 t_a0 (x := (bnq26 + 1)) (rgi (by omega) (by omega))
    refine wb ec21 ?_
    have e115 := (Zfr.gr fc21 t_a0 (by decide)).trans e107
    have e116 := (Zfr.gr fc21 t_a0 (by decide)).trans e108
    have e117 := (Zfr.gr fc21 t_a0 (by decide)).trans e109
    have e118 := (Zfr.ai fc21 tvvq26 (by decide)).trans e111
    have e119 := (Zfr.ai fc21 tkkq26 (by decide)).trans e112
    have e120 := (Zfr.ai fc21 tv17 (by decide)).trans gc19
    have k121 := TkR_fr k113 fc21 tkkq26 tvvq26 (by decide) (by decide)
    have F122 := Zfr.tr F114 fc21 (by decide)
    have k123 := TkR_ext (k := q26.1) (v := bvq26) k121 e119 e118 (r2Zkvq26) (by omega)
    refine wi (fun hq124 => ?_) (fun hq124 => ?_)
    · have := li_0
      have := i_ge q26.1
      have := i_up q26.1
      have hq124 := i_eq hq124
      obtain ⟨v25, ev25, lv25, uv25⟩ := gf_4_5 Wc21 t_a0
      refine wb ev25 ?_
      exact ⟨_, rfl, Wc21, F122, by (try dsimp only); omega, by (try dsimp only); omega, ⟨btpq26, bkkq26, bvvq26, (bnq26 + 1), e115, e116, e117, gc21, ttpq26, tkkq26, tvvq26, by (try dsimp only); omega, by (try dsimp only); omega, k123⟩⟩
    · have := li_0
      have := i_ge q26.1
      have := i_up q26.1
      have hq124 := i_ne hq124
      refine wi (fun hq129 => ?_) (fun hq129 => ?_)
      · have hq129 := i_le hq129
        refine wi (fun hq130 => ?_) (fun hq130 => ?_)
        · have := li_256
          have hq130 := i_lt hq130
          unfold f_Tokens_takeToken_121
          unfold f_Tokens_takeToken_122
          have := i_add (a := a1) (b := 1) (by omega) (by omega)
          exact ⟨_, rfl, Wc21, F122, by (try dsimp only); omega, by (try dsimp only); omega, ⟨btpq26, bkkq26, bvvq26, (bnq26 + 1), e115, e116, e117, gc21, ttpq26, tkkq26, tvvq26, by (try dsimp only); omega, by (try dsimp only); omega, k123⟩⟩
        · have := li_256
          have hq130 := i_nlt hq130
          unfold f_Tokens_takeToken_121
          unfold f_Tokens_takeToken_122
          have := li_2
          have := i_add (a := a1) (b := 2) (by omega) (by omega)
          exact ⟨_, rfl, Wc21, F122, by (try dsimp only); omega, by (try dsimp only); omega, ⟨btpq26, bkkq26, bvvq26, (bnq26 + 1), e115, e116, e117, gc21, ttpq26, tkkq26, tvvq26, by (try dsimp only); omega, by (try dsimp only); omega, k123⟩⟩
      · have hq129 := i_nle hq129
        unfold f_Tokens_takeToken_122
        exact ⟨_, rfl, Wc21, F122, by (try dsimp only); omega, by (try dsimp only); omega, ⟨btpq26, bkkq26, bvvq26, (bnq26 + 1), e115, e116, e117, gc21, ttpq26, tkkq26, tvvq26, by (try dsimp only); omega, by (try dsimp only); omega, k123⟩⟩

end ZzT
