section ZzT
abbrev M_Mo_together : List (Nat × Nat) := []
set_option maxRecDepth 100000 in
set_option maxHeartbeats 400000 in
theorem p_Mo_together {nf : Nat} (hn : 8589934592 ≤ nf) {G : List Nat} {c : Zc} (W : Zwt zty G c) {a0 : Nat} {a1 : Int32} {a2 : Int32} {a3 : Int32}  (t_a0 : G[a0]? = some 64) (pl_a1 : 0 ≤ a1.toInt) (pu_a1 : a1.toInt ≤ 19999) (pl_a2 : 0 ≤ a2.toInt) (pu_a2 : a2.toInt ≤ 20000) (pl_a3 : 0 ≤ a3.toInt) (pu_a3 : a3.toInt ≤ 7) : ∃ q, f_Mo_together nf a0 a1 a2 a3 c = some q ∧ Zwt zty G q.2 ∧ Zfr G M_Mo_together c q.2 := by
  have F0 : Zfr G M_Mo_together c c := Zfr.rf
  unfold f_Mo_together
  obtain ⟨v1, ev1, tv1⟩ := gf_64_44 W t_a0
  refine wb ev1 ?_
  obtain ⟨v2, ev2, lv2, uv2⟩ := gf_64_25 W t_a0
  refine wb ev2 ?_
  have := li_8
  have := i_mull (a := 8) (b := v2) (n := 8) li_8 (by omega) (by omega)
  have := i_add (a := (8 * v2)) (b := a3) (by omega) (by omega)
  obtain ⟨v3, ev3, _⟩ := ga_97 W tv1 (i := ((8 * v2) + a3)) (by omega) (by omega)
  refine wb ev3 ?_
  obtain ⟨v4, ev4, tv4⟩ := gf_64_78 W t_a0
  refine wb ev4 ?_
  obtain ⟨v5, ev5, tv5⟩ := gf_64_79 W t_a0
  refine wb ev5 ?_
  obtain ⟨v6, ev6, lv6, uv6⟩ := ga_126 W tv5 (i := a1) (by omega) (by omega)
  refine wb ev6 ?_
  have := i_mull (a := 8) (b := v6) (n := 8) li_8 (by omega) (by omega)
  have := i_add (a := (8 * v6)) (b := a3) (by omega) (by omega)
  obtain ⟨v7, ev7, _⟩ := ga_125 W tv4 (i := ((8 * v6) + a3)) (by omega) (by omega)
  refine wb ev7 ?_
  refine wi (fun hq1 => ?_) (fun hq1 => ?_)
  · have := li_0
    have := i_ge v3
    have := i_up v3
    have hq1 := i_eq hq1
    exact ⟨_, rfl, W, F0⟩
  · have := li_0
    have := i_ge v3
    have := i_up v3
    have hq1 := i_ne hq1
    refine wi (fun hq2 => ?_) (fun hq2 => ?_)
    · have := li_109
      have hq2 := i_eq hq2
      have := i_sub (a := a2) (b := a1) (by omega) (by omega)
      exact ⟨_, rfl, W, F0⟩
    · have := li_109
      have hq2 := i_ne hq2
      unfold f_Mo_together_67
      have L3 : ∃ b, zlp (fun a : Nat × Int32 × Int32 × Int32 × Int64 × Int32 × Int32 × Int32 × Zc => g_Mo_together_67 nf a.1 a.2.1 a.2.2.1 a.2.2.2.1 a.2.2.2.2.1 a.2.2.2.2.2.1 a.2.2.2.2.2.2.1 a.2.2.2.2.2.2.2.1 a.2.2.2.2.2.2.2.2) nf (a0, a2, a3, v3, 0, v7, v7, a1, c) = some b ∧ (fun b : (Int32 × Int64 × Int32 × Int32 × Zc) => v3 = b.1 ∧ Zwt zty G b.2.2.2.2 ∧ Zfr G ([] : List (Nat × Nat)) c b.2.2.2.2) b := by
        refine wlp (fun a : Nat × Int32 × Int32 × Int32 × Int64 × Int32 × Int32 × Int32 × Zc => a0 = a.1 ∧ a2 = a.2.1 ∧ a3 = a.2.2.1 ∧ v3 = a.2.2.2.1 ∧ Zwt zty G a.2.2.2.2.2.2.2.2 ∧ Zfr G ([] : List (Nat × Nat)) c a.2.2.2.2.2.2.2.2 ∧ 0 ≤ a.2.2.2.2.2.2.2.1.toInt ∧ a.2.2.2.2.2.2.2.1.toInt ≤ 20000) (fun a => (20000 - a.2.2.2.2.2.2.2.1.toInt).toNat) (fun b : (Int32 × Int64 × Int32 × Int32 × Zc) => v3 = b.1 ∧ Zwt zty G b.2.2.2.2 ∧ Zfr G ([] : List (Nat × Nat)) c b.2.2.2.2) ?_ ?_ ?_
        · rintro ⟨x0_4, x2_4, x3_4, x4_4, x6_4, x8_4, x9_4, x10_4, c_4⟩ hI
          try dsimp only at hI ⊢
          obtain ⟨rfl, rfl, rfl, rfl, WLc_4, FLc_4, j5, j6⟩ := hI
          have e7 := (Zfr.ai FLc_4 tv1 (by decide)).trans ev3
          have e8 := (Zfr.gr FLc_4 t_a0 (by decide)).trans ev4
          have e9 := (Zfr.gr FLc_4 t_a0 (by decide)).trans ev5
          have e10 := (Zfr.ai FLc_4 tv5 (by decide)).trans ev6
          have e11 := (Zfr.ai FLc_4 tv4 (by decide)).trans ev7
          unfold g_Mo_together_67
          refine wi (fun hq12 => ?_) (fun hq12 => ?_)
          · have hq12 := i_le hq12
            exact lInr ⟨rfl, WLc_4, FLc_4⟩
          · have hq12 := i_nle hq12
            refine wb e8 ?_
            refine wb e9 ?_
            obtain ⟨v13, ev13, lv13, uv13⟩ := ga_126 WLc_4 tv5 (i := x10_4) (by omega) (by omega)
            refine wb ev13 ?_
            have := i_mull (a := 8) (b := v13) (n := 8) li_8 (by omega) (by omega)
            have := i_add (a := (8 * v13)) (b := a3) (by omega) (by omega)
            obtain ⟨v14, ev14, _⟩ := ga_125 WLc_4 tv4 (i := ((8 * v13) + a3)) (by omega) (by omega)
            refine wb ev14 ?_
            refine wi (fun hq13 => ?_) (fun hq13 => ?_)
            · have := i_ge x8_4
              have := i_up x8_4
              have := i_ge v14
              have := i_up v14
              have hq13 := i_le hq13
              unfold f_Mo_together_114
              refine wi (fun hq14 => ?_) (fun hq14 => ?_)
              · have := i_ge x9_4
                have := i_up x9_4
                have hq14 := i_le hq14
                unfold f_Mo_together_130
                have := li_1
                have := i_add (a := x10_4) (b := 1) (by omega) (by omega)
                exact lInl ⟨rfl, rfl, rfl, rfl, WLc_4, FLc_4, by (try dsimp only); omega, by (try dsimp only); omega⟩ (by (try dsimp only); omega)
              · have := i_ge x9_4
                have := i_up x9_4
                have hq14 := i_nle hq14
                unfold f_Mo_together_130
                have := li_1
                have := i_add (a := x10_4) (b := 1) (by omega) (by omega)
                exact lInl ⟨rfl, rfl, rfl, rfl, WLc_4, FLc_4, by (try dsimp only); omega, by (try dsimp only); omega⟩ (by (try dsimp only); omega)
            · have := i_ge x8_4
              have := i_up x8_4
              have := i_ge v14
              have := i_up v14
              have hq13 := i_nle hq13
              unfold f_Mo_together_114
              refine wi (fun hq15 => ?_) (fun hq15 => ?_)
              · have := i_ge x9_4
                have := i_up x9_4
                have hq15 := i_le hq15
                unfold f_Mo_together_130
                have := li_1
                have := i_add (a := x10_4) (b := 1) (by omega) (by omega)
                exact lInl ⟨rfl, rfl, rfl, rfl, WLc_4, FLc_4, by (try dsimp only); omega, by (try dsimp only); omega⟩ (by (try dsimp only); omega)
              · have := i_ge x9_4
                have := i_up x9_4
                have hq15 := i_nle hq15
                unfold f_Mo_together_130
                have := li_1
                have := i_add (a := x10_4) (b := 1) (by omega) (by omega)
                exact lInl ⟨rfl, rfl, rfl, rfl, WLc_4, FLc_4, by (try dsimp only); omega, by (try dsimp only); omega⟩ (by (try dsimp only); omega)
        · exact ⟨rfl, rfl, rfl, rfl, W, Zfr.rf, by (try dsimp only); omega, by (try dsimp only); omega⟩
        · (try dsimp only); omega
      obtain ⟨b, eb, hb⟩ := L3
      refine wb eb ?_
      clear eb
      obtain ⟨z0_16, z1_16, z2_16, z3_16, c_16⟩ := b
      try dsimp only at hb ⊢
      obtain ⟨rfl, WXc_16, FXc_16⟩ := hb
      have F17 := Zfr.tr F0 FXc_16 (by decide)
      refine wi (fun hq18 => ?_) (fun hq18 => ?_)
      · have := li_110
        have hq18 := i_eq hq18
        obtain ⟨q19, eq19, Wq19, fq19⟩ := p_Mo_bounded hn WXc_16 (a0 := z1_16) 
        refine wb eq19 ?_
        have F19 := Zfr.tr F17 fq19 (by decide)
        unfold f_Mo_together_167
        exact ⟨_, rfl, Wq19, F19⟩
      · have := li_110
        have hq18 := i_ne hq18
        refine wi (fun hq20 => ?_) (fun hq20 => ?_)
        · have := li_111
          have hq20 := i_eq hq20
          unfold f_Mo_together_167
          exact ⟨_, rfl, WXc_16, F17⟩
        · have := li_111
          have hq20 := i_ne hq20
          unfold f_Mo_together_167
          exact ⟨_, rfl, WXc_16, F17⟩

abbrev M_Mo_groupRows : List (Nat × Nat) := [(64, 87), (126, 0), (127, 0), (132, 0), (133, 0)]
set_option maxRecDepth 100000 in
set_option maxHeartbeats 400000 in
theorem p_Mo_groupRows {nf : Nat} (hn : 8589934592 ≤ nf) {G : List Nat} {c : Zc} (W : Zwt zty G c) {a0 : Nat}  (t_a0 : G[a0]? = some 64) : ∃ q, f_Mo_groupRows nf a0 c = some q ∧ Zwt zty G q.2 ∧ Zfr G M_Mo_groupRows c q.2 ∧ 0 ≤ q.1.toInt ∧ q.1.toInt ≤ 20000 := by
  have F0 : Zfr G M_Mo_groupRows c c := Zfr.rf
  unfold f_Mo_groupRows
  have := li_0
  obtain ⟨c1, ec1, Wc1, fc1, gc1⟩ := pf_64_87 W t_a0 (x := 0) (rgi (by omega) (by omega))
  refine wb ec1 ?_
  have F1 := Zfr.tr F0 fc1 (by decide)
  unfold f_Mo_groupRows_7
  have L2 : ∃ b, zlp (fun a : Nat × Int32 × Zc => g_Mo_groupRows_7 nf a.1 a.2.1 a.2.2) nf (a0, 0, c1) = some b ∧ (fun b : (Nat × Zc) => a0 = b.1 ∧ Zwt zty G b.2 ∧ Zfr G ([(64, 87), (132, 0)] : List (Nat × Nat)) c1 b.2) b := by
    refine wlp (fun a : Nat × Int32 × Zc => a0 = a.1 ∧ Zwt zty G a.2.2 ∧ Zfr G ([(64, 87), (132, 0)] : List (Nat × Nat)) c1 a.2.2 ∧ 0 ≤ a.2.1.toInt ∧ a.2.1.toInt ≤ 8 ∧ ∃ kkH, zgi a.2.2 a0 12 87 = some kkH ∧ 0 ≤ kkH.toInt ∧ kkH.toInt ≤ a.2.1.toInt) (fun a => (8 - a.2.1.toInt).toNat) (fun b : (Nat × Zc) => a0 = b.1 ∧ Zwt zty G b.2 ∧ Zfr G ([(64, 87), (132, 0)] : List (Nat × Nat)) c1 b.2) ?_ ?_ ?_
    · rintro ⟨x0_3, x1_3, c_3⟩ hI
      try dsimp only at hI ⊢
      obtain ⟨rfl, WLc_3, FLc_3, j4, j5, kk_3, ehkk_3, j6, j7⟩ := hI
      unfold g_Mo_groupRows_7
      obtain ⟨v2, ev2, tv2⟩ := gf_64_43 WLc_3 t_a0
      refine wb ev2 ?_
      obtain ⟨v3, ev3, lv3, uv3⟩ := gf_64_25 WLc_3 t_a0
      refine wb ev3 ?_
      obtain ⟨v4, ev4, lv4, uv4⟩ := ga_96 WLc_3 tv2 (i := v3) (by omega) (by omega)
      refine wb ev4 ?_
      refine wi (fun hq8 => ?_) (fun hq8 => ?_)
      · have hq8 := i_le hq8
        exact lInr ⟨rfl, WLc_3, FLc_3⟩
      · have hq8 := i_nle hq8
        obtain ⟨v6, ev6, tv6⟩ := gf_64_44 WLc_3 t_a0
        refine wb ev6 ?_
        refine wb ev3 ?_
        have := li_8
        have := i_mull (a := 8) (b := v3) (n := 8) li_8 (by omega) (by omega)
        have := i_add (a := (8 * v3)) (b := x1_3) (by omega) (by omega)
        obtain ⟨v8, ev8, _⟩ := ga_97 WLc_3 tv6 (i := ((8 * v3) + x1_3)) (by omega) (by omega)
        refine wb ev8 ?_
        refine wi (fun hq9 => ?_) (fun hq9 => ?_)
        · have := i_ge v8
          have := i_up v8
          have hq9 := i_eq hq9
          obtain ⟨v10, ev10, tv10⟩ := gf_64_86 WLc_3 t_a0
          refine wb ev10 ?_
          refine wb ehkk_3 ?_
          obtain ⟨c12, ec12, Wc12, fc12, gc12⟩ := pa_132 WLc_3 tv10 (i := kk_3) (by omega) (by omega) (x := x1_3) (rgi (by omega) (by omega))
          refine wb ec12 ?_
          have e10 := (Zfr.gi fc12 t_a0 (by decide)).trans ehkk_3
          have F11 := Zfr.tr FLc_3 fc12 (by decide)
          refine wb e10 ?_
          have := li_1
          have := i_add (a := kk_3) (b := 1) (by omega) (by omega)
          obtain ⟨c14, ec14, Wc14, fc14, gc14⟩ := pf_64_87 Wc12 t_a0 (x := (kk_3 + 1)) (rgi (by omega) (by omega))
          refine wb ec14 ?_
          have F12 := Zfr.tr F11 fc14 (by decide)
          unfold f_Mo_groupRows_57
          have := i_add (a := x1_3) (b := 1) (by omega) (by omega)
          exact lInl ⟨rfl, Wc14, F12, by (try dsimp only); omega, by (try dsimp only); omega, (kk_3 + 1), gc14, by (try dsimp only); omega, by (try dsimp only); omega⟩ (by (try dsimp only); omega)
        · have := i_ge v8
          have := i_up v8
          have hq9 := i_ne hq9
          unfold f_Mo_groupRows_57
          have := li_1
          have := i_add (a := x1_3) (b := 1) (by omega) (by omega)
          exact lInl ⟨rfl, WLc_3, FLc_3, by (try dsimp only); omega, by (try dsimp only); omega, kk_3, ehkk_3, by (try dsimp only); omega, by (try dsimp only); omega⟩ (by (try dsimp only); omega)
    · exact ⟨rfl, Wc1, Zfr.rf, by (try dsimp only); omega, by (try dsimp only); omega, (0 : Int32), gc1, by (try dsimp only); omega, by (try dsimp only); omega⟩
    · (try dsimp only); omega
  obtain ⟨b, eb, hb⟩ := L2
  refine wb eb ?_
  clear eb
  obtain ⟨z0_16, c_16⟩ := b
  try dsimp only at hb ⊢
  obtain ⟨rfl, WXc_16, FXc_16⟩ := hb
  have F17 := Zfr.tr F1 FXc_16 (by decide)
  obtain ⟨w16, ew16⟩ := go_64 WXc_16 t_a0
  refine wb ew16 ?_
  obtain ⟨q15, eq15, Wq15, fq15⟩ := p_Mo_sortRows hn WXc_16  t_a0
  refine wb eq15 ?_
  have F18 := Zfr.tr F17 fq15 (by decide)
  unfold f_Mo_groupRows_71
  have L19 : ∃ b, zlp (fun a : Nat × Int32 × Int32 × Zc => g_Mo_groupRows_71 nf a.1 a.2.1 a.2.2.1 a.2.2.2) nf (a0, 0, 0, q15) = some b ∧ (fun b : (Int32 × Zc) => Zwt zty G b.2 ∧ Zfr G ([(133, 0)] : List (Nat × Nat)) q15 b.2 ∧ 0 ≤ b.1.toInt ∧ b.1.toInt ≤ 20000 ∧ 0 ≤ b.1.toInt ∧ b.1.toInt ≤ 20000) b := by
    refine wlp (fun a : Nat × Int32 × Int32 × Zc => a0 = a.1 ∧ Zwt zty G a.2.2.2 ∧ Zfr G ([(133, 0)] : List (Nat × Nat)) q15 a.2.2.2 ∧ 0 ≤ a.2.1.toInt ∧ a.2.1.toInt ≤ 20000 ∧ 0 ≤ a.2.2.1.toInt ∧ a.2.2.1.toInt ≤ 20000 ∧ a.2.1.toInt ≤ a.2.2.1.toInt) (fun a => (20000 - a.2.2.1.toInt).toNat) (fun b : (Int32 × Zc) => Zwt zty G b.2 ∧ Zfr G ([(133, 0)] : List (Nat × Nat)) q15 b.2 ∧ 0 ≤ b.1.toInt ∧ b.1.toInt ≤ 20000 ∧ 0 ≤ b.1.toInt ∧ b.1.toInt ≤ 20000) ?_ ?_ ?_
    · rintro ⟨x0_20, x1_20, x2_20, c_20⟩ hI
      try dsimp only at hI ⊢
      obtain ⟨rfl, WLc_20, FLc_20, j21, j22, j23, j24, j25⟩ := hI
      unfold g_Mo_groupRows_71
      obtain ⟨v17, ev17, lv17, uv17⟩ := gf_64_81 WLc_20 t_a0
      refine wb ev17 ?_
      refine wi (fun hq26 => ?_) (fun hq26 => ?_)
      · have hq26 := i_le hq26
        exact lInr ⟨WLc_20, FLc_20, by (try dsimp only); omega, by (try dsimp only); omega, by (try dsimp only); omega, by (try dsimp only); omega⟩
      · have hq26 := i_nle hq26
        unfold f_Mo_groupRows_81
        have L27 : ∃ b, zlp (fun a : Nat × Int32 × Int32 × Int32 × Zc => g_Mo_groupRows_81 nf a.1 a.2.1 a.2.2.1 a.2.2.2.1 a.2.2.2.2) nf (a0, x1_20, x2_20, x2_20, c_20) = some b ∧ (fun b : (Nat × Int32 × Int32 × Int32 × Zc) => a0 = b.1 ∧ x1_20 = b.2.1 ∧ x2_20 = b.2.2.1 ∧ Zwt zty G b.2.2.2.2 ∧ Zfr G ([] : List (Nat × Nat)) c_20 b.2.2.2.2 ∧ 0 ≤ b.2.2.2.1.toInt ∧ b.2.2.2.1.toInt ≤ 20000 ∧ b.2.2.1.toInt < b.2.2.2.1.toInt) b := by
          refine wlp (fun a : Nat × Int32 × Int32 × Int32 × Zc => a0 = a.1 ∧ x1_20 = a.2.1 ∧ x2_20 = a.2.2.1 ∧ Zwt zty G a.2.2.2.2 ∧ Zfr G ([] : List (Nat × Nat)) c_20 a.2.2.2.2 ∧ 0 ≤ a.2.2.2.1.toInt ∧ a.2.2.2.1.toInt ≤ 20000 ∧ x2_20.toInt ≤ a.2.2.2.1.toInt) (fun a => (20000 - a.2.2.2.1.toInt).toNat) (fun b : (Nat × Int32 × Int32 × Int32 × Zc) => a0 = b.1 ∧ x1_20 = b.2.1 ∧ x2_20 = b.2.2.1 ∧ Zwt zty G b.2.2.2.2 ∧ Zfr G ([] : List (Nat × Nat)) c_20 b.2.2.2.2 ∧ 0 ≤ b.2.2.2.1.toInt ∧ b.2.2.2.1.toInt ≤ 20000 ∧ b.2.2.1.toInt < b.2.2.2.1.toInt) ?_ ?_ ?_
          · rintro ⟨x0_28, x1_28, x2_28, x3_28, c_28⟩ hI
            try dsimp only at hI ⊢
            obtain ⟨rfl, rfl, rfl, WLc_28, FLc_28, j29, j30, j31⟩ := hI
            have e32 := (Zfr.gi FLc_28 t_a0 (by decide)).trans ev17
            unfold g_Mo_groupRows_81
            refine wb e32 ?_
            refine wi (fun hq33 => ?_) (fun hq33 => ?_)
            · have hq33 := i_le hq33
              exact lInr ⟨rfl, rfl, rfl, WLc_28, FLc_28, by (try dsimp only); omega, by (try dsimp only); omega, by (try dsimp only); omega⟩
            · have hq33 := i_nle hq33
              obtain ⟨v21, ev21, tv21⟩ := gf_64_79 WLc_28 t_a0
              refine wb ev21 ?_
              obtain ⟨v22, ev22, lv22, uv22⟩ := ga_126 WLc_28 tv21 (i := x2_20) (by omega) (by omega)
              refine wb ev22 ?_
              refine wb ev21 ?_
              obtain ⟨v24, ev24, lv24, uv24⟩ := ga_126 WLc_28 tv21 (i := x3_28) (by omega) (by omega)
              refine wb ev24 ?_
              have := rd_sam0 ev22 ev24
              obtain ⟨w26, ew26⟩ := go_64 WLc_28 t_a0
              refine wb ew26 ?_
              obtain ⟨q25, eq25, Wq25, fq25, po0q25⟩ := p_Mo_compareRows hn WLc_28 (a1 := v22) (a2 := v24) t_a0 (by omega) (by omega) (by omega) (by omega)
              refine wb eq25 ?_
              have F34 := Zfr.tr FLc_28 fq25 (by decide)
              refine wi (fun hq35 => ?_) (fun hq35 => ?_)
              · have := i_ge q25.1
                have := i_up q25.1
                have hq35 := i_eq hq35
                have := li_1
                have := i_add (a := x3_28) (b := 1) (by omega) (by omega)
                exact lInl ⟨rfl, rfl, rfl, Wq25, F34, by (try dsimp only); omega, by (try dsimp only); omega, by (try dsimp only); omega⟩ (by (try dsimp only); omega)
              · have := i_ge q25.1
                have := i_up q25.1
                have hq35 := i_ne hq35
                exact lInr ⟨rfl, rfl, rfl, Wq25, F34, by (try dsimp only); omega, by (try dsimp only); omega, by (try dsimp only); omega⟩
          · exact ⟨rfl, rfl, rfl, WLc_20, Zfr.rf, by (try dsimp only); omega, by (try dsimp only); omega, by (try dsimp only); omega⟩
          · (try dsimp only); omega
        obtain ⟨b, eb, hb⟩ := L27
        refine wb eb ?_
        clear eb
        obtain ⟨z0_36, z1_36, z2_36, z3_36, c_36⟩ := b
        try dsimp only at hb ⊢
        obtain ⟨rfl, rfl, rfl, WXc_36, FXc_36, j37, j38, j39⟩ := hb
        have F40 := Zfr.tr FLc_20 FXc_36 (by decide)
        unfold f_Mo_groupRows_114
        unfold f_Mo_groupRows_117
        have L41 : ∃ b, zlp (fun a : Nat × Int32 × Int32 × Int32 × Int32 × Zc => g_Mo_groupRows_117 nf a.1 a.2.1 a.2.2.1 a.2.2.2.1 a.2.2.2.2.1 a.2.2.2.2.2) nf (a0, x1_20, x2_20, z3_36, 0, c_36) = some b ∧ (fun b : (Nat × Int32 × Int32 × Zc) => a0 = b.1 ∧ x1_20 = b.2.1 ∧ z3_36 = b.2.2.1 ∧ Zwt zty G b.2.2.2 ∧ Zfr G ([(133, 0)] : List (Nat × Nat)) c_36 b.2.2.2) b := by
          refine wlp (fun a : Nat × Int32 × Int32 × Int32 × Int32 × Zc => a0 = a.1 ∧ x1_20 = a.2.1 ∧ x2_20 = a.2.2.1 ∧ z3_36 = a.2.2.2.1 ∧ Zwt zty G a.2.2.2.2.2 ∧ Zfr G ([(133, 0)] : List (Nat × Nat)) c_36 a.2.2.2.2.2 ∧ 0 ≤ a.2.2.2.2.1.toInt ∧ a.2.2.2.2.1.toInt ≤ 8) (fun a => (8 - a.2.2.2.2.1.toInt).toNat) (fun b : (Nat × Int32 × Int32 × Zc) => a0 = b.1 ∧ x1_20 = b.2.1 ∧ z3_36 = b.2.2.1 ∧ Zwt zty G b.2.2.2 ∧ Zfr G ([(133, 0)] : List (Nat × Nat)) c_36 b.2.2.2) ?_ ?_ ?_
          · rintro ⟨x0_42, x1_42, x2_42, x3_42, x4_42, c_42⟩ hI
            try dsimp only at hI ⊢
            obtain ⟨rfl, rfl, rfl, rfl, WLc_42, FLc_42, j43, j44⟩ := hI
            unfold g_Mo_groupRows_117
            obtain ⟨v28, ev28, tv28⟩ := gf_64_43 WLc_42 t_a0
            refine wb ev28 ?_
            obtain ⟨v29, ev29, lv29, uv29⟩ := gf_64_25 WLc_42 t_a0
            refine wb ev29 ?_
            obtain ⟨v30, ev30, lv30, uv30⟩ := ga_96 WLc_42 tv28 (i := v29) (by omega) (by omega)
            refine wb ev30 ?_
            refine wi (fun hq45 => ?_) (fun hq45 => ?_)
            · have hq45 := i_le hq45
              exact lInr ⟨rfl, rfl, rfl, WLc_42, FLc_42⟩
            · have hq45 := i_nle hq45
              obtain ⟨v32, ev32, tv32⟩ := gf_64_88 WLc_42 t_a0
              refine wb ev32 ?_
              obtain ⟨w34, ew34⟩ := go_64 WLc_42 t_a0
              refine wb ew34 ?_
              obtain ⟨q33, eq33, Wq33, fq33⟩ := p_Mo_together hn WLc_42 (a1 := x2_20) (a2 := z3_36) (a3 := x4_42) t_a0 (by omega) (by omega) (by omega) (by omega) (by omega) (by omega)
              refine wb eq33 ?_
              have F46 := Zfr.tr FLc_42 fq33 (by decide)
              have := li_8
              have := i_mull (a := 8) (b := x1_20) (n := 8) li_8 (by omega) (by omega)
              have := i_add (a := (8 * x1_20)) (b := x4_42) (by omega) (by omega)
              obtain ⟨c35, ec35, Wc35, fc35, gc35⟩ := pa_133 Wq33 tv32 (i := ((8 * x1_20) + x4_42)) (by omega) (by omega) (x := q33.1) (trivial)
              refine wb ec35 ?_
              have F47 := Zfr.tr F46 fc35 (by decide)
              have := li_1
              have := i_add (a := x4_42) (b := 1) (by omega) (by omega)
              exact lInl ⟨rfl, rfl, rfl, rfl, Wc35, F47, by (try dsimp only); omega, by (try dsimp only); omega⟩ (by (try dsimp only); omega)
          · exact ⟨rfl, rfl, rfl, rfl, WXc_36, Zfr.rf, by (try dsimp only); omega, by (try dsimp only); omega⟩
          · (try dsimp only); omega
        obtain ⟨b, eb, hb⟩ := L41
        refine wb eb ?_
        clear eb
        obtain ⟨z0_48, z1_48, z2_48, c_48⟩ := b
        try dsimp only at hb ⊢
        obtain ⟨rfl, rfl, rfl, WXc_48, FXc_48⟩ := hb
        have F49 := Zfr.tr F40 FXc_48 (by decide)
        have := li_1
        have := i_add (a := x1_20) (b := 1) (by omega) (by omega)
        exact lInl ⟨rfl, WXc_48, F49, by (try dsimp only); omega, by (try dsimp only); omega, by (try dsimp only); omega, by (try dsimp only); omega, by (try dsimp only); omega⟩ (by (try dsimp only); omega)
    · exact ⟨rfl, Wq15, Zfr.rf, by (try dsimp only); omega, by (try dsimp only); omega, by (try dsimp only); omega, by (try dsimp only); omega, by (try dsimp only); omega⟩
    · (try dsimp only); omega
  obtain ⟨b, eb, hb⟩ := L19
  refine wb eb ?_
  clear eb
  obtain ⟨z0_50, c_50⟩ := b
  try dsimp only at hb ⊢
  obtain ⟨WXc_50, FXc_50, j51, j52, j53, j54⟩ := hb
  have F55 := Zfr.tr F18 FXc_50 (by decide)
  exact ⟨_, rfl, WXc_50, F55, by (try dsimp only); omega, by (try dsimp only); omega⟩

abbrev M_Mo_link : List (Nat × Nat) := [(95, 0)]
set_option maxRecDepth 100000 in
set_option maxHeartbeats 400000 in
theorem p_Mo_link {nf : Nat} (hn : 8589934592 ≤ nf) {G : List Nat} {c : Zc} (W : Zwt zty G c) {a0 : Nat} {a1 : Int32} {a2 : Int32} {a3 : Int32}  (t_a0 : G[a0]? = some 64) (pl_a1 : 0 ≤ a1.toInt) (pu_a1 : a1.toInt ≤ 98) : ∃ q, f_Mo_link nf a0 a1 a2 a3 c = some q ∧ Zwt zty G q ∧ Zfr G M_Mo_link c q := by
  have F0 : Zfr G M_Mo_link c c := Zfr.rf
  unfold f_Mo_link
  unfold f_Mo_link_3
  have := li_0
  have L1 : ∃ b, zlp (fun a : Nat × Int32 × Int32 × Int32 × Int32 × Zc => g_Mo_link_3 nf a.1 a.2.1 a.2.2.1 a.2.2.2.1 a.2.2.2.2.1 a.2.2.2.2.2) nf (a0, a1, a2, a3, 0, c) = some b ∧ (fun b : (Zc) => Zwt zty G b ∧ Zfr G ([(95, 0)] : List (Nat × Nat)) c b) b := by
    refine wlp (fun a : Nat × Int32 × Int32 × Int32 × Int32 × Zc => a0 = a.1 ∧ a1 = a.2.1 ∧ a2 = a.2.2.1 ∧ a3 = a.2.2.2.1 ∧ Zwt zty G a.2.2.2.2.2 ∧ Zfr G ([(95, 0)] : List (Nat × Nat)) c a.2.2.2.2.2 ∧ 0 ≤ a.2.2.2.2.1.toInt ∧ a.2.2.2.2.1.toInt ≤ 16) (fun a => (16 - a.2.2.2.2.1.toInt).toNat) (fun b : (Zc) => Zwt zty G b ∧ Zfr G ([(95, 0)] : List (Nat × Nat)) c b) ?_ ?_ ?_
    · rintro ⟨x0_2, x1_2, x2_2, x3_2, x4_2, c_2⟩ hI
      try dsimp only at hI ⊢
      obtain ⟨rfl, rfl, rfl, rfl, WLc_2, FLc_2, j3, j4⟩ := hI
      unfold g_Mo_link_3
      refine wi (fun hq5 => ?_) (fun hq5 => ?_)
      · have := li_16
        have hq5 := i_le hq5
        exact lInr ⟨WLc_2, FLc_2⟩
      · have := li_16
        have hq5 := i_nle hq5
        refine wi (fun hq6 => ?_) (fun hq6 => ?_)
        · have := li_1
          have := i_andr (a := (a2 >>> (x4_2 &&& 31))) (b := 1) (by omega)
          have hq6 := i_eq hq6
          obtain ⟨v3, ev3, tv3⟩ := gf_64_42 WLc_2 t_a0
          refine wb ev3 ?_
          have := i_mull (a := 16) (b := a1) (n := 16) li_16 (by omega) (by omega)
          have := i_add (a := (16 * a1)) (b := x4_2) (by omega) (by omega)
          obtain ⟨v4, ev4, _⟩ := ga_95 WLc_2 tv3 (i := ((16 * a1) + x4_2)) (by omega) (by omega)
          refine wb ev4 ?_
          obtain ⟨c5, ec5, Wc5, fc5, gc5⟩ := pa_95 WLc_2 tv3 (i := ((16 * a1) + x4_2)) (by omega) (by omega) (x := (v4 ||| a3)) (trivial)
          refine wb ec5 ?_
          have F7 := Zfr.tr FLc_2 fc5 (by decide)
          unfold f_Mo_link_36
          have := i_add (a := x4_2) (b := 1) (by omega) (by omega)
          exact lInl ⟨rfl, rfl, rfl, rfl, Wc5, F7, by (try dsimp only); omega, by (try dsimp only); omega⟩ (by (try dsimp only); omega)
        · have := li_1
          have := i_andr (a := (a2 >>> (x4_2 &&& 31))) (b := 1) (by omega)
          have hq6 := i_ne hq6
          unfold f_Mo_link_36
          have := i_add (a := x4_2) (b := 1) (by omega) (by omega)
          exact lInl ⟨rfl, rfl, rfl, rfl, WLc_2, FLc_2, by (try dsimp only); omega, by (try dsimp only); omega⟩ (by (try dsimp only); omega)
    · exact ⟨rfl, rfl, rfl, rfl, W, Zfr.rf, by (try dsimp only); omega, by (try dsimp only); omega⟩
    · (try dsimp only); omega
  obtain ⟨b, eb, hb⟩ := L1
  refine wb eb ?_
  clear eb
  obtain c_8 := b
  try dsimp only at hb ⊢
  obtain ⟨WXc_8, FXc_8⟩ := hb
  have F9 := Zfr.tr F0 FXc_8 (by decide)
  exact ⟨_, rfl, WXc_8, F9⟩

abbrev M_Mo_beginRow : List (Nat × Nat) := [(110, 0), (111, 0), (112, 0), (113, 0)]
set_option maxRecDepth 100000 in
set_option maxHeartbeats 400000 in
theorem p_Mo_beginRow {nf : Nat} (hn : 8589934592 ≤ nf) {G : List Nat} {c : Zc} (W : Zwt zty G c) {a0 : Nat} {a1 : Int32}  (t_a0 : G[a0]? = some 64) (pl_a1 : 0 ≤ a1.toInt) (pu_a1 : a1.toInt ≤ 63) : ∃ q, f_Mo_beginRow nf a0 a1 c = some q ∧ Zwt zty G q ∧ Zfr G M_Mo_beginRow c q := by
  have F0 : Zfr G M_Mo_beginRow c c := Zfr.rf
  unfold f_Mo_beginRow
  obtain ⟨v1, ev1, tv1⟩ := gf_64_61 W t_a0
  refine wb ev1 ?_
  have := nb_1
  obtain ⟨c2, ec2, Wc2, fc2, gc2⟩ := pa_110 W tv1 (i := a1) (by omega) (by omega) (x := (vp_nar .boolean 1)) (rgi (by omega) (by omega))
  refine wb ec2 ?_
  have F1 := Zfr.tr F0 fc2 (by decide)
  obtain ⟨v3, ev3, tv3⟩ := gf_64_62 Wc2 t_a0
  refine wb ev3 ?_
  obtain ⟨c4, ec4, Wc4, fc4, gc4⟩ := pa_111 Wc2 tv3 (i := a1) (by omega) (by omega) (x := 0) (trivial)
  refine wb ec4 ?_
  have F2 := Zfr.tr F1 fc4 (by decide)
  obtain ⟨v5, ev5, tv5⟩ := gf_64_63 Wc4 t_a0
  refine wb ev5 ?_
  obtain ⟨c6, ec6, Wc6, fc6, gc6⟩ := pa_112 Wc4 tv5 (i := a1) (by omega) (by omega) (x := 0) (trivial)
  refine wb ec6 ?_
  have F3 := Zfr.tr F2 fc6 (by decide)
  obtain ⟨v7, ev7, tv7⟩ := gf_64_64 Wc6 t_a0
  refine wb ev7 ?_
  have := nb_0
  obtain ⟨c8, ec8, Wc8, fc8, gc8⟩ := pa_113 Wc6 tv7 (i := a1) (by omega) (by omega) (x := (vp_nar .boolean 0)) (rgi (by omega) (by omega))
  refine wb ec8 ?_
  have F4 := Zfr.tr F3 fc8 (by decide)
  exact ⟨_, rfl, Wc8, F4⟩

abbrev M_Mo_endRow : List (Nat × Nat) := [(107, 0), (108, 0), (109, 0)]
set_option maxRecDepth 100000 in
set_option maxHeartbeats 400000 in
theorem p_Mo_endRow {nf : Nat} (hn : 8589934592 ≤ nf) {G : List Nat} {c : Zc} (W : Zwt zty G c) {a0 : Nat} {a1 : Int32}  (t_a0 : G[a0]? = some 64) (pl_a1 : 0 ≤ a1.toInt) (pu_a1 : a1.toInt ≤ 63) : ∃ q, f_Mo_endRow nf a0 a1 c = some q ∧ Zwt zty G q ∧ Zfr G M_Mo_endRow c q := by
  have F0 : Zfr G M_Mo_endRow c c := Zfr.rf
  unfold f_Mo_endRow
  obtain ⟨v1, ev1, tv1⟩ := gf_64_58 W t_a0
  refine wb ev1 ?_
  obtain ⟨v2, ev2, lv2, uv2⟩ := ga_107 W tv1 (i := a1) (by omega) (by omega)
  refine wb ev2 ?_
  obtain ⟨v3, ev3, tv3⟩ := gf_64_61 W t_a0
  refine wb ev3 ?_
  obtain ⟨v4, ev4, lv4, uv4⟩ := ga_110 W tv3 (i := a1) (by omega) (by omega)
  refine wb ev4 ?_
  have := i_or (a := v2) (b := v4) 1 (by decide) (by omega) (by omega) (by omega) (by omega)
  have := nb_id (x := (v2 ||| v4)) (by omega) (by omega)
  obtain ⟨c5, ec5, Wc5, fc5, gc5⟩ := pa_107 W tv1 (i := a1) (by omega) (by omega) (x := (vp_nar .boolean (v2 ||| v4))) (rgi (by omega) (by omega))
  refine wb ec5 ?_
  have e1 := (Zfr.ai fc5 tv3 (by decide)).trans ev4
  have F2 := Zfr.tr F0 fc5 (by decide)
  obtain ⟨v6, ev6, tv6⟩ := gf_64_59 Wc5 t_a0
  refine wb ev6 ?_
  obtain ⟨v7, ev7, _⟩ := ga_108 Wc5 tv6 (i := a1) (by omega) (by omega)
  refine wb ev7 ?_
  obtain ⟨v8, ev8, tv8⟩ := gf_64_62 Wc5 t_a0
  refine wb ev8 ?_
  obtain ⟨v9, ev9, _⟩ := ga_111 Wc5 tv8 (i := a1) (by omega) (by omega)
  refine wb ev9 ?_
  obtain ⟨c10, ec10, Wc10, fc10, gc10⟩ := pa_108 Wc5 tv6 (i := a1) (by omega) (by omega) (x := (v7 ||| v9)) (trivial)
  refine wb ec10 ?_
  have e3 := (Zfr.ai fc10 tv3 (by decide)).trans e1
  have e4 := (Zfr.ai fc10 tv1 (by decide)).trans gc5
  have e5 := (Zfr.ai fc10 tv8 (by decide)).trans ev9
  have F6 := Zfr.tr F2 fc10 (by decide)
  obtain ⟨v11, ev11, tv11⟩ := gf_64_60 Wc10 t_a0
  refine wb ev11 ?_
  obtain ⟨v12, ev12, _⟩ := ga_109 Wc10 tv11 (i := a1) (by omega) (by omega)
  refine wb ev12 ?_
  obtain ⟨v13, ev13, tv13⟩ := gf_64_63 Wc10 t_a0
  refine wb ev13 ?_
  obtain ⟨v14, ev14, _⟩ := ga_112 Wc10 tv13 (i := a1) (by omega) (by omega)
  refine wb ev14 ?_
  obtain ⟨c15, ec15, Wc15, fc15, gc15⟩ := pa_109 Wc10 tv11 (i := a1) (by omega) (by omega) (x := (v12 ||| v14)) (trivial)
  refine wb ec15 ?_
  have F7 := Zfr.tr F6 fc15 (by decide)
  exact ⟨_, rfl, Wc15, F7⟩

end ZzT
