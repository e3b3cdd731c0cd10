section ZzT
abbrev M_Mo_wordToken_435 : List (Nat × Nat) := [(74, 0)]
set_option maxRecDepth 100000 in
set_option maxHeartbeats 400000 in
theorem p_Mo_wordToken_435 {nf : Nat} (hn : 8589934592 ≤ nf) {G : List Nat} {c : Zc} (W : Zwt zty G c) {x0 : Nat} {x1 : Int32} {x2 : Int32} {x5 : Int64} {x7 : Int32}  (t_x0 : G[x0]? = some 64) (pl_x1 : 0 ≤ x1.toInt) (pu_x1 : x1.toInt ≤ 1499) (pl_x2 : 1 ≤ x2.toInt) (pu_x2 : x2.toInt ≤ 5) (pl_x7 : 0 ≤ x7.toInt) (pu_x7 : x7.toInt ≤ 0) (pp_3 : x1.toInt + x2.toInt ≤ 1500) (hb_Zkz : Zkz G c x0) : ∃ q, f_Mo_wordToken_435 nf x0 x1 x2 x5 x7 c = some q ∧ Zwt zty G q ∧ Zfr G M_Mo_wordToken_435 c q ∧ Zk G q x0 := by
  have F0 : Zfr G M_Mo_wordToken_435 c c := Zfr.rf
  unfold f_Mo_wordToken_435
  obtain ⟨bkk0, bvv0, btn0, bz0, h0Zkz0, h1Zkz0, h2Zkz0, h3Zkz0, tkk0, tvv0, r0Zkz0, r1Zkz0, r2Zkz0, k0Zkz0⟩ := hb_Zkz
  have L1 : ∃ b, zlp (fun a : Nat × Int32 × Int32 × Int64 × Int32 × Zc => g_Mo_wordToken_435 nf a.1 a.2.1 a.2.2.1 a.2.2.2.1 a.2.2.2.2.1 a.2.2.2.2.2) nf (x0, x1, x2, x5, x7, c) = some b ∧ (fun b : (Nat × Int64 × Zc) => x0 = b.1 ∧ Zwt zty G b.2.2 ∧ Zfr G ([] : List (Nat × Nat)) c b.2.2) b := by
    refine wlp (fun a : Nat × Int32 × Int32 × Int64 × Int32 × Zc => x0 = a.1 ∧ x1 = a.2.1 ∧ x2 = a.2.2.1 ∧ Zwt zty G a.2.2.2.2.2 ∧ Zfr G ([] : List (Nat × Nat)) c a.2.2.2.2.2 ∧ 0 ≤ a.2.2.2.2.1.toInt ∧ a.2.2.2.2.1.toInt ≤ 5) (fun a => (5 - a.2.2.2.2.1.toInt).toNat) (fun b : (Nat × Int64 × Zc) => x0 = b.1 ∧ Zwt zty G b.2.2 ∧ Zfr G ([] : List (Nat × Nat)) c b.2.2) ?_ ?_ ?_
    · rintro ⟨x0_2, x1_2, x2_2, x5_2, x7_2, c_2⟩ hI
      try dsimp only at hI ⊢
      obtain ⟨rfl, rfl, rfl, WLc_2, FLc_2, j3, j4⟩ := hI
      have e5 := (Zfr.gr FLc_2 t_x0 (by decide)).trans h0Zkz0
      have e6 := (Zfr.gr FLc_2 t_x0 (by decide)).trans h1Zkz0
      have e7 := (Zfr.gi FLc_2 t_x0 (by decide)).trans h2Zkz0
      have e8 := (Zfr.ai FLc_2 tvv0 (by decide)).trans h3Zkz0
      have k9 := TkM_fr k0Zkz0 FLc_2 tkk0 tvv0 (by decide) (by decide)
      unfold g_Mo_wordToken_435
      refine wi (fun hq10 => ?_) (fun hq10 => ?_)
      · have hq10 := i_le hq10
        exact lInr ⟨rfl, WLc_2, FLc_2⟩
      · have hq10 := i_nle hq10
        obtain ⟨v20, ev20, tv20⟩ := gf_64_12 WLc_2 t_x0
        refine wb ev20 ?_
        have := i_add (a := x1) (b := x7_2) (by omega) (by omega)
        obtain ⟨v21, ev21, _⟩ := ga_73 WLc_2 tv20 (i := (x1 + x7_2)) (by omega) (by omega)
        refine wb ev21 ?_
        have := li_1
        have := i_add (a := x7_2) (b := 1) (by omega) (by omega)
        exact lInl ⟨rfl, rfl, rfl, WLc_2, FLc_2, by (try dsimp only); omega, by (try dsimp only); omega⟩ (by (try dsimp only); omega)
    · exact ⟨rfl, rfl, rfl, W, Zfr.rf, by (try dsimp only); omega, by (try dsimp only); omega⟩
    · (try dsimp only); omega
  obtain ⟨b, eb, hb⟩ := L1
  refine wb eb ?_
  clear eb
  obtain ⟨z0_11, z1_11, c_11⟩ := b
  try dsimp only at hb ⊢
  obtain ⟨rfl, WXc_11, FXc_11⟩ := hb
  have e12 := (Zfr.gr FXc_11 t_x0 (by decide)).trans h0Zkz0
  have e13 := (Zfr.gr FXc_11 t_x0 (by decide)).trans h1Zkz0
  have e14 := (Zfr.gi FXc_11 t_x0 (by decide)).trans h2Zkz0
  have e15 := (Zfr.ai FXc_11 tvv0 (by decide)).trans h3Zkz0
  have k16 := TkM_fr k0Zkz0 FXc_11 tkk0 tvv0 (by decide) (by decide)
  have F17 := Zfr.tr F0 FXc_11 (by decide)
  refine wb e12 ?_
  refine wb e14 ?_
  obtain ⟨q24, eq24, Wq24, fq24, po0q24, pl1q24, pu1q24⟩ := p_Mo_wordKind hn WXc_11 (a0 := z1_11) 
  refine wb eq24 ?_
  have e18 := (Zfr.gr fq24 t_x0 (by decide)).trans e12
  have e19 := (Zfr.gr fq24 t_x0 (by decide)).trans e13
  have e20 := (Zfr.gi fq24 t_x0 (by decide)).trans e14
  have e21 := (Zfr.ai fq24 tvv0 (by decide)).trans e15
  have k22 := TkM_fr k16 fq24 tkk0 tvv0 (by decide) (by decide)
  have F23 := Zfr.tr F17 fq24 (by decide)
  obtain ⟨c25, ec25, Wc25, fc25, gc25⟩ := pa_74 Wq24 tkk0 (i := btn0) (by omega) (by omega) (x := q24.1) (trivial)
  refine wb ec25 ?_
  have e24 := (Zfr.gr fc25 t_x0 (by decide)).trans e18
  have e25 := (Zfr.gr fc25 t_x0 (by decide)).trans e19
  have e26 := (Zfr.gi fc25 t_x0 (by decide)).trans e20
  have e27 := (Zfr.ai fc25 tvv0 (by decide)).trans e21
  have k28 := TkM_wk k22 tkk0 tvv0 ec25 e21 (tkri (by (try dsimp only); omega) (by (try dsimp only); omega) (by (try dsimp only); omega) (by (try dsimp only); omega) (by (try dsimp only); omega))
  have F29 := Zfr.tr F23 fc25 (by decide)
  unfold f_Mo_wordToken_479
  exact ⟨_, rfl, Wc25, F29, ⟨bkk0, bvv0, e24, e25, tkk0, tvv0, k28⟩⟩

abbrev M_Mo_wordToken_424 : List (Nat × Nat) := [(74, 0)]
set_option maxRecDepth 100000 in
set_option maxHeartbeats 400000 in
theorem p_Mo_wordToken_424 {nf : Nat} (hn : 8589934592 ≤ nf) {G : List Nat} {c : Zc} (W : Zwt zty G c) {x0 : Nat} {x1 : Int32} {x2 : Int32}  (t_x0 : G[x0]? = some 64) (pl_x1 : 0 ≤ x1.toInt) (pu_x1 : x1.toInt ≤ 1499) (pl_x2 : 1 ≤ x2.toInt) (pu_x2 : x2.toInt ≤ 1500) (pp_2 : x1.toInt + x2.toInt ≤ 1500) (hb_Zkz : Zkz G c x0) : ∃ q, f_Mo_wordToken_424 nf x0 x1 x2 c = some q ∧ Zwt zty G q ∧ Zfr G M_Mo_wordToken_424 c q ∧ Zk G q x0 := by
  have F0 : Zfr G M_Mo_wordToken_424 c c := Zfr.rf
  unfold f_Mo_wordToken_424
  obtain ⟨bkk0, bvv0, btn0, bz0, h0Zkz0, h1Zkz0, h2Zkz0, h3Zkz0, tkk0, tvv0, r0Zkz0, r1Zkz0, r2Zkz0, k0Zkz0⟩ := hb_Zkz
  refine wi (fun hq1 => ?_) (fun hq1 => ?_)
  · have := li_5
    have hq1 := i_lt hq1
    unfold f_Mo_wordToken_479
    exact ⟨_, rfl, W, F0, ⟨bkk0, bvv0, h0Zkz0, h1Zkz0, tkk0, tvv0, k0Zkz0⟩⟩
  · have := li_5
    have hq1 := i_nlt hq1
    have := li_0
    obtain ⟨qt4, eqt4, Wqt4, fqt4, pbZkqt4⟩ := p_Mo_wordToken_435 hn W (x1 := x1) (x2 := x2) (x5 := 0) (x7 := 0) t_x0 (by omega) (by omega) (by omega) (by omega) (by omega) (by omega) (by omega) ⟨bkk0, bvv0, btn0, bz0, h0Zkz0, h1Zkz0, h2Zkz0, h3Zkz0, tkk0, tvv0, by (try dsimp only); omega, by (try dsimp only); omega, by (try dsimp only); omega, k0Zkz0⟩
    have e9 := (Zfr.gr fqt4 t_x0 (by decide)).trans h0Zkz0
    have e10 := (Zfr.gr fqt4 t_x0 (by decide)).trans h1Zkz0
    have e11 := (Zfr.gi fqt4 t_x0 (by decide)).trans h2Zkz0
    have e12 := (Zfr.ai fqt4 tvv0 (by decide)).trans h3Zkz0
    have F14 := Zfr.tr F0 fqt4 (by decide)
    obtain ⟨bkkqt4, bvvqt4, h0Zkqt4, h1Zkqt4, tkkqt4, tvvqt4, k0Zkqt4⟩ := pbZkqt4
    exact ⟨_, eqt4, Wqt4, F14, ⟨bkkqt4, bvvqt4, h0Zkqt4, h1Zkqt4, tkkqt4, tvvqt4, k0Zkqt4⟩⟩

abbrev M_Mo_wordToken_372 : List (Nat × Nat) := [(74, 0), (75, 0)]
set_option maxRecDepth 100000 in
set_option maxHeartbeats 400000 in
theorem p_Mo_wordToken_372 {nf : Nat} (hn : 8589934592 ≤ nf) {G : List Nat} {c : Zc} (W : Zwt zty G c) {x0 : Nat} {x1 : Int32} {x2 : Int32} {x3 : Int32} {x4 : Int32}  (t_x0 : G[x0]? = some 64) (pl_x1 : 0 ≤ x1.toInt) (pu_x1 : x1.toInt ≤ 1499) (pl_x2 : 1 ≤ x2.toInt) (pu_x2 : x2.toInt ≤ 1500) (pp_2 : x1.toInt + x2.toInt ≤ 1500) (hb_Zkz : Zkz G c x0) : ∃ q, f_Mo_wordToken_372 nf x0 x1 x2 x3 x4 c = some q ∧ Zwt zty G q ∧ Zfr G M_Mo_wordToken_372 c q ∧ Zk G q x0 := by
  have F0 : Zfr G M_Mo_wordToken_372 c c := Zfr.rf
  unfold f_Mo_wordToken_372
  obtain ⟨bkk0, bvv0, btn0, bz0, h0Zkz0, h1Zkz0, h2Zkz0, h3Zkz0, tkk0, tvv0, r0Zkz0, r1Zkz0, r2Zkz0, k0Zkz0⟩ := hb_Zkz
  refine wi (fun hq1 => ?_) (fun hq1 => ?_)
  · have := li_2
    have hq1 := i_eq hq1
    refine wi (fun hq2 => ?_) (fun hq2 => ?_)
    · have := li_99
      have := i_ge x3
      have := i_up x3
      have hq2 := i_eq hq2
      refine wi (fun hq3 => ?_) (fun hq3 => ?_)
      · have := li_48
        have := i_ge x4
        have := i_up x4
        have hq3 := i_lt hq3
        obtain ⟨qt4, eqt4, Wqt4, fqt4, pbZkqt4⟩ := p_Mo_wordToken_424 hn W (x1 := x1) (x2 := x2) t_x0 (by omega) (by omega) (by omega) (by omega) (by omega) ⟨bkk0, bvv0, btn0, bz0, h0Zkz0, h1Zkz0, h2Zkz0, h3Zkz0, tkk0, tvv0, by (try dsimp only); omega, by (try dsimp only); omega, by (try dsimp only); omega, k0Zkz0⟩
        have e9 := (Zfr.gr fqt4 t_x0 (by decide)).trans h0Zkz0
        have e10 := (Zfr.gr fqt4 t_x0 (by decide)).trans h1Zkz0
        have e11 := (Zfr.gi fqt4 t_x0 (by decide)).trans h2Zkz0
        have e12 := (Zfr.ai fqt4 tvv0 (by decide)).trans h3Zkz0
        have F14 := Zfr.tr F0 fqt4 (by decide)
        obtain ⟨bkkqt4, bvvqt4, h0Zkqt4, h1Zkqt4, tkkqt4, tvvqt4, k0Zkqt4⟩ := pbZkqt4
        exact ⟨_, eqt4, Wqt4, F14, ⟨bkkqt4, bvvqt4, h0Zkqt4, h1Zkqt4, tkkqt4, tvvqt4, k0Zkqt4⟩⟩
      · have := li_48
        have := i_ge x4
        have := i_up x4
        have hq3 := i_nlt hq3
        refine wi (fun hq17 => ?_) (fun hq17 => ?_)
        · have := li_51
          have hq17 := i_lt hq17
          obtain ⟨qt18, eqt18, Wqt18, fqt18, pbZkqt18⟩ := p_Mo_wordToken_424 hn W (x1 := x1) (x2 := x2) t_x0 (by omega) (by omega) (by omega) (by omega) (by omega) ⟨bkk0, bvv0, btn0, bz0, h0Zkz0, h1Zkz0, h2Zkz0, h3Zkz0, tkk0, tvv0, by (try dsimp only); omega, by (try dsimp only); omega, by (try dsimp only); omega, k0Zkz0⟩
          have e23 := (Zfr.gr fqt18 t_x0 (by decide)).trans h0Zkz0
          have e24 := (Zfr.gr fqt18 t_x0 (by decide)).trans h1Zkz0
          have e25 := (Zfr.gi fqt18 t_x0 (by decide)).trans h2Zkz0
          have e26 := (Zfr.ai fqt18 tvv0 (by decide)).trans h3Zkz0
          have F28 := Zfr.tr F0 fqt18 (by decide)
          obtain ⟨bkkqt18, bvvqt18, h0Zkqt18, h1Zkqt18, tkkqt18, tvvqt18, k0Zkqt18⟩ := pbZkqt18
          exact ⟨_, eqt18, Wqt18, F28, ⟨bkkqt18, bvvqt18, h0Zkqt18, h1Zkqt18, tkkqt18, tvvqt18, k0Zkqt18⟩⟩
        · have := li_51
          have hq17 := i_nlt hq17
          refine wb h0Zkz0 ?_
          refine wb h2Zkz0 ?_
          obtain ⟨c31, ec31, Wc31, fc31, gc31⟩ := pa_74 W tkk0 (i := btn0) (by omega) (by omega) (x := 4) (trivial)
          refine wb ec31 ?_
          have e31 := (Zfr.gr fc31 t_x0 (by decide)).trans h0Zkz0
          have e32 := (Zfr.gr fc31 t_x0 (by decide)).trans h1Zkz0
          have e33 := (Zfr.gi fc31 t_x0 (by decide)).trans h2Zkz0
          have e34 := (Zfr.ai fc31 tvv0 (by decide)).trans h3Zkz0
          have := li_4
          have k35 := TkM_wk k0Zkz0 tkk0 tvv0 ec31 h3Zkz0 (tkri (by (try dsimp only); omega) (by (try dsimp only); omega) (by (try dsimp only); omega) (by (try dsimp only); omega) (by (try dsimp only); omega))
          have F36 := Zfr.tr F0 fc31 (by decide)
          refine wb e32 ?_
          refine wb e33 ?_
          obtain ⟨c34, ec34, Wc34, fc34, gc34⟩ := pa_75 Wc31 tvv0 (i := btn0) (by omega) (by omega) (x := (x4 - 48)) (trivial)
          refine wb ec34 ?_
          have e37 := (Zfr.gr fc34 t_x0 (by decide)).trans e31
          have e38 := (Zfr.gr fc34 t_x0 (by decide)).trans e32
          have e39 := (Zfr.gi fc34 t_x0 (by decide)).trans e33
          have e40 := (Zfr.ai fc34 tkk0 (by decide)).trans gc31
          have := i_sub (a := x4) (b := 48) (by omega) (by omega)
          have k41 := TkM_wv k35 tkk0 tvv0 ec34 gc31 (tkri (by (try dsimp only); omega) (by (try dsimp only); omega) (by (try dsimp only); omega) (by (try dsimp only); omega) (by (try dsimp only); omega))
          have F42 := Zfr.tr F36 fc34 (by decide)
          unfold f_Mo_wordToken_479
          exact ⟨_, rfl, Wc34, F42, ⟨bkk0, bvv0, e37, e38, tkk0, tvv0, k41⟩⟩
    · have := li_99
      have := i_ge x3
      have := i_up x3
      have hq2 := i_ne hq2
      obtain ⟨qt45, eqt45, Wqt45, fqt45, pbZkqt45⟩ := p_Mo_wordToken_424 hn W (x1 := x1) (x2 := x2) t_x0 (by omega) (by omega) (by omega) (by omega) (by omega) ⟨bkk0, bvv0, btn0, bz0, h0Zkz0, h1Zkz0, h2Zkz0, h3Zkz0, tkk0, tvv0, by (try dsimp only); omega, by (try dsimp only); omega, by (try dsimp only); omega, k0Zkz0⟩
      have e50 := (Zfr.gr fqt45 t_x0 (by decide)).trans h0Zkz0
      have e51 := (Zfr.gr fqt45 t_x0 (by decide)).trans h1Zkz0
      have e52 := (Zfr.gi fqt45 t_x0 (by decide)).trans h2Zkz0
      have e53 := (Zfr.ai fqt45 tvv0 (by decide)).trans h3Zkz0
      have F55 := Zfr.tr F0 fqt45 (by decide)
      obtain ⟨bkkqt45, bvvqt45, h0Zkqt45, h1Zkqt45, tkkqt45, tvvqt45, k0Zkqt45⟩ := pbZkqt45
      exact ⟨_, eqt45, Wqt45, F55, ⟨bkkqt45, bvvqt45, h0Zkqt45, h1Zkqt45, tkkqt45, tvvqt45, k0Zkqt45⟩⟩
  · have := li_2
    have hq1 := i_ne hq1
    obtain ⟨qt58, eqt58, Wqt58, fqt58, pbZkqt58⟩ := p_Mo_wordToken_424 hn W (x1 := x1) (x2 := x2) t_x0 (by omega) (by omega) (by omega) (by omega) (by omega) ⟨bkk0, bvv0, btn0, bz0, h0Zkz0, h1Zkz0, h2Zkz0, h3Zkz0, tkk0, tvv0, by (try dsimp only); omega, by (try dsimp only); omega, by (try dsimp only); omega, k0Zkz0⟩
    have e63 := (Zfr.gr fqt58 t_x0 (by decide)).trans h0Zkz0
    have e64 := (Zfr.gr fqt58 t_x0 (by decide)).trans h1Zkz0
    have e65 := (Zfr.gi fqt58 t_x0 (by decide)).trans h2Zkz0
    have e66 := (Zfr.ai fqt58 tvv0 (by decide)).trans h3Zkz0
    have F68 := Zfr.tr F0 fqt58 (by decide)
    obtain ⟨bkkqt58, bvvqt58, h0Zkqt58, h1Zkqt58, tkkqt58, tvvqt58, k0Zkqt58⟩ := pbZkqt58
    exact ⟨_, eqt58, Wqt58, F68, ⟨bkkqt58, bvvqt58, h0Zkqt58, h1Zkqt58, tkkqt58, tvvqt58, k0Zkqt58⟩⟩

abbrev M_Mo_wordToken_320 : List (Nat × Nat) := [(74, 0), (75, 0)]
set_option maxRecDepth 100000 in
set_option maxHeartbeats 400000 in
theorem p_Mo_wordToken_320 {nf : Nat} (hn : 8589934592 ≤ nf) {G : List Nat} {c : Zc} (W : Zwt zty G c) {x0 : Nat} {x1 : Int32} {x2 : Int32} {x3 : Int32} {x4 : Int32}  (t_x0 : G[x0]? = some 64) (pl_x1 : 0 ≤ x1.toInt) (pu_x1 : x1.toInt ≤ 1499) (pl_x2 : 1 ≤ x2.toInt) (pu_x2 : x2.toInt ≤ 1500) (pp_2 : x1.toInt + x2.toInt ≤ 1500) (hb_Zkz : Zkz G c x0) : ∃ q, f_Mo_wordToken_320 nf x0 x1 x2 x3 x4 c = some q ∧ Zwt zty G q ∧ Zfr G M_Mo_wordToken_320 c q ∧ Zk G q x0 := by
  have F0 : Zfr G M_Mo_wordToken_320 c c := Zfr.rf
  unfold f_Mo_wordToken_320
  obtain ⟨bkk0, bvv0, btn0, bz0, h0Zkz0, h1Zkz0, h2Zkz0, h3Zkz0, tkk0, tvv0, r0Zkz0, r1Zkz0, r2Zkz0, k0Zkz0⟩ := hb_Zkz
  refine wi (fun hq1 => ?_) (fun hq1 => ?_)
  · have := li_2
    have hq1 := i_eq hq1
    refine wi (fun hq2 => ?_) (fun hq2 => ?_)
    · have := li_109
      have := i_ge x3
      have := i_up x3
      have hq2 := i_eq hq2
      refine wi (fun hq3 => ?_) (fun hq3 => ?_)
      · have := li_48
        have := i_ge x4
        have := i_up x4
        have hq3 := i_lt hq3
        obtain ⟨qt4, eqt4, Wqt4, fqt4, pbZkqt4⟩ := p_Mo_wordToken_372 hn W (x1 := x1) (x2 := x2) (x3 := x3) (x4 := x4) t_x0 (by omega) (by omega) (by omega) (by omega) (by omega) ⟨bkk0, bvv0, btn0, bz0, h0Zkz0, h1Zkz0, h2Zkz0, h3Zkz0, tkk0, tvv0, by (try dsimp only); omega, by (try dsimp only); omega, by (try dsimp only); omega, k0Zkz0⟩
        have e9 := (Zfr.gr fqt4 t_x0 (by decide)).trans h0Zkz0
        have e10 := (Zfr.gr fqt4 t_x0 (by decide)).trans h1Zkz0
        have e11 := (Zfr.gi fqt4 t_x0 (by decide)).trans h2Zkz0
        have F13 := Zfr.tr F0 fqt4 (by decide)
        obtain ⟨bkkqt4, bvvqt4, h0Zkqt4, h1Zkqt4, tkkqt4, tvvqt4, k0Zkqt4⟩ := pbZkqt4
        exact ⟨_, eqt4, Wqt4, F13, ⟨bkkqt4, bvvqt4, h0Zkqt4, h1Zkqt4, tkkqt4, tvvqt4, k0Zkqt4⟩⟩
      · have := li_48
        have := i_ge x4
        have := i_up x4
        have hq3 := i_nlt hq3
        refine wi (fun hq16 => ?_) (fun hq16 => ?_)
        · have := li_55
          have hq16 := i_lt hq16
          obtain ⟨qt17, eqt17, Wqt17, fqt17, pbZkqt17⟩ := p_Mo_wordToken_372 hn W (x1 := x1) (x2 := x2) (x3 := x3) (x4 := x4) t_x0 (by omega) (by omega) (by omega) (by omega) (by omega) ⟨bkk0, bvv0, btn0, bz0, h0Zkz0, h1Zkz0, h2Zkz0, h3Zkz0, tkk0, tvv0, by (try dsimp only); omega, by (try dsimp only); omega, by (try dsimp only); omega, k0Zkz0⟩
          have e22 := (Zfr.gr fqt17 t_x0 (by decide)).trans h0Zkz0
          have e23 := (Zfr.gr fqt17 t_x0 (by decide)).trans h1Zkz0
          have e24 := (Zfr.gi fqt17 t_x0 (by decide)).trans h2Zkz0
          have F26 := Zfr.tr F0 fqt17 (by decide)
          obtain ⟨bkkqt17, bvvqt17, h0Zkqt17, h1Zkqt17, tkkqt17, tvvqt17, k0Zkqt17⟩ := pbZkqt17
          exact ⟨_, eqt17, Wqt17, F26, ⟨bkkqt17, bvvqt17, h0Zkqt17, h1Zkqt17, tkkqt17, tvvqt17, k0Zkqt17⟩⟩
        · have := li_55
          have hq16 := i_nlt hq16
          refine wb h0Zkz0 ?_
          refine wb h2Zkz0 ?_
          obtain ⟨c40, ec40, Wc40, fc40, gc40⟩ := pa_74 W tkk0 (i := btn0) (by omega) (by omega) (x := 3) (trivial)
          refine wb ec40 ?_
          have e29 := (Zfr.gr fc40 t_x0 (by decide)).trans h0Zkz0
          have e30 := (Zfr.gr fc40 t_x0 (by decide)).trans h1Zkz0
          have e31 := (Zfr.gi fc40 t_x0 (by decide)).trans h2Zkz0
          have e32 := (Zfr.ai fc40 tvv0 (by decide)).trans h3Zkz0
          have := li_3
          have k33 := TkM_wk k0Zkz0 tkk0 tvv0 ec40 h3Zkz0 (tkri (by (try dsimp only); omega) (by (try dsimp only); omega) (by (try dsimp only); omega) (by (try dsimp only); omega) (by (try dsimp only); omega))
          have F34 := Zfr.tr F0 fc40 (by decide)
          refine wb e30 ?_
          refine wb e31 ?_
          obtain ⟨c43, ec43, Wc43, fc43, gc43⟩ := pa_75 Wc40 tvv0 (i := btn0) (by omega) (by omega) (x := (x4 - 48)) (trivial)
          refine wb ec43 ?_
          have e35 := (Zfr.gr fc43 t_x0 (by decide)).trans e29
          have e36 := (Zfr.gr fc43 t_x0 (by decide)).trans e30
          have e37 := (Zfr.gi fc43 t_x0 (by decide)).trans e31
          have e38 := (Zfr.ai fc43 tkk0 (by decide)).trans gc40
          have := i_sub (a := x4) (b := 48) (by omega) (by omega)
          have k39 := TkM_wv k33 tkk0 tvv0 ec43 gc40 (tkri (by (try dsimp only); omega) (by (try dsimp only); omega) (by (try dsimp only); omega) (by (try dsimp only); omega) (by (try dsimp only); omega))
          have F40 := Zfr.tr F34 fc43 (by decide)
          unfold f_Mo_wordToken_479
          exact ⟨_, rfl, Wc43, F40, ⟨bkk0, bvv0, e35, e36, tkk0, tvv0, k39⟩⟩
    · have := li_109
      have := i_ge x3
      have := i_up x3
      have hq2 := i_ne hq2
      obtain ⟨qt43, eqt43, Wqt43, fqt43, pbZkqt43⟩ := p_Mo_wordToken_372 hn W (x1 := x1) (x2 := x2) (x3 := x3) (x4 := x4) t_x0 (by omega) (by omega) (by omega) (by omega) (by omega) ⟨bkk0, bvv0, btn0, bz0, h0Zkz0, h1Zkz0, h2Zkz0, h3Zkz0, tkk0, tvv0, by (try dsimp only); omega, by (try dsimp only); omega, by (try dsimp only); omega, k0Zkz0⟩
      have e48 := (Zfr.gr fqt43 t_x0 (by decide)).trans h0Zkz0
      have e49 := (Zfr.gr fqt43 t_x0 (by decide)).trans h1Zkz0
      have e50 := (Zfr.gi fqt43 t_x0 (by decide)).trans h2Zkz0
      have F52 := Zfr.tr F0 fqt43 (by decide)
      obtain ⟨bkkqt43, bvvqt43, h0Zkqt43, h1Zkqt43, tkkqt43, tvvqt43, k0Zkqt43⟩ := pbZkqt43
      exact ⟨_, eqt43, Wqt43, F52, ⟨bkkqt43, bvvqt43, h0Zkqt43, h1Zkqt43, tkkqt43, tvvqt43, k0Zkqt43⟩⟩
  · have := li_2
    have hq1 := i_ne hq1
    obtain ⟨qt55, eqt55, Wqt55, fqt55, pbZkqt55⟩ := p_Mo_wordToken_372 hn W (x1 := x1) (x2 := x2) (x3 := x3) (x4 := x4) t_x0 (by omega) (by omega) (by omega) (by omega) (by omega) ⟨bkk0, bvv0, btn0, bz0, h0Zkz0, h1Zkz0, h2Zkz0, h3Zkz0, tkk0, tvv0, by (try dsimp only); omega, by (try dsimp only); omega, by (try dsimp only); omega, k0Zkz0⟩
    have e60 := (Zfr.gr fqt55 t_x0 (by decide)).trans h0Zkz0
    have e61 := (Zfr.gr fqt55 t_x0 (by decide)).trans h1Zkz0
    have e62 := (Zfr.gi fqt55 t_x0 (by decide)).trans h2Zkz0
    have F64 := Zfr.tr F0 fqt55 (by decide)
    obtain ⟨bkkqt55, bvvqt55, h0Zkqt55, h1Zkqt55, tkkqt55, tvvqt55, k0Zkqt55⟩ := pbZkqt55
    exact ⟨_, eqt55, Wqt55, F64, ⟨bkkqt55, bvvqt55, h0Zkqt55, h1Zkqt55, tkkqt55, tvvqt55, k0Zkqt55⟩⟩

abbrev M_Mo_wordToken_274 : List (Nat × Nat) := [(74, 0), (75, 0)]
set_option maxRecDepth 100000 in
set_option maxHeartbeats 400000 in
theorem p_Mo_wordToken_274 {nf : Nat} (hn : 8589934592 ≤ nf) {G : List Nat} {c : Zc} (W : Zwt zty G c) {x0 : Nat} {x1 : Int32} {x2 : Int32} {x3 : Int32} {x4 : Int32}  (t_x0 : G[x0]? = some 64) (pl_x1 : 0 ≤ x1.toInt) (pu_x1 : x1.toInt ≤ 1499) (pl_x2 : 1 ≤ x2.toInt) (pu_x2 : x2.toInt ≤ 1500) (pp_2 : x1.toInt + x2.toInt ≤ 1500) (hb_Zkz : Zkz G c x0) : ∃ q, f_Mo_wordToken_274 nf x0 x1 x2 x3 x4 c = some q ∧ Zwt zty G q ∧ Zfr G M_Mo_wordToken_274 c q ∧ Zk G q x0 := by
  have F0 : Zfr G M_Mo_wordToken_274 c c := Zfr.rf
  unfold f_Mo_wordToken_274
  obtain ⟨bkk0, bvv0, btn0, bz0, h0Zkz0, h1Zkz0, h2Zkz0, h3Zkz0, tkk0, tvv0, r0Zkz0, r1Zkz0, r2Zkz0, k0Zkz0⟩ := hb_Zkz
  refine wi (fun hq1 => ?_) (fun hq1 => ?_)
  · have := li_1
    have hq1 := i_eq hq1
    refine wi (fun hq2 => ?_) (fun hq2 => ?_)
    · have := li_65
      have := i_ge x3
      have := i_up x3
      have hq2 := i_lt hq2
      obtain ⟨qt3, eqt3, Wqt3, fqt3, pbZkqt3⟩ := p_Mo_wordToken_320 hn W (x1 := x1) (x2 := x2) (x3 := x3) (x4 := x4) t_x0 (by omega) (by omega) (by omega) (by omega) (by omega) ⟨bkk0, bvv0, btn0, bz0, h0Zkz0, h1Zkz0, h2Zkz0, h3Zkz0, tkk0, tvv0, by (try dsimp only); omega, by (try dsimp only); omega, by (try dsimp only); omega, k0Zkz0⟩
      have e8 := (Zfr.gr fqt3 t_x0 (by decide)).trans h0Zkz0
      have e9 := (Zfr.gr fqt3 t_x0 (by decide)).trans h1Zkz0
      have e10 := (Zfr.gi fqt3 t_x0 (by decide)).trans h2Zkz0
      have F12 := Zfr.tr F0 fqt3 (by decide)
      obtain ⟨bkkqt3, bvvqt3, h0Zkqt3, h1Zkqt3, tkkqt3, tvvqt3, k0Zkqt3⟩ := pbZkqt3
      exact ⟨_, eqt3, Wqt3, F12, ⟨bkkqt3, bvvqt3, h0Zkqt3, h1Zkqt3, tkkqt3, tvvqt3, k0Zkqt3⟩⟩
    · have := li_65
      have := i_ge x3
      have := i_up x3
      have hq2 := i_nlt hq2
      refine wi (fun hq15 => ?_) (fun hq15 => ?_)
      · have := li_68
        have hq15 := i_lt hq15
        obtain ⟨qt16, eqt16, Wqt16, fqt16, pbZkqt16⟩ := p_Mo_wordToken_320 hn W (x1 := x1) (x2 := x2) (x3 := x3) (x4 := x4) t_x0 (by omega) (by omega) (by omega) (by omega) (by omega) ⟨bkk0, bvv0, btn0, bz0, h0Zkz0, h1Zkz0, h2Zkz0, h3Zkz0, tkk0, tvv0, by (try dsimp only); omega, by (try dsimp only); omega, by (try dsimp only); omega, k0Zkz0⟩
        have e21 := (Zfr.gr fqt16 t_x0 (by decide)).trans h0Zkz0
        have e22 := (Zfr.gr fqt16 t_x0 (by decide)).trans h1Zkz0
        have e23 := (Zfr.gi fqt16 t_x0 (by decide)).trans h2Zkz0
        have F25 := Zfr.tr F0 fqt16 (by decide)
        obtain ⟨bkkqt16, bvvqt16, h0Zkqt16, h1Zkqt16, tkkqt16, tvvqt16, k0Zkqt16⟩ := pbZkqt16
        exact ⟨_, eqt16, Wqt16, F25, ⟨bkkqt16, bvvqt16, h0Zkqt16, h1Zkqt16, tkkqt16, tvvqt16, k0Zkqt16⟩⟩
      · have := li_68
        have hq15 := i_nlt hq15
        refine wb h0Zkz0 ?_
        refine wb h2Zkz0 ?_
        obtain ⟨c48, ec48, Wc48, fc48, gc48⟩ := pa_74 W tkk0 (i := btn0) (by omega) (by omega) (x := 5) (trivial)
        refine wb ec48 ?_
        have e28 := (Zfr.gr fc48 t_x0 (by decide)).trans h0Zkz0
        have e29 := (Zfr.gr fc48 t_x0 (by decide)).trans h1Zkz0
        have e30 := (Zfr.gi fc48 t_x0 (by decide)).trans h2Zkz0
        have e31 := (Zfr.ai fc48 tvv0 (by decide)).trans h3Zkz0
        have := li_5
        have k32 := TkM_wk k0Zkz0 tkk0 tvv0 ec48 h3Zkz0 (tkri (by (try dsimp only); omega) (by (try dsimp only); omega) (by (try dsimp only); omega) (by (try dsimp only); omega) (by (try dsimp only); omega))
        have F33 := Zfr.tr F0 fc48 (by decide)
        refine wb e29 ?_
        refine wb e30 ?_
        obtain ⟨c51, ec51, Wc51, fc51, gc51⟩ := pa_75 Wc48 tvv0 (i := btn0) (by omega) (by omega) (x := ((8 + x3) - 65)) (trivial)
        refine wb ec51 ?_
        have e34 := (Zfr.gr fc51 t_x0 (by decide)).trans e28
        have e35 := (Zfr.gr fc51 t_x0 (by decide)).trans e29
        have e36 := (Zfr.gi fc51 t_x0 (by decide)).trans e30
        have e37 := (Zfr.ai fc51 tkk0 (by decide)).trans gc48
        have := li_8
        have := i_add (a := 8) (b := x3) (by omega) (by omega)
        have := i_sub (a := (8 + x3)) (b := 65) (by omega) (by omega)
        have k38 := TkM_wv k32 tkk0 tvv0 ec51 gc48 (tkri (by (try dsimp only); omega) (by (try dsimp only); omega) (by (try dsimp only); omega) (by (try dsimp only); omega) (by (try dsimp only); omega))
        have F39 := Zfr.tr F33 fc51 (by decide)
        unfold f_Mo_wordToken_479
        exact ⟨_, rfl, Wc51, F39, ⟨bkk0, bvv0, e34, e35, tkk0, tvv0, k38⟩⟩
  · have := li_1
    have hq1 := i_ne hq1
    obtain ⟨qt42, eqt42, Wqt42, fqt42, pbZkqt42⟩ := p_Mo_wordToken_320 hn W (x1 := x1) (x2 := x2) (x3 := x3) (x4 := x4) t_x0 (by omega) (by omega) (by omega) (by omega) (by omega) ⟨bkk0, bvv0, btn0, bz0, h0Zkz0, h1Zkz0, h2Zkz0, h3Zkz0, tkk0, tvv0, by (try dsimp only); omega, by (try dsimp only); omega, by (try dsimp only); omega, k0Zkz0⟩
    have e47 := (Zfr.gr fqt42 t_x0 (by decide)).trans h0Zkz0
    have e48 := (Zfr.gr fqt42 t_x0 (by decide)).trans h1Zkz0
    have e49 := (Zfr.gi fqt42 t_x0 (by decide)).trans h2Zkz0
    have F51 := Zfr.tr F0 fqt42 (by decide)
    obtain ⟨bkkqt42, bvvqt42, h0Zkqt42, h1Zkqt42, tkkqt42, tvvqt42, k0Zkqt42⟩ := pbZkqt42
    exact ⟨_, eqt42, Wqt42, F51, ⟨bkkqt42, bvvqt42, h0Zkqt42, h1Zkqt42, tkkqt42, tvvqt42, k0Zkqt42⟩⟩

abbrev M_Mo_wordToken_231 : List (Nat × Nat) := [(74, 0), (75, 0)]
set_option maxRecDepth 100000 in
set_option maxHeartbeats 400000 in
theorem p_Mo_wordToken_231 {nf : Nat} (hn : 8589934592 ≤ nf) {G : List Nat} {c : Zc} (W : Zwt zty G c) {x0 : Nat} {x1 : Int32} {x2 : Int32} {x3 : Int32} {x4 : Int32}  (t_x0 : G[x0]? = some 64) (pl_x1 : 0 ≤ x1.toInt) (pu_x1 : x1.toInt ≤ 1499) (pl_x2 : 1 ≤ x2.toInt) (pu_x2 : x2.toInt ≤ 1500) (pp_2 : x1.toInt + x2.toInt ≤ 1500) (hb_Zkz : Zkz G c x0) : ∃ q, f_Mo_wordToken_231 nf x0 x1 x2 x3 x4 c = some q ∧ Zwt zty G q ∧ Zfr G M_Mo_wordToken_231 c q ∧ Zk G q x0 := by
  have F0 : Zfr G M_Mo_wordToken_231 c c := Zfr.rf
  unfold f_Mo_wordToken_231
  obtain ⟨bkk0, bvv0, btn0, bz0, h0Zkz0, h1Zkz0, h2Zkz0, h3Zkz0, tkk0, tvv0, r0Zkz0, r1Zkz0, r2Zkz0, k0Zkz0⟩ := hb_Zkz
  refine wi (fun hq1 => ?_) (fun hq1 => ?_)
  · have := li_1
    have hq1 := i_eq hq1
    refine wi (fun hq2 => ?_) (fun hq2 => ?_)
    · have := li_97
      have := i_ge x3
      have := i_up x3
      have hq2 := i_lt hq2
      obtain ⟨qt3, eqt3, Wqt3, fqt3, pbZkqt3⟩ := p_Mo_wordToken_274 hn W (x1 := x1) (x2 := x2) (x3 := x3) (x4 := x4) t_x0 (by omega) (by omega) (by omega) (by omega) (by omega) ⟨bkk0, bvv0, btn0, bz0, h0Zkz0, h1Zkz0, h2Zkz0, h3Zkz0, tkk0, tvv0, by (try dsimp only); omega, by (try dsimp only); omega, by (try dsimp only); omega, k0Zkz0⟩
      have e8 := (Zfr.gr fqt3 t_x0 (by decide)).trans h0Zkz0
      have e9 := (Zfr.gr fqt3 t_x0 (by decide)).trans h1Zkz0
      have e10 := (Zfr.gi fqt3 t_x0 (by decide)).trans h2Zkz0
      have F12 := Zfr.tr F0 fqt3 (by decide)
      obtain ⟨bkkqt3, bvvqt3, h0Zkqt3, h1Zkqt3, tkkqt3, tvvqt3, k0Zkqt3⟩ := pbZkqt3
      exact ⟨_, eqt3, Wqt3, F12, ⟨bkkqt3, bvvqt3, h0Zkqt3, h1Zkqt3, tkkqt3, tvvqt3, k0Zkqt3⟩⟩
    · have := li_97
      have := i_ge x3
      have := i_up x3
      have hq2 := i_nlt hq2
      refine wi (fun hq15 => ?_) (fun hq15 => ?_)
      · have := li_104
        have hq15 := i_lt hq15
        obtain ⟨qt16, eqt16, Wqt16, fqt16, pbZkqt16⟩ := p_Mo_wordToken_274 hn W (x1 := x1) (x2 := x2) (x3 := x3) (x4 := x4) t_x0 (by omega) (by omega) (by omega) (by omega) (by omega) ⟨bkk0, bvv0, btn0, bz0, h0Zkz0, h1Zkz0, h2Zkz0, h3Zkz0, tkk0, tvv0, by (try dsimp only); omega, by (try dsimp only); omega, by (try dsimp only); omega, k0Zkz0⟩
        have e21 := (Zfr.gr fqt16 t_x0 (by decide)).trans h0Zkz0
        have e22 := (Zfr.gr fqt16 t_x0 (by decide)).trans h1Zkz0
        have e23 := (Zfr.gi fqt16 t_x0 (by decide)).trans h2Zkz0
        have F25 := Zfr.tr F0 fqt16 (by decide)
        obtain ⟨bkkqt16, bvvqt16, h0Zkqt16, h1Zkqt16, tkkqt16, tvvqt16, k0Zkqt16⟩ := pbZkqt16
        exact ⟨_, eqt16, Wqt16, F25, ⟨bkkqt16, bvvqt16, h0Zkqt16, h1Zkqt16, tkkqt16, tvvqt16, k0Zkqt16⟩⟩
      · have := li_104
        have hq15 := i_nlt hq15
        refine wb h0Zkz0 ?_
        refine wb h2Zkz0 ?_
        obtain ⟨c56, ec56, Wc56, fc56, gc56⟩ := pa_74 W tkk0 (i := btn0) (by omega) (by omega) (x := 5) (trivial)
        refine wb ec56 ?_
        have e28 := (Zfr.gr fc56 t_x0 (by decide)).trans h0Zkz0
        have e29 := (Zfr.gr fc56 t_x0 (by decide)).trans h1Zkz0
        have e30 := (Zfr.gi fc56 t_x0 (by decide)).trans h2Zkz0
        have e31 := (Zfr.ai fc56 tvv0 (by decide)).trans h3Zkz0
        have := li_5
        have k32 := TkM_wk k0Zkz0 tkk0 tvv0 ec56 h3Zkz0 (tkri (by (try dsimp only); omega) (by (try dsimp only); omega) (by (try dsimp only); omega) (by (try dsimp only); omega) (by (try dsimp only); omega))
        have F33 := Zfr.tr F0 fc56 (by decide)
        refine wb e29 ?_
        refine wb e30 ?_
        obtain ⟨c59, ec59, Wc59, fc59, gc59⟩ := pa_75 Wc56 tvv0 (i := btn0) (by omega) (by omega) (x := (x3 - 97)) (trivial)
        refine wb ec59 ?_
        have e34 := (Zfr.gr fc59 t_x0 (by decide)).trans e28
        have e35 := (Zfr.gr fc59 t_x0 (by decide)).trans e29
        have e36 := (Zfr.gi fc59 t_x0 (by decide)).trans e30
        have e37 := (Zfr.ai fc59 tkk0 (by decide)).trans gc56
        have := i_sub (a := x3) (b := 97) (by omega) (by omega)
        have k38 := TkM_wv k32 tkk0 tvv0 ec59 gc56 (tkri (by (try dsimp only); omega) (by (try dsimp only); omega) (by (try dsimp only); omega) (by (try dsimp only); omega) (by (try dsimp only); omega))
        have F39 := Zfr.tr F33 fc59 (by decide)
        unfold f_Mo_wordToken_479
        exact ⟨_, rfl, Wc59, F39, ⟨bkk0, bvv0, e34, e35, tkk0, tvv0, k38⟩⟩
  · have := li_1
    have hq1 := i_ne hq1
    obtain ⟨qt42, eqt42, Wqt42, fqt42, pbZkqt42⟩ := p_Mo_wordToken_274 hn W (x1 := x1) (x2 := x2) (x3 := x3) (x4 := x4) t_x0 (by omega) (by omega) (by omega) (by omega) (by omega) ⟨bkk0, bvv0, btn0, bz0, h0Zkz0, h1Zkz0, h2Zkz0, h3Zkz0, tkk0, tvv0, by (try dsimp only); omega, by (try dsimp only); omega, by (try dsimp only); omega, k0Zkz0⟩
    have e47 := (Zfr.gr fqt42 t_x0 (by decide)).trans h0Zkz0
    have e48 := (Zfr.gr fqt42 t_x0 (by decide)).trans h1Zkz0
    have e49 := (Zfr.gi fqt42 t_x0 (by decide)).trans h2Zkz0
    have F51 := Zfr.tr F0 fqt42 (by decide)
    obtain ⟨bkkqt42, bvvqt42, h0Zkqt42, h1Zkqt42, tkkqt42, tvvqt42, k0Zkqt42⟩ := pbZkqt42
    exact ⟨_, eqt42, Wqt42, F51, ⟨bkkqt42, bvvqt42, h0Zkqt42, h1Zkqt42, tkkqt42, tvvqt42, k0Zkqt42⟩⟩

abbrev M_Mo_wordToken_186 : List (Nat × Nat) := [(74, 0), (75, 0)]
set_option maxRecDepth 100000 in
set_option maxHeartbeats 400000 in
theorem p_Mo_wordToken_186 {nf : Nat} (hn : 8589934592 ≤ nf) {G : List Nat} {c : Zc} (W : Zwt zty G c) {x0 : Nat} {x2 : Int32} {x3 : Int32} {x4 : Int32}  (t_x0 : G[x0]? = some 64) (pl_x3 : 117 ≤ x3.toInt) (pu_x3 : x3.toInt ≤ 122) (pl_x2 : 1 ≤ x2.toInt) (pu_x2 : x2.toInt ≤ 2) (pp_2 : (x2.toInt = 1 ∨ (48 ≤ x4.toInt ∧ x4.toInt ≤ 57))) (hb_Zkz : Zkz G c x0) : ∃ q, f_Mo_wordToken_186 nf x0 x2 x3 x4 c = some q ∧ Zwt zty G q ∧ Zfr G M_Mo_wordToken_186 c q ∧ Zk G q x0 := by
  have F0 : Zfr G M_Mo_wordToken_186 c c := Zfr.rf
  unfold f_Mo_wordToken_186
  obtain ⟨bkk0, bvv0, btn0, bz0, h0Zkz0, h1Zkz0, h2Zkz0, h3Zkz0, tkk0, tvv0, r0Zkz0, r1Zkz0, r2Zkz0, k0Zkz0⟩ := hb_Zkz
  refine wb h0Zkz0 ?_
  refine wb h2Zkz0 ?_
  obtain ⟨c66, ec66, Wc66, fc66, gc66⟩ := pa_74 W tkk0 (i := btn0) (by omega) (by omega) (x := 2) (trivial)
  refine wb ec66 ?_
  have e1 := (Zfr.gr fc66 t_x0 (by decide)).trans h0Zkz0
  have e2 := (Zfr.gr fc66 t_x0 (by decide)).trans h1Zkz0
  have e3 := (Zfr.gi fc66 t_x0 (by decide)).trans h2Zkz0
  have e4 := (Zfr.ai fc66 tvv0 (by decide)).trans h3Zkz0
  have := li_2
  have k5 := TkM_wk k0Zkz0 tkk0 tvv0 ec66 h3Zkz0 (tkri (by (try dsimp only); omega) (by (try dsimp only); omega) (by (try dsimp only); omega) (by (try dsimp only); omega) (by (try dsimp only); omega))
  have F6 := Zfr.tr F0 fc66 (by decide)
  refine wb e2 ?_
  refine wb e3 ?_
  refine wi (fun hq7 => ?_) (fun hq7 => ?_)
  · have := li_1
    have hq7 := i_eq hq7
    unfold f_Mo_wordToken_226
    obtain ⟨c70, ec70, Wc70, fc70, gc70⟩ := pa_75 Wc66 tvv0 (i := btn0) (by omega) (by omega) (x := ((11 * (x3 - 117)) + 10)) (trivial)
    refine wb ec70 ?_
    have e8 := (Zfr.gr fc70 t_x0 (by decide)).trans e1
    have e9 := (Zfr.gr fc70 t_x0 (by decide)).trans e2
    have e10 := (Zfr.gi fc70 t_x0 (by decide)).trans e3
    have e11 := (Zfr.ai fc70 tkk0 (by decide)).trans gc66
    have := li_11
    have := li_117
    have := i_sub (a := x3) (b := 117) (by omega) (by omega)
    have := i_mull (a := 11) (b := (x3 - 117)) (n := 11) li_11 (by omega) (by omega)
    have := li_10
    have := i_add (a := (11 * (x3 - 117))) (b := 10) (by omega) (by omega)
    have k12 := TkM_wv k5 tkk0 tvv0 ec70 gc66 (tkri (by (try dsimp only); omega) (by (try dsimp only); omega) (by (try dsimp only); omega) (by (try dsimp only); omega) (by (try dsimp only); omega))
    have F13 := Zfr.tr F6 fc70 (by decide)
    unfold f_Mo_wordToken_479
    exact ⟨_, rfl, Wc70, F13, ⟨bkk0, bvv0, e8, e9, tkk0, tvv0, k12⟩⟩
  · have := li_1
    have hq7 := i_ne hq7
    unfold f_Mo_wordToken_226
    obtain ⟨c70, ec70, Wc70, fc70, gc70⟩ := pa_75 Wc66 tvv0 (i := btn0) (by omega) (by omega) (x := ((11 * (x3 - 117)) + (x4 - 48))) (trivial)
    refine wb ec70 ?_
    have e16 := (Zfr.gr fc70 t_x0 (by decide)).trans e1
    have e17 := (Zfr.gr fc70 t_x0 (by decide)).trans e2
    have e18 := (Zfr.gi fc70 t_x0 (by decide)).trans e3
    have e19 := (Zfr.ai fc70 tkk0 (by decide)).trans gc66
    have := li_11
    have := li_117
    have := i_sub (a := x3) (b := 117) (by omega) (by omega)
    have := i_mull (a := 11) (b := (x3 - 117)) (n := 11) li_11 (by omega) (by omega)
    have := li_48
    have := i_sub (a := x4) (b := 48) (by omega) (by omega)
    have := i_add (a := (11 * (x3 - 117))) (b := (x4 - 48)) (by omega) (by omega)
    have k20 := TkM_wv k5 tkk0 tvv0 ec70 gc66 (tkri (by (try dsimp only); omega) (by (try dsimp only); omega) (by (try dsimp only); omega) (by (try dsimp only); omega) (by (try dsimp only); omega))
    have F21 := Zfr.tr F6 fc70 (by decide)
    unfold f_Mo_wordToken_479
    exact ⟨_, rfl, Wc70, F21, ⟨bkk0, bvv0, e16, e17, tkk0, tvv0, k20⟩⟩

abbrev M_Mo_wordToken_166 : List (Nat × Nat) := [(74, 0), (75, 0)]
set_option maxRecDepth 100000 in
set_option maxHeartbeats 400000 in
theorem p_Mo_wordToken_166 {nf : Nat} (hn : 8589934592 ≤ nf) {G : List Nat} {c : Zc} (W : Zwt zty G c) {x0 : Nat} {x1 : Int32} {x2 : Int32} {x3 : Int32} {x4 : Int32}  (t_x0 : G[x0]? = some 64) (pl_x1 : 0 ≤ x1.toInt) (pu_x1 : x1.toInt ≤ 1499) (pl_x2 : 1 ≤ x2.toInt) (pu_x2 : x2.toInt ≤ 1500) (pp_2 : x1.toInt + x2.toInt ≤ 1500) (hb_Zkz : Zkz G c x0) : ∃ q, f_Mo_wordToken_166 nf x0 x1 x2 x3 x4 c = some q ∧ Zwt zty G q ∧ Zfr G M_Mo_wordToken_166 c q ∧ Zk G q x0 := by
  have F0 : Zfr G M_Mo_wordToken_166 c c := Zfr.rf
  unfold f_Mo_wordToken_166
  obtain ⟨bkk0, bvv0, btn0, bz0, h0Zkz0, h1Zkz0, h2Zkz0, h3Zkz0, tkk0, tvv0, r0Zkz0, r1Zkz0, r2Zkz0, k0Zkz0⟩ := hb_Zkz
  refine wi (fun hq1 => ?_) (fun hq1 => ?_)
  · have := li_2
    have hq1 := i_eq hq1
    obtain ⟨q60, eq60, Wq60, fq60, po0q60, pl1q60, pu1q60⟩ := p_Mo_isVariable hn W (a0 := x3) 
    refine wb eq60 ?_
    have e2 := (Zfr.gr fq60 t_x0 (by decide)).trans h0Zkz0
    have e3 := (Zfr.gr fq60 t_x0 (by decide)).trans h1Zkz0
    have e4 := (Zfr.gi fq60 t_x0 (by decide)).trans h2Zkz0
    have e5 := (Zfr.ai fq60 tvv0 (by decide)).trans h3Zkz0
    have k6 := TkM_fr k0Zkz0 fq60 tkk0 tvv0 (by decide) (by decide)
    have F7 := Zfr.tr F0 fq60 (by decide)
    refine wi (fun hq8 => ?_) (fun hq8 => ?_)
    · have := li_0
      have hq8 := i_eq hq8
      obtain ⟨qt9, eqt9, Wqt9, fqt9, pbZkqt9⟩ := p_Mo_wordToken_231 hn Wq60 (x1 := x1) (x2 := x2) (x3 := x3) (x4 := x4) t_x0 (by omega) (by omega) (by omega) (by omega) (by omega) ⟨bkk0, bvv0, btn0, bz0, e2, e3, e4, e5, tkk0, tvv0, by (try dsimp only); omega, by (try dsimp only); omega, by (try dsimp only); omega, k6⟩
      have e14 := (Zfr.gr fqt9 t_x0 (by decide)).trans e2
      have e15 := (Zfr.gr fqt9 t_x0 (by decide)).trans e3
      have e16 := (Zfr.gi fqt9 t_x0 (by decide)).trans e4
      have F18 := Zfr.tr F7 fqt9 (by decide)
      obtain ⟨bkkqt9, bvvqt9, h0Zkqt9, h1Zkqt9, tkkqt9, tvvqt9, k0Zkqt9⟩ := pbZkqt9
      exact ⟨_, eqt9, Wqt9, F18, ⟨bkkqt9, bvvqt9, h0Zkqt9, h1Zkqt9, tkkqt9, tvvqt9, k0Zkqt9⟩⟩
    · have := li_0
      have hq8 := i_ne hq8
      obtain ⟨q62, eq62, Wq62, fq62, po0q62, pl1q62, pu1q62⟩ := p_Mo_isDigit hn Wq60 (a0 := x4) 
      refine wb eq62 ?_
      have e21 := (Zfr.gr fq62 t_x0 (by decide)).trans e2
      have e22 := (Zfr.gr fq62 t_x0 (by decide)).trans e3
      have e23 := (Zfr.gi fq62 t_x0 (by decide)).trans e4
      have e24 := (Zfr.ai fq62 tvv0 (by decide)).trans e5
      have k25 := TkM_fr k6 fq62 tkk0 tvv0 (by decide) (by decide)
      have F26 := Zfr.tr F7 fq62 (by decide)
      refine wi (fun hq27 => ?_) (fun hq27 => ?_)
      · have hq27 := i_eq hq27
        obtain ⟨qt28, eqt28, Wqt28, fqt28, pbZkqt28⟩ := p_Mo_wordToken_231 hn Wq62 (x1 := x1) (x2 := x2) (x3 := x3) (x4 := x4) t_x0 (by omega) (by omega) (by omega) (by omega) (by omega) ⟨bkk0, bvv0, btn0, bz0, e21, e22, e23, e24, tkk0, tvv0, by (try dsimp only); omega, by (try dsimp only); omega, by (try dsimp only); omega, k25⟩
        have e33 := (Zfr.gr fqt28 t_x0 (by decide)).trans e21
        have e34 := (Zfr.gr fqt28 t_x0 (by decide)).trans e22
        have e35 := (Zfr.gi fqt28 t_x0 (by decide)).trans e23
        have F37 := Zfr.tr F26 fqt28 (by decide)
        obtain ⟨bkkqt28, bvvqt28, h0Zkqt28, h1Zkqt28, tkkqt28, tvvqt28, k0Zkqt28⟩ := pbZkqt28
        exact ⟨_, eqt28, Wqt28, F37, ⟨bkkqt28, bvvqt28, h0Zkqt28, h1Zkqt28, tkkqt28, tvvqt28, k0Zkqt28⟩⟩
      · have hq27 := i_ne hq27
        obtain ⟨qt40, eqt40, Wqt40, fqt40, pbZkqt40⟩ := p_Mo_wordToken_186 hn Wq62 (x2 := x2) (x3 := x3) (x4 := x4) t_x0 (by omega) (by omega) (by omega) (by omega) (by omega) ⟨bkk0, bvv0, btn0, bz0, e21, e22, e23, e24, tkk0, tvv0, by (try dsimp only); omega, by (try dsimp only); omega, by (try dsimp only); omega, k25⟩
        have e45 := (Zfr.gr fqt40 t_x0 (by decide)).trans e21
        have e46 := (Zfr.gr fqt40 t_x0 (by decide)).trans e22
        have e47 := (Zfr.gi fqt40 t_x0 (by decide)).trans e23
        have F49 := Zfr.tr F26 fqt40 (by decide)
        obtain ⟨bkkqt40, bvvqt40, h0Zkqt40, h1Zkqt40, tkkqt40, tvvqt40, k0Zkqt40⟩ := pbZkqt40
        exact ⟨_, eqt40, Wqt40, F49, ⟨bkkqt40, bvvqt40, h0Zkqt40, h1Zkqt40, tkkqt40, tvvqt40, k0Zkqt40⟩⟩
  · have := li_2
    have hq1 := i_ne hq1
    obtain ⟨qt52, eqt52, Wqt52, fqt52, pbZkqt52⟩ := p_Mo_wordToken_231 hn W (x1 := x1) (x2 := x2) (x3 := x3) (x4 := x4) t_x0 (by omega) (by omega) (by omega) (by omega) (by omega) ⟨bkk0, bvv0, btn0, bz0, h0Zkz0, h1Zkz0, h2Zkz0, h3Zkz0, tkk0, tvv0, by (try dsimp only); omega, by (try dsimp only); omega, by (try dsimp only); omega, k0Zkz0⟩
    have e57 := (Zfr.gr fqt52 t_x0 (by decide)).trans h0Zkz0
    have e58 := (Zfr.gr fqt52 t_x0 (by decide)).trans h1Zkz0
    have e59 := (Zfr.gi fqt52 t_x0 (by decide)).trans h2Zkz0
    have F61 := Zfr.tr F0 fqt52 (by decide)
    obtain ⟨bkkqt52, bvvqt52, h0Zkqt52, h1Zkqt52, tkkqt52, tvvqt52, k0Zkqt52⟩ := pbZkqt52
    exact ⟨_, eqt52, Wqt52, F61, ⟨bkkqt52, bvvqt52, h0Zkqt52, h1Zkqt52, tkkqt52, tvvqt52, k0Zkqt52⟩⟩

abbrev M_Mo_wordToken_122 : List (Nat × Nat) := [(74, 0), (75, 0)]
set_option maxRecDepth 100000 in
set_option maxHeartbeats 400000 in
theorem p_Mo_wordToken_122 {nf : Nat} (hn : 8589934592 ≤ nf) {G : List Nat} {c : Zc} (W : Zwt zty G c) {x0 : Nat} {x5 : Int32} {x6 : Int32}  (t_x0 : G[x0]? = some 64) (pl_x5 : 0 ≤ x5.toInt) (pu_x5 : x5.toInt ≤ 1) (pp_1 : (x5.toInt = 0 ∨ (0 ≤ x6.toInt ∧ x6.toInt ≤ 9999))) (hb_Zkz : Zkz G c x0) : ∃ q, f_Mo_wordToken_122 nf x0 x5 x6 c = some q ∧ Zwt zty G q ∧ Zfr G M_Mo_wordToken_122 c q ∧ Zk G q x0 := by
  have F0 : Zfr G M_Mo_wordToken_122 c c := Zfr.rf
  unfold f_Mo_wordToken_122
  obtain ⟨bkk0, bvv0, btn0, bz0, h0Zkz0, h1Zkz0, h2Zkz0, h3Zkz0, tkk0, tvv0, r0Zkz0, r1Zkz0, r2Zkz0, k0Zkz0⟩ := hb_Zkz
  refine wb h0Zkz0 ?_
  refine wb h2Zkz0 ?_
  refine wi (fun hq1 => ?_) (fun hq1 => ?_)
  · have := li_0
    have hq1 := i_eq hq1
    unfold f_Mo_wordToken_141
    obtain ⟨c84, ec84, Wc84, fc84, gc84⟩ := pa_74 W tkk0 (i := btn0) (by omega) (by omega) (x := 1) (trivial)
    refine wb ec84 ?_
    have e2 := (Zfr.gr fc84 t_x0 (by decide)).trans h0Zkz0
    have e3 := (Zfr.gr fc84 t_x0 (by decide)).trans h1Zkz0
    have e4 := (Zfr.gi fc84 t_x0 (by decide)).trans h2Zkz0
    have e5 := (Zfr.ai fc84 tvv0 (by decide)).trans h3Zkz0
    have := li_1
    have k6 := TkM_wk k0Zkz0 tkk0 tvv0 ec84 h3Zkz0 (tkri (by (try dsimp only); omega) (by (try dsimp only); omega) (by (try dsimp only); omega) (by (try dsimp only); omega) (by (try dsimp only); omega))
    have F7 := Zfr.tr F0 fc84 (by decide)
    refine wb e3 ?_
    refine wb e4 ?_
    obtain ⟨c87, ec87, Wc87, fc87, gc87⟩ := pa_75 Wc84 tvv0 (i := btn0) (by omega) (by omega) (x := x6) (trivial)
    refine wb ec87 ?_
    have e8 := (Zfr.gr fc87 t_x0 (by decide)).trans e2
    have e9 := (Zfr.gr fc87 t_x0 (by decide)).trans e3
    have e10 := (Zfr.gi fc87 t_x0 (by decide)).trans e4
    have e11 := (Zfr.ai fc87 tkk0 (by decide)).trans gc84
    have k12 := TkM_wv k6 tkk0 tvv0 ec87 gc84 (tkri (by (try dsimp only); omega) (by (try dsimp only); omega) (by (try dsimp only); omega) (by (try dsimp only); omega) (by (try dsimp only); omega))
    have F13 := Zfr.tr F7 fc87 (by decide)
    exact ⟨_, rfl, Wc87, F13, ⟨bkk0, bvv0, e8, e9, tkk0, tvv0, k12⟩⟩
  · have := li_0
    have hq1 := i_ne hq1
    unfold f_Mo_wordToken_141
    obtain ⟨c84, ec84, Wc84, fc84, gc84⟩ := pa_74 W tkk0 (i := btn0) (by omega) (by omega) (x := 6) (trivial)
    refine wb ec84 ?_
    have e16 := (Zfr.gr fc84 t_x0 (by decide)).trans h0Zkz0
    have e17 := (Zfr.gr fc84 t_x0 (by decide)).trans h1Zkz0
    have e18 := (Zfr.gi fc84 t_x0 (by decide)).trans h2Zkz0
    have e19 := (Zfr.ai fc84 tvv0 (by decide)).trans h3Zkz0
    have := li_6
    have k20 := TkM_wk k0Zkz0 tkk0 tvv0 ec84 h3Zkz0 (tkri (by (try dsimp only); omega) (by (try dsimp only); omega) (by (try dsimp only); omega) (by (try dsimp only); omega) (by (try dsimp only); omega))
    have F21 := Zfr.tr F0 fc84 (by decide)
    refine wb e17 ?_
    refine wb e18 ?_
    obtain ⟨c87, ec87, Wc87, fc87, gc87⟩ := pa_75 Wc84 tvv0 (i := btn0) (by omega) (by omega) (x := x6) (trivial)
    refine wb ec87 ?_
    have e22 := (Zfr.gr fc87 t_x0 (by decide)).trans e16
    have e23 := (Zfr.gr fc87 t_x0 (by decide)).trans e17
    have e24 := (Zfr.gi fc87 t_x0 (by decide)).trans e18
    have e25 := (Zfr.ai fc87 tkk0 (by decide)).trans gc84
    have k26 := TkM_wv k20 tkk0 tvv0 ec87 gc84 (tkri (by (try dsimp only); omega) (by (try dsimp only); omega) (by (try dsimp only); omega) (by (try dsimp only); omega) (by (try dsimp only); omega))
    have F27 := Zfr.tr F21 fc87 (by decide)
    exact ⟨_, rfl, Wc87, F27, ⟨bkk0, bvv0, e22, e23, tkk0, tvv0, k26⟩⟩

abbrev M_Mo_wordToken_71 : List (Nat × Nat) := [(74, 0), (75, 0)]
set_option maxRecDepth 100000 in
set_option maxHeartbeats 400000 in
theorem p_Mo_wordToken_71 {nf : Nat} (hn : 8589934592 ≤ nf) {G : List Nat} {c : Zc} (W : Zwt zty G c) {x0 : Nat} {x1 : Int32} {x2 : Int32} {x5 : Int32} {x6 : Int32} {x7 : Int32}  (t_x0 : G[x0]? = some 64) (pl_x1 : 0 ≤ x1.toInt) (pu_x1 : x1.toInt ≤ 1499) (pl_x2 : 1 ≤ x2.toInt) (pu_x2 : x2.toInt ≤ 1500) (pl_x5 : 0 ≤ x5.toInt) (pu_x5 : x5.toInt ≤ 1) (pl_x6 : 0 ≤ x6.toInt) (pu_x6 : x6.toInt ≤ 0) (pl_x7 : 0 ≤ x7.toInt) (pu_x7 : x7.toInt ≤ 0) (pp_2 : x1.toInt + x2.toInt ≤ 1500) (pp_6 : (x5.toInt = 0 ∨ x2.toInt ≤ 4)) (hb_Zkz : Zkz G c x0) : ∃ q, f_Mo_wordToken_71 nf x0 x1 x2 x5 x6 x7 c = some q ∧ Zwt zty G q ∧ Zfr G M_Mo_wordToken_71 c q ∧ Zk G q x0 := by
  have F0 : Zfr G M_Mo_wordToken_71 c c := Zfr.rf
  unfold f_Mo_wordToken_71
  obtain ⟨bkk0, bvv0, btn0, bz0, h0Zkz0, h1Zkz0, h2Zkz0, h3Zkz0, tkk0, tvv0, r0Zkz0, r1Zkz0, r2Zkz0, k0Zkz0⟩ := hb_Zkz
  have L1 : ∃ b, zlp (fun a : Nat × Int32 × Int32 × Int32 × Int32 × Int32 × Zc => g_Mo_wordToken_71 nf a.1 a.2.1 a.2.2.1 a.2.2.2.1 a.2.2.2.2.1 a.2.2.2.2.2.1 a.2.2.2.2.2.2) nf (x0, x1, x2, x5, x6, x7, c) = some b ∧ (fun b : (Nat × Int32 × Int32 × Zc) => x0 = b.1 ∧ Zwt zty G b.2.2.2 ∧ Zfr G ([] : List (Nat × Nat)) c b.2.2.2 ∧ 0 ≤ b.2.1.toInt ∧ b.2.1.toInt ≤ 1 ∧ (b.2.1.toInt = 0 ∨ (0 ≤ b.2.2.1.toInt ∧ b.2.2.1.toInt ≤ 9999)) ∧ Zkz G b.2.2.2 x0) b := by
    refine wlp (fun a : Nat × Int32 × Int32 × Int32 × Int32 × Int32 × Zc => x0 = a.1 ∧ x1 = a.2.1 ∧ x2 = a.2.2.1 ∧ Zwt zty G a.2.2.2.2.2.2 ∧ Zfr G ([] : List (Nat × Nat)) c a.2.2.2.2.2.2 ∧ 0 ≤ a.2.2.2.1.toInt ∧ a.2.2.2.1.toInt ≤ 1 ∧ 0 ≤ a.2.2.2.2.2.1.toInt ∧ a.2.2.2.2.2.1.toInt ≤ 1500 ∧ (a.2.2.2.1.toInt = 0 ∨ x2.toInt ≤ 4) ∧ (a.2.2.2.1.toInt = 0 ∨ (a.2.2.2.2.2.1.toInt = 0 ∧ 0 ≤ a.2.2.2.2.1.toInt ∧ a.2.2.2.2.1.toInt ≤ 0) ∨ (a.2.2.2.2.2.1.toInt = 1 ∧ 0 ≤ a.2.2.2.2.1.toInt ∧ a.2.2.2.2.1.toInt ≤ 9) ∨ (a.2.2.2.2.2.1.toInt = 2 ∧ 0 ≤ a.2.2.2.2.1.toInt ∧ a.2.2.2.2.1.toInt ≤ 99) ∨ (a.2.2.2.2.2.1.toInt = 3 ∧ 0 ≤ a.2.2.2.2.1.toInt ∧ a.2.2.2.2.1.toInt ≤ 999) ∨ (a.2.2.2.2.2.1.toInt = 4 ∧ 0 ≤ a.2.2.2.2.1.toInt ∧ a.2.2.2.2.1.toInt ≤ 9999)) ∧ Zkz G a.2.2.2.2.2.2 x0) (fun a => (1500 - a.2.2.2.2.2.1.toInt).toNat) (fun b : (Nat × Int32 × Int32 × Zc) => x0 = b.1 ∧ Zwt zty G b.2.2.2 ∧ Zfr G ([] : List (Nat × Nat)) c b.2.2.2 ∧ 0 ≤ b.2.1.toInt ∧ b.2.1.toInt ≤ 1 ∧ (b.2.1.toInt = 0 ∨ (0 ≤ b.2.2.1.toInt ∧ b.2.2.1.toInt ≤ 9999)) ∧ Zkz G b.2.2.2 x0) ?_ ?_ ?_
    · rintro ⟨x0_2, x1_2, x2_2, x5_2, x6_2, x7_2, c_2⟩ hI
      try dsimp only at hI ⊢
      obtain ⟨rfl, rfl, rfl, WLc_2, FLc_2, j3, j4, j5, j6, j7, j8, hBZkz_2⟩ := hI
      have e9 := (Zfr.gr FLc_2 t_x0 (by decide)).trans h0Zkz0
      have e10 := (Zfr.gr FLc_2 t_x0 (by decide)).trans h1Zkz0
      have e11 := (Zfr.gi FLc_2 t_x0 (by decide)).trans h2Zkz0
      have e12 := (Zfr.ai FLc_2 tvv0 (by decide)).trans h3Zkz0
      obtain ⟨bkk_2, bvv_2, btn_2, bz_2, h0Zkz_2, h1Zkz_2, h2Zkz_2, h3Zkz_2, tkk_2, tvv_2, r0Zkz_2, r1Zkz_2, r2Zkz_2, k0Zkz_2⟩ := hBZkz_2
      unfold g_Mo_wordToken_71
      refine wi (fun hq13 => ?_) (fun hq13 => ?_)
      · have hq13 := i_le hq13
        exact lInr ⟨rfl, WLc_2, FLc_2, by (try dsimp only); omega, by (try dsimp only); omega, by (try dsimp only); omega, ⟨bkk_2, bvv_2, btn_2, bz_2, h0Zkz_2, h1Zkz_2, h2Zkz_2, h3Zkz_2, tkk_2, tvv_2, by (try dsimp only); omega, by (try dsimp only); omega, by (try dsimp only); omega, k0Zkz_2⟩⟩
      · have hq13 := i_nle hq13
        refine wi (fun hq18 => ?_) (fun hq18 => ?_)
        · have := li_0
          have hq18 := i_eq hq18
          exact lInr ⟨rfl, WLc_2, FLc_2, by (try dsimp only); omega, by (try dsimp only); omega, by (try dsimp only); omega, ⟨bkk_2, bvv_2, btn_2, bz_2, h0Zkz_2, h1Zkz_2, h2Zkz_2, h3Zkz_2, tkk_2, tvv_2, by (try dsimp only); omega, by (try dsimp only); omega, by (try dsimp only); omega, k0Zkz_2⟩⟩
        · have := li_0
          have hq18 := i_ne hq18
          obtain ⟨v76, ev76, tv76⟩ := gf_64_12 WLc_2 t_x0
          refine wb ev76 ?_
          have := i_add (a := x1) (b := x7_2) (by omega) (by omega)
          obtain ⟨v77, ev77, _⟩ := ga_73 WLc_2 tv76 (i := (x1 + x7_2)) (by omega) (by omega)
          refine wb ev77 ?_
          obtain ⟨q78, eq78, Wq78, fq78, po0q78, pl1q78, pu1q78⟩ := p_Mo_isDigit hn WLc_2 (a0 := v77) 
          refine wb eq78 ?_
          have e23 := (Zfr.gr fq78 t_x0 (by decide)).trans h0Zkz_2
          have e24 := (Zfr.gr fq78 t_x0 (by decide)).trans h1Zkz_2
          have e25 := (Zfr.gi fq78 t_x0 (by decide)).trans h2Zkz_2
          have e26 := (Zfr.ai fq78 tvv0 (by decide)).trans e12
          have e27 := (Zfr.ai fq78 tvv_2 (by decide)).trans h3Zkz_2
          have e28 := (Zfr.gr fq78 t_x0 (by decide)).trans ev76
          have e29 := (Zfr.ai fq78 tv76 (by decide)).trans ev77
          have k30 := TkM_fr k0Zkz_2 fq78 tkk_2 tvv_2 (by decide) (by decide)
          have F31 := Zfr.tr FLc_2 fq78 (by decide)
          refine wb e28 ?_
          refine wb e29 ?_
          have := wd_num (x := x6_2) (v := v77) (q := q78.1) (by omega) (by omega)
          have := li_10
          have := li_48
          have := li_1
          have := i_add (a := x7_2) (b := 1) (by omega) (by omega)
          exact lInl ⟨rfl, rfl, rfl, Wq78, F31, by (try dsimp only); omega, by (try dsimp only); omega, by (try dsimp only); omega, by (try dsimp only); omega, by (try dsimp only); omega, by (try dsimp only); omega, ⟨bkk_2, bvv_2, btn_2, bz_2, e23, e24, e25, e27, tkk_2, tvv_2, by (try dsimp only); omega, by (try dsimp only); omega, by (try dsimp only); omega, k30⟩⟩ (by (try dsimp only); omega)
    · exact ⟨rfl, rfl, rfl, W, Zfr.rf, by (try dsimp only); omega, by (try dsimp only); omega, by (try dsimp only); omega, by (try dsimp only); omega, by (try dsimp only); omega, by (try dsimp only); omega, ⟨bkk0, bvv0, btn0, bz0, h0Zkz0, h1Zkz0, h2Zkz0, h3Zkz0, tkk0, tvv0, by (try dsimp only); omega, by (try dsimp only); omega, by (try dsimp only); omega, k0Zkz0⟩⟩
    · (try dsimp only); omega
  obtain ⟨b, eb, hb⟩ := L1
  refine wb eb ?_
  clear eb
  obtain ⟨z0_40, z1_40, z2_40, c_40⟩ := b
  try dsimp only at hb ⊢
  obtain ⟨rfl, WXc_40, FXc_40, j41, j42, j43, hXZkzc_40⟩ := hb
  have e44 := (Zfr.gr FXc_40 t_x0 (by decide)).trans h0Zkz0
  have e45 := (Zfr.gr FXc_40 t_x0 (by decide)).trans h1Zkz0
  have e46 := (Zfr.gi FXc_40 t_x0 (by decide)).trans h2Zkz0
  have e47 := (Zfr.ai FXc_40 tvv0 (by decide)).trans h3Zkz0
  have k48 := TkM_fr k0Zkz0 FXc_40 tkk0 tvv0 (by decide) (by decide)
  have F49 := Zfr.tr F0 FXc_40 (by decide)
  obtain ⟨bkkxc_40, bvvxc_40, btnxc_40, bzxc_40, h0Zkzxc_40, h1Zkzxc_40, h2Zkzxc_40, h3Zkzxc_40, tkkxc_40, tvvxc_40, r0Zkzxc_40, r1Zkzxc_40, r2Zkzxc_40, k0Zkzxc_40⟩ := hXZkzc_40
  obtain ⟨qt50, eqt50, Wqt50, fqt50, pbZkqt50⟩ := p_Mo_wordToken_122 hn WXc_40 (x5 := z1_40) (x6 := z2_40) t_x0 (by omega) (by omega) (by omega) ⟨bkkxc_40, bvvxc_40, btnxc_40, bzxc_40, h0Zkzxc_40, h1Zkzxc_40, h2Zkzxc_40, h3Zkzxc_40, tkkxc_40, tvvxc_40, by (try dsimp only); omega, by (try dsimp only); omega, by (try dsimp only); omega, k0Zkzxc_40⟩
  have e55 := (Zfr.gr fqt50 t_x0 (by decide)).trans h0Zkzxc_40
  have e56 := (Zfr.gr fqt50 t_x0 (by decide)).trans h1Zkzxc_40
  have e57 := (Zfr.gi fqt50 t_x0 (by decide)).trans h2Zkzxc_40
  have F59 := Zfr.tr F49 fqt50 (by decide)
  obtain ⟨bkkqt50, bvvqt50, h0Zkqt50, h1Zkqt50, tkkqt50, tvvqt50, k0Zkqt50⟩ := pbZkqt50
  exact ⟨_, eqt50, Wqt50, F59, ⟨bkkqt50, bvvqt50, h0Zkqt50, h1Zkqt50, tkkqt50, tvvqt50, k0Zkqt50⟩⟩

abbrev M_Mo_wordToken_24 : List (Nat × Nat) := [(74, 0), (75, 0)]
set_option maxRecDepth 100000 in
set_option maxHeartbeats 400000 in
theorem p_Mo_wordToken_24 {nf : Nat} (hn : 8589934592 ≤ nf) {G : List Nat} {c : Zc} (W : Zwt zty G c) {x0 : Nat} {x1 : Int32} {x2 : Int32} {x3 : Int32} {s0 : Int32}  (t_x0 : G[x0]? = some 64) (pl_x1 : 0 ≤ x1.toInt) (pu_x1 : x1.toInt ≤ 1499) (pl_x2 : 1 ≤ x2.toInt) (pu_x2 : x2.toInt ≤ 1500) (pp_2 : x1.toInt + x2.toInt ≤ 1500) (hb_Zk : Zk G c x0) : ∃ q, f_Mo_wordToken_24 nf x0 x1 x2 x3 s0 c = some q ∧ Zwt zty G q ∧ Zfr G M_Mo_wordToken_24 c q ∧ Zk G q x0 := by
  have F0 : Zfr G M_Mo_wordToken_24 c c := Zfr.rf
  unfold f_Mo_wordToken_24
  obtain ⟨bkk0, bvv0, h0Zk0, h1Zk0, tkk0, tvv0, k0Zk0⟩ := hb_Zk
  refine wb h0Zk0 ?_
  obtain ⟨v5, ev5, lv5, uv5⟩ := gf_64_17 W t_x0
  refine wb ev5 ?_
  obtain ⟨c6, ec6, Wc6, fc6, gc6⟩ := pa_74 W tkk0 (i := v5) (by omega) (by omega) (x := 1) (trivial)
  refine wb ec6 ?_
  have e1 := (Zfr.gr fc6 t_x0 (by decide)).trans h0Zk0
  have e2 := (Zfr.gr fc6 t_x0 (by decide)).trans h1Zk0
  have e3 := (Zfr.gi fc6 t_x0 (by decide)).trans ev5
  have := li_1
  obtain ⟨w_5, ew_5, _⟩ := ga_75 W tvv0 (i := v5) (by omega) (by omega)
  have k4 := TkM_wk k0Zk0 tkk0 tvv0 ec6 ew_5 (tkri (by (try dsimp only); omega) (by (try dsimp only); omega) (by (try dsimp only); omega) (by (try dsimp only); omega) (by (try dsimp only); omega))
  have F6 := Zfr.tr F0 fc6 (by decide)
  refine wb e2 ?_
  refine wb e3 ?_
  obtain ⟨c9, ec9, Wc9, fc9, gc9⟩ := pa_75 Wc6 tvv0 (i := v5) (by omega) (by omega) (x := 0) (trivial)
  refine wb ec9 ?_
  have e7 := (Zfr.gr fc9 t_x0 (by decide)).trans e1
  have e8 := (Zfr.gr fc9 t_x0 (by decide)).trans e2
  have e9 := (Zfr.gi fc9 t_x0 (by decide)).trans e3
  have e10 := (Zfr.ai fc9 tkk0 (by decide)).trans gc6
  have := li_0
  have k11 := TkM_wv k4 tkk0 tvv0 ec9 gc6 (tkri (by (try dsimp only); omega) (by (try dsimp only); omega) (by (try dsimp only); omega) (by (try dsimp only); omega) (by (try dsimp only); omega))
  have F12 := Zfr.tr F6 fc9 (by decide)
  obtain ⟨q10, eq10, Wq10, fq10, po0q10, pl1q10, pu1q10⟩ := p_Mo_isDigit hn Wc9 (a0 := x3) 
  refine wb eq10 ?_
  have e13 := (Zfr.gr fq10 t_x0 (by decide)).trans e7
  have e14 := (Zfr.gr fq10 t_x0 (by decide)).trans e8
  have e15 := (Zfr.gi fq10 t_x0 (by decide)).trans e9
  have e16 := (Zfr.ai fq10 tkk0 (by decide)).trans e10
  have e17 := (Zfr.ai fq10 tvv0 (by decide)).trans gc9
  have k18 := TkM_fr k11 fq10 tkk0 tvv0 (by decide) (by decide)
  have F19 := Zfr.tr F12 fq10 (by decide)
  refine wi (fun hq20 => ?_) (fun hq20 => ?_)
  · have hq20 := i_eq hq20
    refine wi (fun hq21 => ?_) (fun hq21 => ?_)
    · have hq21 := i_eq hq21
      obtain ⟨q71, eq71, Wq71, fq71, po0q71, pl1q71, pu1q71⟩ := p_Mo_isVariable hn Wq10 (a0 := x3) 
      refine wb eq71 ?_
      have e22 := (Zfr.gr fq71 t_x0 (by decide)).trans e13
      have e23 := (Zfr.gr fq71 t_x0 (by decide)).trans e14
      have e24 := (Zfr.gi fq71 t_x0 (by decide)).trans e15
      have e25 := (Zfr.ai fq71 tkk0 (by decide)).trans e16
      have e26 := (Zfr.ai fq71 tvv0 (by decide)).trans e17
      have k27 := TkM_fr k18 fq71 tkk0 tvv0 (by decide) (by decide)
      have F28 := Zfr.tr F19 fq71 (by decide)
      refine wi (fun hq29 => ?_) (fun hq29 => ?_)
      · have hq29 := i_eq hq29
        obtain ⟨qt30, eqt30, Wqt30, fqt30, pbZkqt30⟩ := p_Mo_wordToken_166 hn Wq71 (x1 := x1) (x2 := x2) (x3 := x3) (x4 := s0) t_x0 (by omega) (by omega) (by omega) (by omega) (by omega) ⟨bkk0, bvv0, v5, (0 : Int32), e22, e23, e24, e26, tkk0, tvv0, by (try dsimp only); omega, by (try dsimp only); omega, by (try dsimp only); omega, k27⟩
        have e35 := (Zfr.gr fqt30 t_x0 (by decide)).trans e22
        have e36 := (Zfr.gr fqt30 t_x0 (by decide)).trans e23
        have e37 := (Zfr.gi fqt30 t_x0 (by decide)).trans e24
        have F39 := Zfr.tr F28 fqt30 (by decide)
        obtain ⟨bkkqt30, bvvqt30, h0Zkqt30, h1Zkqt30, tkkqt30, tvvqt30, k0Zkqt30⟩ := pbZkqt30
        exact ⟨_, eqt30, Wqt30, F39, ⟨bkkqt30, bvvqt30, h0Zkqt30, h1Zkqt30, tkkqt30, tvvqt30, k0Zkqt30⟩⟩
      · have hq29 := i_ne hq29
        obtain ⟨qt42, eqt42, Wqt42, fqt42, pbZkqt42⟩ := p_Mo_wordToken_186 hn Wq71 (x2 := x2) (x3 := x3) (x4 := s0) t_x0 (by omega) (by omega) (by omega) (by omega) (by omega) ⟨bkk0, bvv0, v5, (0 : Int32), e22, e23, e24, e26, tkk0, tvv0, by (try dsimp only); omega, by (try dsimp only); omega, by (try dsimp only); omega, k27⟩
        have e47 := (Zfr.gr fqt42 t_x0 (by decide)).trans e22
        have e48 := (Zfr.gr fqt42 t_x0 (by decide)).trans e23
        have e49 := (Zfr.gi fqt42 t_x0 (by decide)).trans e24
        have F51 := Zfr.tr F28 fqt42 (by decide)
        obtain ⟨bkkqt42, bvvqt42, h0Zkqt42, h1Zkqt42, tkkqt42, tvvqt42, k0Zkqt42⟩ := pbZkqt42
        exact ⟨_, eqt42, Wqt42, F51, ⟨bkkqt42, bvvqt42, h0Zkqt42, h1Zkqt42, tkkqt42, tvvqt42, k0Zkqt42⟩⟩
    · have hq21 := i_ne hq21
      obtain ⟨qt54, eqt54, Wqt54, fqt54, pbZkqt54⟩ := p_Mo_wordToken_166 hn Wq10 (x1 := x1) (x2 := x2) (x3 := x3) (x4 := s0) t_x0 (by omega) (by omega) (by omega) (by omega) (by omega) ⟨bkk0, bvv0, v5, (0 : Int32), e13, e14, e15, e17, tkk0, tvv0, by (try dsimp only); omega, by (try dsimp only); omega, by (try dsimp only); omega, k18⟩
      have e59 := (Zfr.gr fqt54 t_x0 (by decide)).trans e13
      have e60 := (Zfr.gr fqt54 t_x0 (by decide)).trans e14
      have e61 := (Zfr.gi fqt54 t_x0 (by decide)).trans e15
      have F63 := Zfr.tr F19 fqt54 (by decide)
      obtain ⟨bkkqt54, bvvqt54, h0Zkqt54, h1Zkqt54, tkkqt54, tvvqt54, k0Zkqt54⟩ := pbZkqt54
      exact ⟨_, eqt54, Wqt54, F63, ⟨bkkqt54, bvvqt54, h0Zkqt54, h1Zkqt54, tkkqt54, tvvqt54, k0Zkqt54⟩⟩
  · have hq20 := i_ne hq20
    refine wi (fun hq66 => ?_) (fun hq66 => ?_)
    · have := li_4
      have hq66 := i_lt hq66
      unfold f_Mo_wordToken_63
      obtain ⟨qt67, eqt67, Wqt67, fqt67, pbZkqt67⟩ := p_Mo_wordToken_71 hn Wq10 (x1 := x1) (x2 := x2) (x5 := 0) (x6 := 0) (x7 := 0) t_x0 (by omega) (by omega) (by omega) (by omega) (by omega) (by omega) (by omega) (by omega) (by omega) (by omega) (by omega) (by omega) ⟨bkk0, bvv0, v5, (0 : Int32), e13, e14, e15, e17, tkk0, tvv0, by (try dsimp only); omega, by (try dsimp only); omega, by (try dsimp only); omega, k18⟩
      have e72 := (Zfr.gr fqt67 t_x0 (by decide)).trans e13
      have e73 := (Zfr.gr fqt67 t_x0 (by decide)).trans e14
      have e74 := (Zfr.gi fqt67 t_x0 (by decide)).trans e15
      have F76 := Zfr.tr F19 fqt67 (by decide)
      obtain ⟨bkkqt67, bvvqt67, h0Zkqt67, h1Zkqt67, tkkqt67, tvvqt67, k0Zkqt67⟩ := pbZkqt67
      exact ⟨_, eqt67, Wqt67, F76, ⟨bkkqt67, bvvqt67, h0Zkqt67, h1Zkqt67, tkkqt67, tvvqt67, k0Zkqt67⟩⟩
    · have := li_4
      have hq66 := i_nlt hq66
      unfold f_Mo_wordToken_63
      obtain ⟨qt79, eqt79, Wqt79, fqt79, pbZkqt79⟩ := p_Mo_wordToken_71 hn Wq10 (x1 := x1) (x2 := x2) (x5 := 1) (x6 := 0) (x7 := 0) t_x0 (by omega) (by omega) (by omega) (by omega) (by omega) (by omega) (by omega) (by omega) (by omega) (by omega) (by omega) (by omega) ⟨bkk0, bvv0, v5, (0 : Int32), e13, e14, e15, e17, tkk0, tvv0, by (try dsimp only); omega, by (try dsimp only); omega, by (try dsimp only); omega, k18⟩
      have e84 := (Zfr.gr fqt79 t_x0 (by decide)).trans e13
      have e85 := (Zfr.gr fqt79 t_x0 (by decide)).trans e14
      have e86 := (Zfr.gi fqt79 t_x0 (by decide)).trans e15
      have F88 := Zfr.tr F19 fqt79 (by decide)
      obtain ⟨bkkqt79, bvvqt79, h0Zkqt79, h1Zkqt79, tkkqt79, tvvqt79, k0Zkqt79⟩ := pbZkqt79
      exact ⟨_, eqt79, Wqt79, F88, ⟨bkkqt79, bvvqt79, h0Zkqt79, h1Zkqt79, tkkqt79, tvvqt79, k0Zkqt79⟩⟩

abbrev M_Mo_wordToken : List (Nat × Nat) := [(74, 0), (75, 0)]
set_option maxRecDepth 100000 in
set_option maxHeartbeats 400000 in
theorem p_Mo_wordToken {nf : Nat} (hn : 8589934592 ≤ nf) {G : List Nat} {c : Zc} (W : Zwt zty G c) {a0 : Nat} {a1 : Int32} {a2 : Int32}  (t_a0 : G[a0]? = some 64) (pl_a1 : 0 ≤ a1.toInt) (pu_a1 : a1.toInt ≤ 1499) (pl_a2 : 1 ≤ a2.toInt) (pu_a2 : a2.toInt ≤ 1500) (pp_2 : a1.toInt + a2.toInt ≤ 1500) (hb_Zk : Zk G c a0) : ∃ q, f_Mo_wordToken nf a0 a1 a2 c = some q ∧ Zwt zty G q ∧ Zfr G M_Mo_wordToken c q ∧ Zk G q a0 := by
  have F0 : Zfr G M_Mo_wordToken c c := Zfr.rf
  unfold f_Mo_wordToken
  obtain ⟨bkk0, bvv0, h0Zk0, h1Zk0, tkk0, tvv0, k0Zk0⟩ := hb_Zk
  obtain ⟨v1, ev1, tv1⟩ := gf_64_12 W t_a0
  refine wb ev1 ?_
  obtain ⟨v2, ev2, _⟩ := ga_73 W tv1 (i := a1) (by omega) (by omega)
  refine wb ev2 ?_
  refine wi (fun hq1 => ?_) (fun hq1 => ?_)
  · have := li_1
    have hq1 := i_le hq1
    have := li_0
    obtain ⟨qt2, eqt2, Wqt2, fqt2, pbZkqt2⟩ := p_Mo_wordToken_24 hn W (x1 := a1) (x2 := a2) (x3 := v2) (s0 := 0) t_a0 (by omega) (by omega) (by omega) (by omega) (by omega) ⟨bkk0, bvv0, h0Zk0, h1Zk0, tkk0, tvv0, k0Zk0⟩
    have e5 := (Zfr.gr fqt2 t_a0 (by decide)).trans h0Zk0
    have e6 := (Zfr.gr fqt2 t_a0 (by decide)).trans h1Zk0
    have F8 := Zfr.tr F0 fqt2 (by decide)
    obtain ⟨bkkqt2, bvvqt2, h0Zkqt2, h1Zkqt2, tkkqt2, tvvqt2, k0Zkqt2⟩ := pbZkqt2
    exact ⟨_, eqt2, Wqt2, F8, ⟨bkkqt2, bvvqt2, h0Zkqt2, h1Zkqt2, tkkqt2, tvvqt2, k0Zkqt2⟩⟩
  · have := li_1
    have hq1 := i_nle hq1
    refine wb ev1 ?_
    have := i_add (a := a1) (b := 1) (by omega) (by omega)
    obtain ⟨v89, ev89, _⟩ := ga_73 W tv1 (i := (a1 + 1)) (by omega) (by omega)
    refine wb ev89 ?_
    obtain ⟨qt11, eqt11, Wqt11, fqt11, pbZkqt11⟩ := p_Mo_wordToken_24 hn W (x1 := a1) (x2 := a2) (x3 := v2) (s0 := v89) t_a0 (by omega) (by omega) (by omega) (by omega) (by omega) ⟨bkk0, bvv0, h0Zk0, h1Zk0, tkk0, tvv0, k0Zk0⟩
    have e14 := (Zfr.gr fqt11 t_a0 (by decide)).trans h0Zk0
    have e15 := (Zfr.gr fqt11 t_a0 (by decide)).trans h1Zk0
    have F17 := Zfr.tr F0 fqt11 (by decide)
    obtain ⟨bkkqt11, bvvqt11, h0Zkqt11, h1Zkqt11, tkkqt11, tvvqt11, k0Zkqt11⟩ := pbZkqt11
    exact ⟨_, eqt11, Wqt11, F17, ⟨bkkqt11, bvvqt11, h0Zkqt11, h1Zkqt11, tkkqt11, tvvqt11, k0Zkqt11⟩⟩

abbrev M_Mo_cutTokens : List (Nat × Nat) := [(64, 17), (74, 0), (75, 0), (76, 0)]
set_option maxRecDepth 100000 in
set_option maxHeartbeats 400000 in
theorem p_Mo_cutTokens {nf : Nat} (hn : 8589934592 ≤ nf) {G : List Nat} {c : Zc} (W : Zwt zty G c) {a0 : Nat} {a1 : Int32}  (t_a0 : G[a0]? = some 64) (pl_a1 : 0 ≤ a1.toInt) (pu_a1 : a1.toInt ≤ 1500) (hb_Zk : Zk G c a0) : ∃ q, f_Mo_cutTokens nf a0 a1 c = some q ∧ Zwt zty G q ∧ Zfr G M_Mo_cutTokens c q ∧ Zk G q a0 := by
  have F0 : Zfr G M_Mo_cutTokens c c := Zfr.rf
  unfold f_Mo_cutTokens
  obtain ⟨bkk0, bvv0, h0Zk0, h1Zk0, tkk0, tvv0, k0Zk0⟩ := hb_Zk
  have := li_0
  obtain ⟨c1, ec1, Wc1, fc1, gc1⟩ := pf_64_17 W t_a0 (x := 0) (rgi (by omega) (by omega))
  refine wb ec1 ?_
  have e1 := (Zfr.gr fc1 t_a0 (by decide)).trans h0Zk0
  have e2 := (Zfr.gr fc1 t_a0 (by decide)).trans h1Zk0
  have k3 := TkM_fr k0Zk0 fc1 tkk0 tvv0 (by decide) (by decide)
  have F4 := Zfr.tr F0 fc1 (by decide)
  unfold f_Mo_cutTokens_7
  have L5 : ∃ b, zlp (fun a : Nat × Int32 × Int32 × Zc => g_Mo_cutTokens_7 nf a.1 a.2.1 a.2.2.1 a.2.2.2) nf (a0, a1, 0, c1) = some b ∧ (fun b : (Nat × Int32 × Zc) => a0 = b.1 ∧ a1 = b.2.1 ∧ Zwt zty G b.2.2 ∧ Zfr G ([(64, 17), (74, 0), (75, 0), (76, 0)] : List (Nat × Nat)) c1 b.2.2 ∧ Zk G b.2.2 a0) b := by
    refine wlp (fun a : Nat × Int32 × Int32 × Zc => a0 = a.1 ∧ a1 = a.2.1 ∧ Zwt zty G a.2.2.2 ∧ Zfr G ([(64, 17), (74, 0), (75, 0), (76, 0)] : List (Nat × Nat)) c1 a.2.2.2 ∧ 0 ≤ a.2.2.1.toInt ∧ a.2.2.1.toInt ≤ 1501 ∧ Zk G a.2.2.2 a0 ∧ ∃ tnH, zgi a.2.2.2 a0 12 17 = some tnH ∧ 0 ≤ tnH.toInt ∧ tnH.toInt ≤ a.2.2.1.toInt) (fun a => (1501 - a.2.2.1.toInt).toNat) (fun b : (Nat × Int32 × Zc) => a0 = b.1 ∧ a1 = b.2.1 ∧ Zwt zty G b.2.2 ∧ Zfr G ([(64, 17), (74, 0), (75, 0), (76, 0)] : List (Nat × Nat)) c1 b.2.2 ∧ Zk G b.2.2 a0) ?_ ?_ ?_
    · rintro ⟨x0_6, x1_6, x2_6, c_6⟩ hI
      try dsimp only at hI ⊢
      obtain ⟨rfl, rfl, WLc_6, FLc_6, j7, j8, hBZk_6, tn_6, ehtn_6, j9, j10⟩ := hI
      have e11 := (Zfr.gr FLc_6 t_a0 (by decide)).trans e1
      have e12 := (Zfr.gr FLc_6 t_a0 (by decide)).trans e2
      obtain ⟨bkk_6, bvv_6, h0Zk_6, h1Zk_6, tkk_6, tvv_6, k0Zk_6⟩ := hBZk_6
      unfold g_Mo_cutTokens_7
      refine wi (fun hq13 => ?_) (fun hq13 => ?_)
      · have hq13 := i_le hq13
        exact lInr ⟨rfl, rfl, WLc_6, FLc_6, ⟨bkk_6, bvv_6, h0Zk_6, h1Zk_6, tkk_6, tvv_6, k0Zk_6⟩⟩
      · have hq13 := i_nle hq13
        obtain ⟨w4, ew4⟩ := go_64 WLc_6 t_a0
        refine wb ew4 ?_
        obtain ⟨q3, eq3, Wq3, fq3, po0q3⟩ := p_Mo_at hn WLc_6 (a1 := x2_6) (a2 := a1) t_a0 (by omega) (by omega) (by omega) (by omega)
        refine wb eq3 ?_
        have e16 := (Zfr.gr fq3 t_a0 (by decide)).trans h0Zk_6
        have e17 := (Zfr.gr fq3 t_a0 (by decide)).trans h1Zk_6
        have e18 := (Zfr.gi fq3 t_a0 (by decide)).trans ehtn_6
        have k19 := TkM_fr k0Zk_6 fq3 tkk_6 tvv_6 (by decide) (by decide)
        have F20 := Zfr.tr FLc_6 fq3 (by decide)
        refine wi (fun hq21 => ?_) (fun hq21 => ?_)
        · have := li_9
          have := i_ge q3.1
          have := i_up q3.1
          have hq21 := i_eq hq21
          unfold f_Mo_cutTokens_43
          unfold f_Mo_cutTokens_170
          have := li_1
          have := i_add (a := x2_6) (b := 1) (by omega) (by omega)
          exact lInl ⟨rfl, rfl, Wq3, F20, by (try dsimp only); omega, by (try dsimp only); omega, ⟨bkk_6, bvv_6, e16, e17, tkk_6, tvv_6, k19⟩, tn_6, e18, by (try dsimp only); omega, by (try dsimp only); omega⟩ (by (try dsimp only); omega)
        · have := li_9
          have := i_ge q3.1
          have := i_up q3.1
          have hq21 := i_ne hq21
          refine wi (fun hq25 => ?_) (fun hq25 => ?_)
          · have := li_10
            have hq25 := i_eq hq25
            unfold f_Mo_cutTokens_43
            unfold f_Mo_cutTokens_170
            have := li_1
            have := i_add (a := x2_6) (b := 1) (by omega) (by omega)
            exact lInl ⟨rfl, rfl, Wq3, F20, by (try dsimp only); omega, by (try dsimp only); omega, ⟨bkk_6, bvv_6, e16, e17, tkk_6, tvv_6, k19⟩, tn_6, e18, by (try dsimp only); omega, by (try dsimp only); omega⟩ (by (try dsimp only); omega)
          · have := li_10
            have hq25 := i_ne hq25
            refine wi (fun hq29 => ?_) (fun hq29 => ?_)
            · have := li_13
              have hq29 := i_eq hq29
              unfold f_Mo_cutTokens_43
              unfold f_Mo_cutTokens_170
              have := li_1
              have := i_add (a := x2_6) (b := 1) (by omega) (by omega)
              exact lInl ⟨rfl, rfl, Wq3, F20, by (try dsimp only); omega, by (try dsimp only); omega, ⟨bkk_6, bvv_6, e16, e17, tkk_6, tvv_6, k19⟩, tn_6, e18, by (try dsimp only); omega, by (try dsimp only); omega⟩ (by (try dsimp only); omega)
            · have := li_13
              have hq29 := i_ne hq29
              refine wi (fun hq33 => ?_) (fun hq33 => ?_)
              · have := li_32
                have hq33 := i_eq hq33
                unfold f_Mo_cutTokens_43
                unfold f_Mo_cutTokens_170
                have := li_1
                have := i_add (a := x2_6) (b := 1) (by omega) (by omega)
                exact lInl ⟨rfl, rfl, Wq3, F20, by (try dsimp only); omega, by (try dsimp only); omega, ⟨bkk_6, bvv_6, e16, e17, tkk_6, tvv_6, k19⟩, tn_6, e18, by (try dsimp only); omega, by (try dsimp only); omega⟩ (by (try dsimp only); omega)
              · have := li_32
                have hq33 := i_ne hq33
                obtain ⟨v9, ev9, tv9⟩ := gf_64_16 Wq3 t_a0
                refine wb ev9 ?_
                refine wb e18 ?_
                obtain ⟨c11, ec11, Wc11, fc11, gc11⟩ := pa_76 Wq3 tv9 (i := tn_6) (by omega) (by omega) (x := x2_6) (trivial)
                refine wb ec11 ?_
                have e37 := (Zfr.gr fc11 t_a0 (by decide)).trans e16
                have e38 := (Zfr.gr fc11 t_a0 (by decide)).trans e17
                have e39 := (Zfr.gi fc11 t_a0 (by decide)).trans e18
                have k40 := TkM_fr k19 fc11 tkk_6 tvv_6 (by decide) (by decide)
                have F41 := Zfr.tr F20 fc11 (by decide)
                obtain ⟨q12, eq12, Wq12, fq12, po0q12, pl1q12, pu1q12⟩ := p_Mo_isWordByte hn Wc11 (a0 := q3.1) 
                refine wb eq12 ?_
                have e42 := (Zfr.gr fq12 t_a0 (by decide)).trans e37
                have e43 := (Zfr.gr fq12 t_a0 (by decide)).trans e38
                have e44 := (Zfr.gi fq12 t_a0 (by decide)).trans e39
                have e45 := (Zfr.ai fq12 tv9 (by decide)).trans gc11
                have k46 := TkM_fr k40 fq12 tkk_6 tvv_6 (by decide) (by decide)
                have F47 := Zfr.tr F41 fq12 (by decide)
                refine wi (fun hq48 => ?_) (fun hq48 => ?_)
                · have hq48 := i_eq hq48
                  refine wb e42 ?_
                  refine wb e44 ?_
                  obtain ⟨w17, ew17⟩ := go_64 Wq12 t_a0
                  refine wb ew17 ?_
                  have := li_1
                  have := i_add (a := x2_6) (b := 1) (by omega) (by omega)
                  obtain ⟨q16, eq16, Wq16, fq16, po0q16⟩ := p_Mo_at hn Wq12 (a1 := (x2_6 + 1)) (a2 := a1) t_a0 (by omega) (by omega) (by omega) (by omega)
                  refine wb eq16 ?_
                  have e49 := (Zfr.gr fq16 t_a0 (by decide)).trans e42
                  have e50 := (Zfr.gr fq16 t_a0 (by decide)).trans e43
                  have e51 := (Zfr.gi fq16 t_a0 (by decide)).trans e44
                  have e52 := (Zfr.ai fq16 tv9 (by decide)).trans e45
                  have k53 := TkM_fr k46 fq16 tkk_6 tvv_6 (by decide) (by decide)
                  have F54 := Zfr.tr F47 fq16 (by decide)
                  obtain ⟨q18, eq18, Wq18, fq18, po0q18, pl1q18, pu1q18⟩ := p_Mo_signKind hn Wq16 (a0 := q3.1) (a1 := q16.1) 
                  refine wb eq18 ?_
                  have e55 := (Zfr.gr fq18 t_a0 (by decide)).trans e49
                  have e56 := (Zfr.gr fq18 t_a0 (by decide)).trans e50
                  have e57 := (Zfr.gi fq18 t_a0 (by decide)).trans e51
                  have e58 := (Zfr.ai fq18 tv9 (by decide)).trans e52
                  have k59 := TkM_fr k53 fq18 tkk_6 tvv_6 (by decide) (by decide)
                  have F60 := Zfr.tr F54 fq18 (by decide)
                  obtain ⟨c19, ec19, Wc19, fc19, gc19⟩ := pa_74 Wq18 tkk_6 (i := tn_6) (by omega) (by omega) (x := q18.1) (trivial)
                  refine wb ec19 ?_
                  have e61 := (Zfr.gr fc19 t_a0 (by decide)).trans e55
                  have e62 := (Zfr.gr fc19 t_a0 (by decide)).trans e56
                  have e63 := (Zfr.gi fc19 t_a0 (by decide)).trans e57
                  have e64 := (Zfr.ai fc19 tv9 (by decide)).trans e58
                  obtain ⟨w_66, ew_66, _⟩ := ga_75 Wq18 tvv_6 (i := tn_6) (by omega) (by omega)
                  have k65 := TkM_wk k59 tkk_6 tvv_6 ec19 ew_66 (tkri (by (try dsimp only); omega) (by (try dsimp only); omega) (by (try dsimp only); omega) (by (try dsimp only); omega) (by (try dsimp only); omega))
                  have F67 := Zfr.tr F60 fc19 (by decide)
                  refine wb e62 ?_
                  refine wb e63 ?_
                  obtain ⟨c22, ec22, Wc22, fc22, gc22⟩ := pa_75 Wc19 tvv_6 (i := tn_6) (by omega) (by omega) (x := 0) (trivial)
                  refine wb ec22 ?_
                  have e68 := (Zfr.gr fc22 t_a0 (by decide)).trans e61
                  have e69 := (Zfr.gr fc22 t_a0 (by decide)).trans e62
                  have e70 := (Zfr.gi fc22 t_a0 (by decide)).trans e63
                  have e71 := (Zfr.ai fc22 tv9 (by decide)).trans e64
                  have e72 := (Zfr.ai fc22 tkk_6 (by decide)).trans gc19
                  have k73 := TkM_wv k65 tkk_6 tvv_6 ec22 gc19 (tkri (by (try dsimp only); omega) (by (try dsimp only); omega) (by (try dsimp only); omega) (by (try dsimp only); omega) (by (try dsimp only); omega))
                  have F74 := Zfr.tr F67 fc22 (by decide)
                  refine wb e68 ?_
                  refine wb e70 ?_
                  refine wb e72 ?_
                  refine wi (fun hq75 => ?_) (fun hq75 => ?_)
                  · have := li_200
                    have hq75 := i_le hq75
                    unfold f_Mo_cutTokens_154
                    unfold f_Mo_cutTokens_157
                    refine wb e70 ?_
                    have := i_add (a := tn_6) (b := 1) (by omega) (by omega)
                    obtain ⟨c28, ec28, Wc28, fc28, gc28⟩ := pf_64_17 Wc22 t_a0 (x := (tn_6 + 1)) (rgi (by omega) (by omega))
                    refine wb ec28 ?_
                    have e76 := (Zfr.gr fc28 t_a0 (by decide)).trans e68
                    have e77 := (Zfr.gr fc28 t_a0 (by decide)).trans e69
                    have k78 := TkM_fr k73 fc28 tkk_6 tvv_6 (by decide) (by decide)
                    have F79 := Zfr.tr F74 fc28 (by decide)
                    unfold f_Mo_cutTokens_170
                    have := i_add (a := (x2_6 + 1)) (b := 0) (by omega) (by omega)
                    exact lInl ⟨rfl, rfl, Wc28, F79, by (try dsimp only); omega, by (try dsimp only); omega, ⟨bkk_6, bvv_6, e76, e77, tkk_6, tvv_6, k78⟩, (tn_6 + 1), gc28, by (try dsimp only); omega, by (try dsimp only); omega⟩ (by (try dsimp only); omega)
                  · have := li_200
                    have hq75 := i_nle hq75
                    unfold f_Mo_cutTokens_154
                    unfold f_Mo_cutTokens_157
                    refine wb e70 ?_
                    have := i_add (a := tn_6) (b := 1) (by omega) (by omega)
                    obtain ⟨c28, ec28, Wc28, fc28, gc28⟩ := pf_64_17 Wc22 t_a0 (x := (tn_6 + 1)) (rgi (by omega) (by omega))
                    refine wb ec28 ?_
                    have e83 := (Zfr.gr fc28 t_a0 (by decide)).trans e68
                    have e84 := (Zfr.gr fc28 t_a0 (by decide)).trans e69
                    have k85 := TkM_fr k73 fc28 tkk_6 tvv_6 (by decide) (by decide)
                    have F86 := Zfr.tr F74 fc28 (by decide)
                    unfold f_Mo_cutTokens_170
                    have := i_add (a := (x2_6 + 1)) (b := 1) (by omega) (by omega)
                    exact lInl ⟨rfl, rfl, Wc28, F86, by (try dsimp only); omega, by (try dsimp only); omega, ⟨bkk_6, bvv_6, e83, e84, tkk_6, tvv_6, k85⟩, (tn_6 + 1), gc28, by (try dsimp only); omega, by (try dsimp only); omega⟩ (by (try dsimp only); omega)
                · have hq48 := i_ne hq48
                  unfold f_Mo_cutTokens_71
                  have := li_1
                  have := i_add (a := x2_6) (b := 1) (by omega) (by omega)
                  have L90 : ∃ b, zlp (fun a : Nat × Int32 × Int32 × Int32 × Zc => g_Mo_cutTokens_71 nf a.1 a.2.1 a.2.2.1 a.2.2.2.1 a.2.2.2.2) nf (a0, a1, x2_6, (x2_6 + 1), q12.2) = some b ∧ (fun b : (Nat × Int32 × Int32 × Int32 × Zc) => a0 = b.1 ∧ a1 = b.2.1 ∧ x2_6 = b.2.2.1 ∧ Zwt zty G b.2.2.2.2 ∧ Zfr G ([] : List (Nat × Nat)) q12.2 b.2.2.2.2 ∧ 1 ≤ b.2.2.2.1.toInt ∧ b.2.2.2.1.toInt ≤ 1500 ∧ b.2.2.1.toInt < b.2.2.2.1.toInt ∧ b.2.2.2.1.toInt ≤ a1.toInt) b := by
                    refine wlp (fun a : Nat × Int32 × Int32 × Int32 × Zc => a0 = a.1 ∧ a1 = a.2.1 ∧ x2_6 = a.2.2.1 ∧ Zwt zty G a.2.2.2.2 ∧ Zfr G ([] : List (Nat × Nat)) q12.2 a.2.2.2.2 ∧ 1 ≤ a.2.2.2.1.toInt ∧ a.2.2.2.1.toInt ≤ 1500 ∧ x2_6.toInt < a.2.2.2.1.toInt ∧ a.2.2.2.1.toInt ≤ a1.toInt) (fun a => (1500 - a.2.2.2.1.toInt).toNat) (fun b : (Nat × Int32 × Int32 × Int32 × Zc) => a0 = b.1 ∧ a1 = b.2.1 ∧ x2_6 = b.2.2.1 ∧ Zwt zty G b.2.2.2.2 ∧ Zfr G ([] : List (Nat × Nat)) q12.2 b.2.2.2.2 ∧ 1 ≤ b.2.2.2.1.toInt ∧ b.2.2.2.1.toInt ≤ 1500 ∧ b.2.2.1.toInt < b.2.2.2.1.toInt ∧ b.2.2.2.1.toInt ≤ a1.toInt) ?_ ?_ ?_
                    · rintro ⟨x0_91, x1_91, x2_91, x4_91, c_91⟩ hI
                      try dsimp only at hI ⊢
                      obtain ⟨rfl, rfl, rfl, WLc_91, FLc_91, j92, j93, j94, j95⟩ := hI
                      have e96 := (Zfr.gr FLc_91 t_a0 (by decide)).trans e42
                      have e97 := (Zfr.gr FLc_91 t_a0 (by decide)).trans e43
                      have k98 := TkM_fr k46 FLc_91 tkk_6 tvv_6 (by decide) (by decide)
                      unfold g_Mo_cutTokens_71
                      obtain ⟨w30, ew30⟩ := go_64 WLc_91 t_a0
                      refine wb ew30 ?_
                      obtain ⟨q29, eq29, Wq29, fq29, po0q29⟩ := p_Mo_at hn WLc_91 (a1 := x4_91) (a2 := a1) t_a0 (by omega) (by omega) (by omega) (by omega)
                      refine wb eq29 ?_
                      have e99 := (Zfr.gr fq29 t_a0 (by decide)).trans e96
                      have e100 := (Zfr.gr fq29 t_a0 (by decide)).trans e97
                      have k101 := TkM_fr k98 fq29 tkk_6 tvv_6 (by decide) (by decide)
                      have F102 := Zfr.tr FLc_91 fq29 (by decide)
                      obtain ⟨q31, eq31, Wq31, fq31, po0q31, pl1q31, pu1q31⟩ := p_Mo_isWordByte hn Wq29 (a0 := q29.1) 
                      refine wb eq31 ?_
                      have e103 := (Zfr.gr fq31 t_a0 (by decide)).trans e99
                      have e104 := (Zfr.gr fq31 t_a0 (by decide)).trans e100
                      have k105 := TkM_fr k101 fq31 tkk_6 tvv_6 (by decide) (by decide)
                      have F106 := Zfr.tr F102 fq31 (by decide)
                      refine wi (fun hq107 => ?_) (fun hq107 => ?_)
                      · have hq107 := i_eq hq107
                        exact lInr ⟨rfl, rfl, rfl, Wq31, F106, by (try dsimp only); omega, by (try dsimp only); omega, by (try dsimp only); omega, by (try dsimp only); omega⟩
                      · have hq107 := i_ne hq107
                        have := i_add (a := x4_91) (b := 1) (by omega) (by omega)
                        exact lInl ⟨rfl, rfl, rfl, Wq31, F106, by (try dsimp only); omega, by (try dsimp only); omega, by (try dsimp only); omega, by (try dsimp only); omega⟩ (by (try dsimp only); omega)
                    · exact ⟨rfl, rfl, rfl, Wq12, Zfr.rf, by (try dsimp only); omega, by (try dsimp only); omega, by (try dsimp only); omega, by (try dsimp only); omega⟩
                    · (try dsimp only); omega
                  obtain ⟨b, eb, hb⟩ := L90
                  refine wb eb ?_
                  clear eb
                  obtain ⟨z0_108, z1_108, z2_108, z3_108, c_108⟩ := b
                  try dsimp only at hb ⊢
                  obtain ⟨rfl, rfl, rfl, WXc_108, FXc_108, j109, j110, j111, j112⟩ := hb
                  have e113 := (Zfr.gr FXc_108 t_a0 (by decide)).trans e42
                  have e114 := (Zfr.gr FXc_108 t_a0 (by decide)).trans e43
                  have e115 := (Zfr.gi FXc_108 t_a0 (by decide)).trans e44
                  have k116 := TkM_fr k46 FXc_108 tkk_6 tvv_6 (by decide) (by decide)
                  have F117 := Zfr.tr F47 FXc_108 (by decide)
                  obtain ⟨w34, ew34⟩ := go_64 WXc_108 t_a0
                  refine wb ew34 ?_
                  have := i_sub (a := z3_108) (b := x2_6) (by omega) (by omega)
                  obtain ⟨q33, eq33, Wq33, fq33, pbZkq33⟩ := p_Mo_wordToken hn WXc_108 (a1 := x2_6) (a2 := (z3_108 - x2_6)) t_a0 (by omega) (by omega) (by omega) (by omega) (by omega) ⟨bkk_6, bvv_6, e113, e114, tkk_6, tvv_6, k116⟩
                  refine wb eq33 ?_
                  have e120 := (Zfr.gr fq33 t_a0 (by decide)).trans e113
                  have e121 := (Zfr.gr fq33 t_a0 (by decide)).trans e114
                  have e122 := (Zfr.gi fq33 t_a0 (by decide)).trans e115
                  have F124 := Zfr.tr F117 fq33 (by decide)
                  obtain ⟨bkkq33, bvvq33, h0Zkq33, h1Zkq33, tkkq33, tvvq33, k0Zkq33⟩ := pbZkq33
                  unfold f_Mo_cutTokens_157
                  refine wb e122 ?_
                  have := i_add (a := tn_6) (b := 1) (by omega) (by omega)
                  obtain ⟨c28, ec28, Wc28, fc28, gc28⟩ := pf_64_17 Wq33 t_a0 (x := (tn_6 + 1)) (rgi (by omega) (by omega))
                  refine wb ec28 ?_
                  have e125 := (Zfr.gr fc28 t_a0 (by decide)).trans h0Zkq33
                  have e126 := (Zfr.gr fc28 t_a0 (by decide)).trans h1Zkq33
                  have k127 := TkM_fr k0Zkq33 fc28 tkkq33 tvvq33 (by decide) (by decide)
                  have F128 := Zfr.tr F124 fc28 (by decide)
                  unfold f_Mo_cutTokens_170
                  exact lInl ⟨rfl, rfl, Wc28, F128, by (try dsimp only); omega, by (try dsimp only); omega, ⟨bkkq33, bvvq33, e125, e126, tkkq33, tvvq33, k127⟩, (tn_6 + 1), gc28, by (try dsimp only); omega, by (try dsimp only); omega⟩ (by (try dsimp only); omega)
    · exact ⟨rfl, rfl, Wc1, Zfr.rf, by (try dsimp only); omega, by (try dsimp only); omega, ⟨bkk0, bvv0, e1, e2, tkk0, tvv0, k3⟩, (0 : Int32), gc1, by (try dsimp only); omega, by (try dsimp only); omega⟩
    · (try dsimp only); omega
  obtain ⟨b, eb, hb⟩ := L5
  refine wb eb ?_
  clear eb
  obtain ⟨z0_135, z1_135, c_135⟩ := b
  try dsimp only at hb ⊢
  obtain ⟨rfl, rfl, WXc_135, FXc_135, hXZkc_135⟩ := hb
  have e136 := (Zfr.gr FXc_135 t_a0 (by decide)).trans e1
  have e137 := (Zfr.gr FXc_135 t_a0 (by decide)).trans e2
  have F139 := Zfr.tr F4 FXc_135 (by decide)
  obtain ⟨bkkxc_135, bvvxc_135, h0Zkxc_135, h1Zkxc_135, tkkxc_135, tvvxc_135, k0Zkxc_135⟩ := hXZkc_135
  refine wb h0Zkxc_135 ?_
  obtain ⟨v36, ev36, lv36, uv36⟩ := gf_64_17 WXc_135 t_a0
  refine wb ev36 ?_
  obtain ⟨c37, ec37, Wc37, fc37, gc37⟩ := pa_74 WXc_135 tkkxc_135 (i := v36) (by omega) (by omega) (x := 0) (trivial)
  refine wb ec37 ?_
  have e140 := (Zfr.gr fc37 t_a0 (by decide)).trans h0Zkxc_135
  have e141 := (Zfr.gr fc37 t_a0 (by decide)).trans h1Zkxc_135
  have e142 := (Zfr.gi fc37 t_a0 (by decide)).trans ev36
  obtain ⟨w_144, ew_144, _⟩ := ga_75 WXc_135 tvvxc_135 (i := v36) (by omega) (by omega)
  have k143 := TkM_wk k0Zkxc_135 tkkxc_135 tvvxc_135 ec37 ew_144 (tkri (by (try dsimp only); omega) (by (try dsimp only); omega) (by (try dsimp only); omega) (by (try dsimp only); omega) (by (try dsimp only); omega))
  have F145 := Zfr.tr F139 fc37 (by decide)
  obtain ⟨v38, ev38, tv38⟩ := gf_64_16 Wc37 t_a0
  refine wb ev38 ?_
  refine wb e142 ?_
  obtain ⟨c40, ec40, Wc40, fc40, gc40⟩ := pa_76 Wc37 tv38 (i := v36) (by omega) (by omega) (x := a1) (trivial)
  refine wb ec40 ?_
  have e146 := (Zfr.gr fc40 t_a0 (by decide)).trans e140
  have e147 := (Zfr.gr fc40 t_a0 (by decide)).trans e141
  have k148 := TkM_fr k143 fc40 tkkxc_135 tvvxc_135 (by decide) (by decide)
  have F149 := Zfr.tr F145 fc40 (by decide)
  exact ⟨_, rfl, Wc40, F149, ⟨bkkxc_135, bvvxc_135, e146, e147, tkkxc_135, tvvxc_135, k148⟩⟩

end ZzT
