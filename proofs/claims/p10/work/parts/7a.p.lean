section ZzT
abbrev M_Mo_answered : List (Nat × Nat) := [(64, 25), (64, 81), (64, 87), (117, 0), (118, 0), (119, 0), (120, 0), (121, 0), (122, 0), (123, 0), (125, 0), (126, 0), (127, 0), (128, 0), (129, 0), (130, 0), (131, 0), (132, 0), (133, 0)]
set_option maxRecDepth 100000 in
set_option maxHeartbeats 400000 in
theorem p_Mo_answered {nf : Nat} (hn : 8589934592 ≤ nf) {G : List Nat} {c : Zc} (W : Zwt zty G c) {a0 : Nat} {a1 : Int32}  (t_a0 : G[a0]? = some 64) (pl_a1 : 0 ≤ a1.toInt) (pu_a1 : a1.toInt ≤ 3) (hb_Zan : Zan G c a0 a1) : ∃ q, f_Mo_answered nf a0 a1 c = some q ∧ Zwt zty G q.2 ∧ Zfr G M_Mo_answered c q.2 := by
  have F0 : Zfr G M_Mo_answered c c := Zfr.rf
  unfold f_Mo_answered
  obtain ⟨bkr0, bkz0, bv0, bs0, h0Zan0, h1Zan0, h2Zan0, h3Zan0, tkr0, tkz0, r0Zan0, r1Zan0, r2Zan0, k0Zan0, k1Zan0⟩ := hb_Zan
  refine wb h1Zan0 ?_
  refine wb h3Zan0 ?_
  obtain ⟨c3, ec3, Wc3, fc3, gc3⟩ := pf_64_25 W t_a0 (x := bs0) (rgi (by omega) (by omega))
  refine wb ec3 ?_
  have e1 := (Zfr.gr fc3 t_a0 (by decide)).trans h0Zan0
  have e2 := (Zfr.gr fc3 t_a0 (by decide)).trans h1Zan0
  have e3 := (Zfr.ai fc3 tkr0 (by decide)).trans h2Zan0
  have e4 := (Zfr.ai fc3 tkz0 (by decide)).trans h3Zan0
  have k5 := GtM_fr k0Zan0 fc3 t_a0 W (by decide)
  have k6 := WkS_fr k1Zan0 fc3 t_a0 W (by decide)
  have F7 := Zfr.tr F0 fc3 (by decide)
  have k8 := TxM_of k5 e1 e2 (by omega) (by omega) e3 (by omega) e4 gc3
  have k9 := WkM_of k6 gc3
  obtain ⟨w5, ew5⟩ := go_64 Wc3 t_a0
  refine wb ew5 ?_
  obtain ⟨q4, eq4, Wq4, fq4⟩ := p_Mo_measureAll hn Wc3  t_a0
  refine wb eq4 ?_
  have e14 := (Zfr.gr fq4 t_a0 (by decide)).trans e1
  have e15 := (Zfr.gr fq4 t_a0 (by decide)).trans e2
  have e16 := (Zfr.ai fq4 tkr0 (by decide)).trans e3
  have e17 := (Zfr.ai fq4 tkz0 (by decide)).trans e4
  have e18 := (Zfr.gi fq4 t_a0 (by decide)).trans gc3
  have k19 := GtM_fr k5 fq4 t_a0 Wc3 (by decide)
  have k20 := WkS_fr k6 fq4 t_a0 Wc3 (by decide)
  have k21 := TxM_fr k8 fq4 t_a0 Wc3 (by decide)
  have k22 := WkM_fr k9 fq4 t_a0 Wc3 (by decide)
  have F23 := Zfr.tr F7 fq4 (by decide)
  obtain ⟨w7, ew7⟩ := go_64 Wq4 t_a0
  refine wb ew7 ?_
  obtain ⟨q6, eq6, Wq6, fq6⟩ := p_Mo_collect hn Wq4  t_a0 k21 k22
  refine wb eq6 ?_
  have e24 := (Zfr.gr fq6 t_a0 (by decide)).trans e14
  have e25 := (Zfr.gr fq6 t_a0 (by decide)).trans e15
  have e26 := (Zfr.ai fq6 tkr0 (by decide)).trans e16
  have e27 := (Zfr.ai fq6 tkz0 (by decide)).trans e17
  have e28 := (Zfr.gi fq6 t_a0 (by decide)).trans e18
  have k29 := GtM_fr k19 fq6 t_a0 Wq4 (by decide)
  have k30 := WkS_fr k20 fq6 t_a0 Wq4 (by decide)
  have k31 := TxM_fr k21 fq6 t_a0 Wq4 (by decide)
  have k32 := WkM_fr k22 fq6 t_a0 Wq4 (by decide)
  have F33 := Zfr.tr F23 fq6 (by decide)
  obtain ⟨w9, ew9⟩ := go_64 Wq6 t_a0
  refine wb ew9 ?_
  obtain ⟨q8, eq8, Wq8, fq8, pl0q8, pu0q8⟩ := p_Mo_groupRows hn Wq6  t_a0
  refine wb eq8 ?_
  have e34 := (Zfr.gr fq8 t_a0 (by decide)).trans e24
  have e35 := (Zfr.gr fq8 t_a0 (by decide)).trans e25
  have e36 := (Zfr.ai fq8 tkr0 (by decide)).trans e26
  have e37 := (Zfr.ai fq8 tkz0 (by decide)).trans e27
  have e38 := (Zfr.gi fq8 t_a0 (by decide)).trans e28
  have k39 := GtM_fr k29 fq8 t_a0 Wq6 (by decide)
  have k40 := WkS_fr k30 fq8 t_a0 Wq6 (by decide)
  have k41 := TxM_fr k31 fq8 t_a0 Wq6 (by decide)
  have k42 := WkM_fr k32 fq8 t_a0 Wq6 (by decide)
  have F43 := Zfr.tr F33 fq8 (by decide)
  unfold f_Mo_answered_25
  have := li_0
  have L44 : ∃ b, zlp (fun a : Nat × Int32 × Int32 × Int32 × Zc => g_Mo_answered_25 nf a.1 a.2.1 a.2.2.1 a.2.2.2.1 a.2.2.2.2) nf (a0, a1, q8.1, 0, q8.2) = some b ∧ (fun b : (Nat × Int32 × Int32 × Zc) => a0 = b.1 ∧ a1 = b.2.1 ∧ q8.1 = b.2.2.1 ∧ Zwt zty G b.2.2.2 ∧ Zfr G ([(125, 0)] : List (Nat × Nat)) q8.2 b.2.2.2) b := by
    refine wlp (fun a : Nat × Int32 × Int32 × Int32 × Zc => a0 = a.1 ∧ a1 = a.2.1 ∧ q8.1 = a.2.2.1 ∧ Zwt zty G a.2.2.2.2 ∧ Zfr G ([(125, 0)] : List (Nat × Nat)) q8.2 a.2.2.2.2 ∧ 0 ≤ a.2.2.2.1.toInt ∧ a.2.2.2.1.toInt ≤ 160000) (fun a => (160000 - a.2.2.2.1.toInt).toNat) (fun b : (Nat × Int32 × Int32 × Zc) => a0 = b.1 ∧ a1 = b.2.1 ∧ q8.1 = b.2.2.1 ∧ Zwt zty G b.2.2.2 ∧ Zfr G ([(125, 0)] : List (Nat × Nat)) q8.2 b.2.2.2) ?_ ?_ ?_
    · rintro ⟨x0_45, x1_45, x2_45, x3_45, c_45⟩ hI
      try dsimp only at hI ⊢
      obtain ⟨rfl, rfl, rfl, WLc_45, FLc_45, j46, j47⟩ := hI
      have e48 := (Zfr.gr FLc_45 t_a0 (by decide)).trans e34
      have e49 := (Zfr.gr FLc_45 t_a0 (by decide)).trans e35
      have e50 := (Zfr.ai FLc_45 tkr0 (by decide)).trans e36
      have e51 := (Zfr.ai FLc_45 tkz0 (by decide)).trans e37
      have e52 := (Zfr.gi FLc_45 t_a0 (by decide)).trans e38
      have k53 := GtM_fr k39 FLc_45 t_a0 Wq8 (by decide)
      have k54 := WkS_fr k40 FLc_45 t_a0 Wq8 (by decide)
      have k55 := TxM_fr k41 FLc_45 t_a0 Wq8 (by decide)
      have k56 := WkM_fr k42 FLc_45 t_a0 Wq8 (by decide)
      unfold g_Mo_answered_25
      refine wi (fun hq57 => ?_) (fun hq57 => ?_)
      · have := li_8
        have := i_mull (a := 8) (b := q8.1) (n := 8) li_8 (by omega) (by omega)
        have hq57 := i_le hq57
        exact lInr ⟨rfl, rfl, rfl, WLc_45, FLc_45⟩
      · have := li_8
        have := i_mull (a := 8) (b := q8.1) (n := 8) li_8 (by omega) (by omega)
        have hq57 := i_nle hq57
        obtain ⟨v11, ev11, tv11⟩ := gf_64_78 WLc_45 t_a0
        refine wb ev11 ?_
        obtain ⟨v12, ev12, tv12⟩ := gf_64_88 WLc_45 t_a0
        refine wb ev12 ?_
        obtain ⟨v13, ev13, _⟩ := ga_133 WLc_45 tv12 (i := x3_45) (by omega) (by omega)
        refine wb ev13 ?_
        obtain ⟨c14, ec14, Wc14, fc14, gc14⟩ := pa_125 WLc_45 tv11 (i := x3_45) (by omega) (by omega) (x := v13) (trivial)
        refine wb ec14 ?_
        have e58 := (Zfr.gr fc14 t_a0 (by decide)).trans e48
        have e59 := (Zfr.gr fc14 t_a0 (by decide)).trans e49
        have e60 := (Zfr.ai fc14 tkr0 (by decide)).trans e50
        have e61 := (Zfr.ai fc14 tkz0 (by decide)).trans e51
        have e62 := (Zfr.gi fc14 t_a0 (by decide)).trans e52
        have e63 := (Zfr.ai fc14 tv12 (by decide)).trans ev13
        have k64 := GtM_fr k53 fc14 t_a0 WLc_45 (by decide)
        have k65 := WkS_fr k54 fc14 t_a0 WLc_45 (by decide)
        have k66 := TxM_fr k55 fc14 t_a0 WLc_45 (by decide)
        have k67 := WkM_fr k56 fc14 t_a0 WLc_45 (by decide)
        have F68 := Zfr.tr FLc_45 fc14 (by decide)
        have := li_1
        have := i_add (a := x3_45) (b := 1) (by omega) (by omega)
        exact lInl ⟨rfl, rfl, rfl, Wc14, F68, by (try dsimp only); omega, by (try dsimp only); omega⟩ (by (try dsimp only); omega)
    · exact ⟨rfl, rfl, rfl, Wq8, Zfr.rf, by (try dsimp only); omega, by (try dsimp only); omega⟩
    · (try dsimp only); omega
  obtain ⟨b, eb, hb⟩ := L44
  refine wb eb ?_
  clear eb
  obtain ⟨z0_69, z1_69, z2_69, c_69⟩ := b
  try dsimp only at hb ⊢
  obtain ⟨rfl, rfl, rfl, WXc_69, FXc_69⟩ := hb
  have e70 := (Zfr.gr FXc_69 t_a0 (by decide)).trans e34
  have e71 := (Zfr.gr FXc_69 t_a0 (by decide)).trans e35
  have e72 := (Zfr.ai FXc_69 tkr0 (by decide)).trans e36
  have e73 := (Zfr.ai FXc_69 tkz0 (by decide)).trans e37
  have e74 := (Zfr.gi FXc_69 t_a0 (by decide)).trans e38
  have k75 := GtM_fr k39 FXc_69 t_a0 Wq8 (by decide)
  have k76 := WkS_fr k40 FXc_69 t_a0 Wq8 (by decide)
  have k77 := TxM_fr k41 FXc_69 t_a0 Wq8 (by decide)
  have k78 := WkM_fr k42 FXc_69 t_a0 Wq8 (by decide)
  have F79 := Zfr.tr F43 FXc_69 (by decide)
  obtain ⟨c15, ec15, Wc15, fc15, gc15⟩ := pf_64_81 WXc_69 t_a0 (x := q8.1) (rgi (by omega) (by omega))
  refine wb ec15 ?_
  have e80 := (Zfr.gr fc15 t_a0 (by decide)).trans e70
  have e81 := (Zfr.gr fc15 t_a0 (by decide)).trans e71
  have e82 := (Zfr.ai fc15 tkr0 (by decide)).trans e72
  have e83 := (Zfr.ai fc15 tkz0 (by decide)).trans e73
  have e84 := (Zfr.gi fc15 t_a0 (by decide)).trans e74
  have k85 := GtM_fr k75 fc15 t_a0 WXc_69 (by decide)
  have k86 := WkS_fr k76 fc15 t_a0 WXc_69 (by decide)
  have k87 := TxM_fr k77 fc15 t_a0 WXc_69 (by decide)
  have k88 := WkM_fr k78 fc15 t_a0 WXc_69 (by decide)
  have F89 := Zfr.tr F79 fc15 (by decide)
  obtain ⟨v16, ev16, tv16⟩ := gf_64_43 Wc15 t_a0
  refine wb ev16 ?_
  refine wb e84 ?_
  obtain ⟨v18, ev18, lv18, uv18⟩ := ga_96 Wc15 tv16 (i := bs0) (by omega) (by omega)
  refine wb ev18 ?_
  obtain ⟨c19, ec19, Wc19, fc19, gc19⟩ := pf_64_87 Wc15 t_a0 (x := v18) (rgi (by omega) (by omega))
  refine wb ec19 ?_
  have e90 := (Zfr.gr fc19 t_a0 (by decide)).trans e80
  have e91 := (Zfr.gr fc19 t_a0 (by decide)).trans e81
  have e92 := (Zfr.ai fc19 tkr0 (by decide)).trans e82
  have e93 := (Zfr.ai fc19 tkz0 (by decide)).trans e83
  have e94 := (Zfr.gi fc19 t_a0 (by decide)).trans e84
  have e95 := (Zfr.gr fc19 t_a0 (by decide)).trans ev16
  have e96 := (Zfr.ai fc19 tv16 (by decide)).trans ev18
  have k97 := GtM_fr k85 fc19 t_a0 Wc15 (by decide)
  have k98 := WkS_fr k86 fc19 t_a0 Wc15 (by decide)
  have k99 := TxM_fr k87 fc19 t_a0 Wc15 (by decide)
  have k100 := WkM_fr k88 fc19 t_a0 Wc15 (by decide)
  have F101 := Zfr.tr F89 fc19 (by decide)
  unfold f_Mo_answered_71
  have L102 : ∃ b, zlp (fun a : Nat × Int32 × Int32 × Int32 × Zc => g_Mo_answered_71 nf a.1 a.2.1 a.2.2.1 a.2.2.2.1 a.2.2.2.2) nf (a0, a1, q8.1, 0, c19) = some b ∧ (fun b : (Nat × Int32 × Int32 × Zc) => a0 = b.1 ∧ a1 = b.2.1 ∧ q8.1 = b.2.2.1 ∧ Zwt zty G b.2.2.2 ∧ Zfr G ([(132, 0)] : List (Nat × Nat)) c19 b.2.2.2) b := by
    refine wlp (fun a : Nat × Int32 × Int32 × Int32 × Zc => a0 = a.1 ∧ a1 = a.2.1 ∧ q8.1 = a.2.2.1 ∧ Zwt zty G a.2.2.2.2 ∧ Zfr G ([(132, 0)] : List (Nat × Nat)) c19 a.2.2.2.2 ∧ 0 ≤ a.2.2.2.1.toInt ∧ a.2.2.2.1.toInt ≤ 8) (fun a => (8 - a.2.2.2.1.toInt).toNat) (fun b : (Nat × Int32 × Int32 × Zc) => a0 = b.1 ∧ a1 = b.2.1 ∧ q8.1 = b.2.2.1 ∧ Zwt zty G b.2.2.2 ∧ Zfr G ([(132, 0)] : List (Nat × Nat)) c19 b.2.2.2) ?_ ?_ ?_
    · rintro ⟨x0_103, x1_103, x2_103, x3_103, c_103⟩ hI
      try dsimp only at hI ⊢
      obtain ⟨rfl, rfl, rfl, WLc_103, FLc_103, j104, j105⟩ := hI
      have e106 := (Zfr.gr FLc_103 t_a0 (by decide)).trans e90
      have e107 := (Zfr.gr FLc_103 t_a0 (by decide)).trans e91
      have e108 := (Zfr.ai FLc_103 tkr0 (by decide)).trans e92
      have e109 := (Zfr.ai FLc_103 tkz0 (by decide)).trans e93
      have e110 := (Zfr.gi FLc_103 t_a0 (by decide)).trans e94
      have e111 := (Zfr.ai FLc_103 tv16 (by decide)).trans e96
      have e112 := (Zfr.gi FLc_103 t_a0 (by decide)).trans gc19
      have k113 := GtM_fr k97 FLc_103 t_a0 Wc19 (by decide)
      have k114 := WkS_fr k98 FLc_103 t_a0 Wc19 (by decide)
      have k115 := TxM_fr k99 FLc_103 t_a0 Wc19 (by decide)
      have k116 := WkM_fr k100 FLc_103 t_a0 Wc19 (by decide)
      unfold g_Mo_answered_71
      refine wb e112 ?_
      refine wi (fun hq117 => ?_) (fun hq117 => ?_)
      · have hq117 := i_le hq117
        exact lInr ⟨rfl, rfl, rfl, WLc_103, FLc_103⟩
      · have hq117 := i_nle hq117
        obtain ⟨v22, ev22, tv22⟩ := gf_64_86 WLc_103 t_a0
        refine wb ev22 ?_
        obtain ⟨c23, ec23, Wc23, fc23, gc23⟩ := pa_132 WLc_103 tv22 (i := x3_103) (by omega) (by omega) (x := x3_103) (rgi (by omega) (by omega))
        refine wb ec23 ?_
        have e118 := (Zfr.gr fc23 t_a0 (by decide)).trans e106
        have e119 := (Zfr.gr fc23 t_a0 (by decide)).trans e107
        have e120 := (Zfr.ai fc23 tkr0 (by decide)).trans e108
        have e121 := (Zfr.ai fc23 tkz0 (by decide)).trans e109
        have e122 := (Zfr.gi fc23 t_a0 (by decide)).trans e110
        have e123 := (Zfr.ai fc23 tv16 (by decide)).trans e111
        have k124 := GtM_fr k113 fc23 t_a0 WLc_103 (by decide)
        have k125 := WkS_fr k114 fc23 t_a0 WLc_103 (by decide)
        have k126 := TxM_fr k115 fc23 t_a0 WLc_103 (by decide)
        have k127 := WkM_fr k116 fc23 t_a0 WLc_103 (by decide)
        have F128 := Zfr.tr FLc_103 fc23 (by decide)
        have := li_1
        have := i_add (a := x3_103) (b := 1) (by omega) (by omega)
        exact lInl ⟨rfl, rfl, rfl, Wc23, F128, by (try dsimp only); omega, by (try dsimp only); omega⟩ (by (try dsimp only); omega)
    · exact ⟨rfl, rfl, rfl, Wc19, Zfr.rf, by (try dsimp only); omega, by (try dsimp only); omega⟩
    · (try dsimp only); omega
  obtain ⟨b, eb, hb⟩ := L102
  refine wb eb ?_
  clear eb
  obtain ⟨z0_129, z1_129, z2_129, c_129⟩ := b
  try dsimp only at hb ⊢
  obtain ⟨rfl, rfl, rfl, WXc_129, FXc_129⟩ := hb
  have e130 := (Zfr.gr FXc_129 t_a0 (by decide)).trans e90
  have e131 := (Zfr.gr FXc_129 t_a0 (by decide)).trans e91
  have e132 := (Zfr.ai FXc_129 tkr0 (by decide)).trans e92
  have e133 := (Zfr.ai FXc_129 tkz0 (by decide)).trans e93
  have e134 := (Zfr.gi FXc_129 t_a0 (by decide)).trans e94
  have e135 := (Zfr.gr FXc_129 t_a0 (by decide)).trans e95
  have e136 := (Zfr.ai FXc_129 tv16 (by decide)).trans e96
  have k137 := GtM_fr k97 FXc_129 t_a0 Wc19 (by decide)
  have k138 := WkS_fr k98 FXc_129 t_a0 Wc19 (by decide)
  have k139 := TxM_fr k99 FXc_129 t_a0 Wc19 (by decide)
  have k140 := WkM_fr k100 FXc_129 t_a0 Wc19 (by decide)
  have F141 := Zfr.tr F101 FXc_129 (by decide)
  obtain ⟨w25, ew25⟩ := go_64 WXc_129 t_a0
  refine wb ew25 ?_
  obtain ⟨q24, eq24, Wq24, fq24⟩ := p_Mo_sortRows hn WXc_129  t_a0
  refine wb eq24 ?_
  have e142 := (Zfr.gr fq24 t_a0 (by decide)).trans e130
  have e143 := (Zfr.gr fq24 t_a0 (by decide)).trans e131
  have e144 := (Zfr.ai fq24 tkr0 (by decide)).trans e132
  have e145 := (Zfr.ai fq24 tkz0 (by decide)).trans e133
  have e146 := (Zfr.gi fq24 t_a0 (by decide)).trans e134
  have e147 := (Zfr.gr fq24 t_a0 (by decide)).trans e135
  have e148 := (Zfr.ai fq24 tv16 (by decide)).trans e136
  have k149 := GtM_fr k137 fq24 t_a0 WXc_129 (by decide)
  have k150 := WkS_fr k138 fq24 t_a0 WXc_129 (by decide)
  have k151 := TxM_fr k139 fq24 t_a0 WXc_129 (by decide)
  have k152 := WkM_fr k140 fq24 t_a0 WXc_129 (by decide)
  have F153 := Zfr.tr F141 fq24 (by decide)
  obtain ⟨v26, ev26, tv26⟩ := gf_64_47 Wq24 t_a0
  refine wb ev26 ?_
  refine wb e146 ?_
  obtain ⟨v28, ev28, lv28, uv28⟩ := ga_100 Wq24 tv26 (i := bs0) (by omega) (by omega)
  refine wb ev28 ?_
  refine wi (fun hq154 => ?_) (fun hq154 => ?_)
  · have hq154 := i_le hq154
    unfold f_Mo_answered_131
    unfold f_Mo_answered_133
    have L155 : ∃ b, zlp (fun a : Nat × Int32 × Int32 × Int32 × Zc => g_Mo_answered_133 nf a.1 a.2.1 a.2.2.1 a.2.2.2.1 a.2.2.2.2) nf (a0, a1, q8.1, 0, q24) = some b ∧ (fun b : (Nat × Int32 × Int32 × Zc) => a0 = b.1 ∧ a1 = b.2.1 ∧ q8.1 = b.2.2.1 ∧ Zwt zty G b.2.2.2 ∧ Zfr G ([(128, 0)] : List (Nat × Nat)) q24 b.2.2.2) b := by
      refine wlp (fun a : Nat × Int32 × Int32 × Int32 × Zc => a0 = a.1 ∧ a1 = a.2.1 ∧ q8.1 = a.2.2.1 ∧ Zwt zty G a.2.2.2.2 ∧ Zfr G ([(128, 0)] : List (Nat × Nat)) q24 a.2.2.2.2 ∧ 0 ≤ a.2.2.2.1.toInt ∧ a.2.2.2.1.toInt ≤ 20000) (fun a => (20000 - a.2.2.2.1.toInt).toNat) (fun b : (Nat × Int32 × Int32 × Zc) => a0 = b.1 ∧ a1 = b.2.1 ∧ q8.1 = b.2.2.1 ∧ Zwt zty G b.2.2.2 ∧ Zfr G ([(128, 0)] : List (Nat × Nat)) q24 b.2.2.2) ?_ ?_ ?_
      · rintro ⟨x0_156, x1_156, x2_156, x3_156, c_156⟩ hI
        try dsimp only at hI ⊢
        obtain ⟨rfl, rfl, rfl, WLc_156, FLc_156, j157, j158⟩ := hI
        have e159 := (Zfr.gr FLc_156 t_a0 (by decide)).trans e142
        have e160 := (Zfr.gr FLc_156 t_a0 (by decide)).trans e143
        have e161 := (Zfr.ai FLc_156 tkr0 (by decide)).trans e144
        have e162 := (Zfr.ai FLc_156 tkz0 (by decide)).trans e145
        have e163 := (Zfr.gi FLc_156 t_a0 (by decide)).trans e146
        have e164 := (Zfr.gr FLc_156 t_a0 (by decide)).trans e147
        have e165 := (Zfr.ai FLc_156 tv16 (by decide)).trans e148
        have e166 := (Zfr.ai FLc_156 tv26 (by decide)).trans ev28
        have k167 := GtM_fr k149 FLc_156 t_a0 Wq24 (by decide)
        have k168 := WkS_fr k150 FLc_156 t_a0 Wq24 (by decide)
        have k169 := TxM_fr k151 FLc_156 t_a0 Wq24 (by decide)
        have k170 := WkM_fr k152 FLc_156 t_a0 Wq24 (by decide)
        unfold g_Mo_answered_133
        refine wi (fun hq171 => ?_) (fun hq171 => ?_)
        · have hq171 := i_le hq171
          exact lInr ⟨rfl, rfl, rfl, WLc_156, FLc_156⟩
        · have hq171 := i_nle hq171
          unfold f_Mo_answered_141
          have L172 : ∃ b, zlp (fun a : Nat × Int32 × Int32 × Int32 × Int32 × Zc => g_Mo_answered_141 nf a.1 a.2.1 a.2.2.1 a.2.2.2.1 a.2.2.2.2.1 a.2.2.2.2.2) nf (a0, a1, q8.1, x3_156, 0, c_156) = some b ∧ (fun b : (Nat × Int32 × Int32 × Int32 × Zc) => a0 = b.1 ∧ a1 = b.2.1 ∧ q8.1 = b.2.2.1 ∧ x3_156 = b.2.2.2.1 ∧ Zwt zty G b.2.2.2.2 ∧ Zfr G ([(128, 0)] : List (Nat × Nat)) c_156 b.2.2.2.2) b := by
            refine wlp (fun a : Nat × Int32 × Int32 × Int32 × Int32 × Zc => a0 = a.1 ∧ a1 = a.2.1 ∧ q8.1 = a.2.2.1 ∧ x3_156 = a.2.2.2.1 ∧ Zwt zty G a.2.2.2.2.2 ∧ Zfr G ([(128, 0)] : List (Nat × Nat)) c_156 a.2.2.2.2.2 ∧ 0 ≤ a.2.2.2.2.1.toInt ∧ a.2.2.2.2.1.toInt ≤ 8) (fun a => (8 - a.2.2.2.2.1.toInt).toNat) (fun b : (Nat × Int32 × Int32 × Int32 × Zc) => a0 = b.1 ∧ a1 = b.2.1 ∧ q8.1 = b.2.2.1 ∧ x3_156 = b.2.2.2.1 ∧ Zwt zty G b.2.2.2.2 ∧ Zfr G ([(128, 0)] : List (Nat × Nat)) c_156 b.2.2.2.2) ?_ ?_ ?_
            · rintro ⟨x0_173, x1_173, x2_173, x3_173, x4_173, c_173⟩ hI
              try dsimp only at hI ⊢
              obtain ⟨rfl, rfl, rfl, rfl, WLc_173, FLc_173, j174, j175⟩ := hI
              have e176 := (Zfr.gr FLc_173 t_a0 (by decide)).trans e159
              have e177 := (Zfr.gr FLc_173 t_a0 (by decide)).trans e160
              have e178 := (Zfr.ai FLc_173 tkr0 (by decide)).trans e161
              have e179 := (Zfr.ai FLc_173 tkz0 (by decide)).trans e162
              have e180 := (Zfr.gi FLc_173 t_a0 (by decide)).trans e163
              have e181 := (Zfr.gr FLc_173 t_a0 (by decide)).trans e164
              have e182 := (Zfr.ai FLc_173 tv16 (by decide)).trans e165
              have e183 := (Zfr.ai FLc_173 tv26 (by decide)).trans e166
              have k184 := GtM_fr k167 FLc_173 t_a0 WLc_156 (by decide)
              have k185 := WkS_fr k168 FLc_173 t_a0 WLc_156 (by decide)
              have k186 := TxM_fr k169 FLc_173 t_a0 WLc_156 (by decide)
              have k187 := WkM_fr k170 FLc_173 t_a0 WLc_156 (by decide)
              unfold g_Mo_answered_141
              refine wb e181 ?_
              refine wb e180 ?_
              refine wb e182 ?_
              refine wi (fun hq188 => ?_) (fun hq188 => ?_)
              · have hq188 := i_le hq188
                exact lInr ⟨rfl, rfl, rfl, rfl, WLc_173, FLc_173⟩
              · have hq188 := i_nle hq188
                obtain ⟨v35, ev35, tv35⟩ := gf_64_82 WLc_173 t_a0
                refine wb ev35 ?_
                obtain ⟨v36, ev36, tv36⟩ := gf_64_78 WLc_173 t_a0
                refine wb ev36 ?_
                obtain ⟨v37, ev37, tv37⟩ := gf_64_79 WLc_173 t_a0
                refine wb ev37 ?_
                obtain ⟨v38, ev38, lv38, uv38⟩ := ga_126 WLc_173 tv37 (i := x3_156) (by omega) (by omega)
                refine wb ev38 ?_
                have := li_8
                have := i_mull (a := 8) (b := v38) (n := 8) li_8 (by omega) (by omega)
                have := i_add (a := (8 * v38)) (b := x4_173) (by omega) (by omega)
                obtain ⟨v39, ev39, _⟩ := ga_125 WLc_173 tv36 (i := ((8 * v38) + x4_173)) (by omega) (by omega)
                refine wb ev39 ?_
                have := li_160000
                have := i_mull (a := 160000) (b := a1) (n := 160000) li_160000 (by omega) (by omega)
                have := i_mull (a := 8) (b := x3_156) (n := 8) li_8 (by omega) (by omega)
                have := i_add (a := (160000 * a1)) (b := (8 * x3_156)) (by omega) (by omega)
                have := i_add (a := ((160000 * a1) + (8 * x3_156))) (b := x4_173) (by omega) (by omega)
                obtain ⟨c40, ec40, Wc40, fc40, gc40⟩ := pa_128 WLc_173 tv35 (i := (((160000 * a1) + (8 * x3_156)) + x4_173)) (by omega) (by omega) (x := v39) (trivial)
                refine wb ec40 ?_
                have e189 := (Zfr.gr fc40 t_a0 (by decide)).trans e176
                have e190 := (Zfr.gr fc40 t_a0 (by decide)).trans e177
                have e191 := (Zfr.ai fc40 tkr0 (by decide)).trans e178
                have e192 := (Zfr.ai fc40 tkz0 (by decide)).trans e179
                have e193 := (Zfr.gi fc40 t_a0 (by decide)).trans e180
                have e194 := (Zfr.ai fc40 tv16 (by decide)).trans e182
                have e195 := (Zfr.ai fc40 tv26 (by decide)).trans e183
                have e196 := (Zfr.ai fc40 tv37 (by decide)).trans ev38
                have e197 := (Zfr.ai fc40 tv36 (by decide)).trans ev39
                have k198 := GtM_fr k184 fc40 t_a0 WLc_173 (by decide)
                have k199 := WkS_fr k185 fc40 t_a0 WLc_173 (by decide)
                have k200 := TxM_fr k186 fc40 t_a0 WLc_173 (by decide)
                have k201 := WkM_fr k187 fc40 t_a0 WLc_173 (by decide)
                have F202 := Zfr.tr FLc_173 fc40 (by decide)
                have := li_1
                have := i_add (a := x4_173) (b := 1) (by omega) (by omega)
                exact lInl ⟨rfl, rfl, rfl, rfl, Wc40, F202, by (try dsimp only); omega, by (try dsimp only); omega⟩ (by (try dsimp only); omega)
            · exact ⟨rfl, rfl, rfl, rfl, WLc_156, Zfr.rf, by (try dsimp only); omega, by (try dsimp only); omega⟩
            · (try dsimp only); omega
          obtain ⟨b, eb, hb⟩ := L172
          refine wb eb ?_
          clear eb
          obtain ⟨z0_203, z1_203, z2_203, z3_203, c_203⟩ := b
          try dsimp only at hb ⊢
          obtain ⟨rfl, rfl, rfl, rfl, WXc_203, FXc_203⟩ := hb
          have e204 := (Zfr.gr FXc_203 t_a0 (by decide)).trans e159
          have e205 := (Zfr.gr FXc_203 t_a0 (by decide)).trans e160
          have e206 := (Zfr.ai FXc_203 tkr0 (by decide)).trans e161
          have e207 := (Zfr.ai FXc_203 tkz0 (by decide)).trans e162
          have e208 := (Zfr.gi FXc_203 t_a0 (by decide)).trans e163
          have e209 := (Zfr.ai FXc_203 tv16 (by decide)).trans e165
          have e210 := (Zfr.ai FXc_203 tv26 (by decide)).trans e166
          have k211 := GtM_fr k167 FXc_203 t_a0 WLc_156 (by decide)
          have k212 := WkS_fr k168 FXc_203 t_a0 WLc_156 (by decide)
          have k213 := TxM_fr k169 FXc_203 t_a0 WLc_156 (by decide)
          have k214 := WkM_fr k170 FXc_203 t_a0 WLc_156 (by decide)
          have F215 := Zfr.tr FLc_156 FXc_203 (by decide)
          have := li_1
          have := i_add (a := x3_156) (b := 1) (by omega) (by omega)
          exact lInl ⟨rfl, rfl, rfl, WXc_203, F215, by (try dsimp only); omega, by (try dsimp only); omega⟩ (by (try dsimp only); omega)
      · exact ⟨rfl, rfl, rfl, Wq24, Zfr.rf, by (try dsimp only); omega, by (try dsimp only); omega⟩
      · (try dsimp only); omega
    obtain ⟨b, eb, hb⟩ := L155
    refine wb eb ?_
    clear eb
    obtain ⟨z0_216, z1_216, z2_216, c_216⟩ := b
    try dsimp only at hb ⊢
    obtain ⟨rfl, rfl, rfl, WXc_216, FXc_216⟩ := hb
    have e217 := (Zfr.gr FXc_216 t_a0 (by decide)).trans e142
    have e218 := (Zfr.gr FXc_216 t_a0 (by decide)).trans e143
    have e219 := (Zfr.ai FXc_216 tkr0 (by decide)).trans e144
    have e220 := (Zfr.ai FXc_216 tkz0 (by decide)).trans e145
    have e221 := (Zfr.gi FXc_216 t_a0 (by decide)).trans e146
    have e222 := (Zfr.gr FXc_216 t_a0 (by decide)).trans e147
    have e223 := (Zfr.ai FXc_216 tv16 (by decide)).trans e148
    have e224 := (Zfr.ai FXc_216 tv26 (by decide)).trans ev28
    have k225 := GtM_fr k149 FXc_216 t_a0 Wq24 (by decide)
    have k226 := WkS_fr k150 FXc_216 t_a0 Wq24 (by decide)
    have k227 := TxM_fr k151 FXc_216 t_a0 Wq24 (by decide)
    have k228 := WkM_fr k152 FXc_216 t_a0 Wq24 (by decide)
    have F229 := Zfr.tr F153 FXc_216 (by decide)
    obtain ⟨v41, ev41, tv41⟩ := gf_64_83 WXc_216 t_a0
    refine wb ev41 ?_
    obtain ⟨c42, ec42, Wc42, fc42, gc42⟩ := pa_129 WXc_216 tv41 (i := a1) (by omega) (by omega) (x := q8.1) (rgi (by omega) (by omega))
    refine wb ec42 ?_
    have e230 := (Zfr.gr fc42 t_a0 (by decide)).trans e217
    have e231 := (Zfr.gr fc42 t_a0 (by decide)).trans e218
    have e232 := (Zfr.ai fc42 tkr0 (by decide)).trans e219
    have e233 := (Zfr.ai fc42 tkz0 (by decide)).trans e220
    have e234 := (Zfr.gi fc42 t_a0 (by decide)).trans e221
    have e235 := (Zfr.gr fc42 t_a0 (by decide)).trans e222
    have e236 := (Zfr.ai fc42 tv16 (by decide)).trans e223
    have e237 := (Zfr.ai fc42 tv26 (by decide)).trans e224
    have k238 := GtM_fr k225 fc42 t_a0 WXc_216 (by decide)
    have k239 := WkS_fr k226 fc42 t_a0 WXc_216 (by decide)
    have k240 := TxM_fr k227 fc42 t_a0 WXc_216 (by decide)
    have k241 := WkM_fr k228 fc42 t_a0 WXc_216 (by decide)
    have F242 := Zfr.tr F229 fc42 (by decide)
    obtain ⟨v43, ev43, tv43⟩ := gf_64_84 Wc42 t_a0
    refine wb ev43 ?_
    refine wb e235 ?_
    refine wb e234 ?_
    refine wb e236 ?_
    obtain ⟨c47, ec47, Wc47, fc47, gc47⟩ := pa_130 Wc42 tv43 (i := a1) (by omega) (by omega) (x := v18) (rgi (by omega) (by omega))
    refine wb ec47 ?_
    have e243 := (Zfr.gr fc47 t_a0 (by decide)).trans e230
    have e244 := (Zfr.gr fc47 t_a0 (by decide)).trans e231
    have e245 := (Zfr.ai fc47 tkr0 (by decide)).trans e232
    have e246 := (Zfr.ai fc47 tkz0 (by decide)).trans e233
    have e247 := (Zfr.gi fc47 t_a0 (by decide)).trans e234
    have e248 := (Zfr.ai fc47 tv16 (by decide)).trans e236
    have e249 := (Zfr.ai fc47 tv26 (by decide)).trans e237
    have e250 := (Zfr.ai fc47 tv41 (by decide)).trans gc42
    have k251 := GtM_fr k238 fc47 t_a0 Wc42 (by decide)
    have k252 := WkS_fr k239 fc47 t_a0 Wc42 (by decide)
    have k253 := TxM_fr k240 fc47 t_a0 Wc42 (by decide)
    have k254 := WkM_fr k241 fc47 t_a0 Wc42 (by decide)
    have F255 := Zfr.tr F242 fc47 (by decide)
    obtain ⟨v48, ev48, tv48⟩ := gf_64_85 Wc47 t_a0
    refine wb ev48 ?_
    have := nb_1
    obtain ⟨c49, ec49, Wc49, fc49, gc49⟩ := pa_131 Wc47 tv48 (i := a1) (by omega) (by omega) (x := (vp_nar .boolean 1)) (rgi (by omega) (by omega))
    refine wb ec49 ?_
    have e256 := (Zfr.gr fc49 t_a0 (by decide)).trans e243
    have e257 := (Zfr.gr fc49 t_a0 (by decide)).trans e244
    have e258 := (Zfr.ai fc49 tkr0 (by decide)).trans e245
    have e259 := (Zfr.ai fc49 tkz0 (by decide)).trans e246
    have e260 := (Zfr.gi fc49 t_a0 (by decide)).trans e247
    have e261 := (Zfr.ai fc49 tv16 (by decide)).trans e248
    have e262 := (Zfr.ai fc49 tv26 (by decide)).trans e249
    have e263 := (Zfr.ai fc49 tv41 (by decide)).trans e250
    have e264 := (Zfr.ai fc49 tv43 (by decide)).trans gc47
    have k265 := GtM_fr k251 fc49 t_a0 Wc47 (by decide)
    have k266 := WkS_fr k252 fc49 t_a0 Wc47 (by decide)
    have k267 := TxM_fr k253 fc49 t_a0 Wc47 (by decide)
    have k268 := WkM_fr k254 fc49 t_a0 Wc47 (by decide)
    have F269 := Zfr.tr F255 fc49 (by decide)
    exact ⟨_, rfl, Wc49, F269⟩
  · have hq154 := i_nle hq154
    refine wb ev26 ?_
    refine wb e146 ?_
    refine wb ev28 ?_
    refine wi (fun hq270 => ?_) (fun hq270 => ?_)
    · have hq270 := i_le hq270
      unfold f_Mo_answered_131
      unfold f_Mo_answered_133
      have L271 : ∃ b, zlp (fun a : Nat × Int32 × Int32 × Int32 × Zc => g_Mo_answered_133 nf a.1 a.2.1 a.2.2.1 a.2.2.2.1 a.2.2.2.2) nf (a0, a1, q8.1, 0, q24) = some b ∧ (fun b : (Nat × Int32 × Int32 × Zc) => a0 = b.1 ∧ a1 = b.2.1 ∧ q8.1 = b.2.2.1 ∧ Zwt zty G b.2.2.2 ∧ Zfr G ([(128, 0)] : List (Nat × Nat)) q24 b.2.2.2) b := by
        refine wlp (fun a : Nat × Int32 × Int32 × Int32 × Zc => a0 = a.1 ∧ a1 = a.2.1 ∧ q8.1 = a.2.2.1 ∧ Zwt zty G a.2.2.2.2 ∧ Zfr G ([(128, 0)] : List (Nat × Nat)) q24 a.2.2.2.2 ∧ 0 ≤ a.2.2.2.1.toInt ∧ a.2.2.2.1.toInt ≤ 9999) (fun a => (9999 - a.2.2.2.1.toInt).toNat) (fun b : (Nat × Int32 × Int32 × Zc) => a0 = b.1 ∧ a1 = b.2.1 ∧ q8.1 = b.2.2.1 ∧ Zwt zty G b.2.2.2 ∧ Zfr G ([(128, 0)] : List (Nat × Nat)) q24 b.2.2.2) ?_ ?_ ?_
        · rintro ⟨x0_272, x1_272, x2_272, x3_272, c_272⟩ hI
          try dsimp only at hI ⊢
          obtain ⟨rfl, rfl, rfl, WLc_272, FLc_272, j273, j274⟩ := hI
          have e275 := (Zfr.gr FLc_272 t_a0 (by decide)).trans e142
          have e276 := (Zfr.gr FLc_272 t_a0 (by decide)).trans e143
          have e277 := (Zfr.ai FLc_272 tkr0 (by decide)).trans e144
          have e278 := (Zfr.ai FLc_272 tkz0 (by decide)).trans e145
          have e279 := (Zfr.gi FLc_272 t_a0 (by decide)).trans e146
          have e280 := (Zfr.gr FLc_272 t_a0 (by decide)).trans e147
          have e281 := (Zfr.ai FLc_272 tv16 (by decide)).trans e148
          have e282 := (Zfr.ai FLc_272 tv26 (by decide)).trans ev28
          have k283 := GtM_fr k149 FLc_272 t_a0 Wq24 (by decide)
          have k284 := WkS_fr k150 FLc_272 t_a0 Wq24 (by decide)
          have k285 := TxM_fr k151 FLc_272 t_a0 Wq24 (by decide)
          have k286 := WkM_fr k152 FLc_272 t_a0 Wq24 (by decide)
          unfold g_Mo_answered_133
          refine wi (fun hq287 => ?_) (fun hq287 => ?_)
          · have hq287 := i_le hq287
            exact lInr ⟨rfl, rfl, rfl, WLc_272, FLc_272⟩
          · have hq287 := i_nle hq287
            unfold f_Mo_answered_141
            have L288 : ∃ b, zlp (fun a : Nat × Int32 × Int32 × Int32 × Int32 × Zc => g_Mo_answered_141 nf a.1 a.2.1 a.2.2.1 a.2.2.2.1 a.2.2.2.2.1 a.2.2.2.2.2) nf (a0, a1, q8.1, x3_272, 0, c_272) = some b ∧ (fun b : (Nat × Int32 × Int32 × Int32 × Zc) => a0 = b.1 ∧ a1 = b.2.1 ∧ q8.1 = b.2.2.1 ∧ x3_272 = b.2.2.2.1 ∧ Zwt zty G b.2.2.2.2 ∧ Zfr G ([(128, 0)] : List (Nat × Nat)) c_272 b.2.2.2.2) b := by
              refine wlp (fun a : Nat × Int32 × Int32 × Int32 × Int32 × Zc => a0 = a.1 ∧ a1 = a.2.1 ∧ q8.1 = a.2.2.1 ∧ x3_272 = a.2.2.2.1 ∧ Zwt zty G a.2.2.2.2.2 ∧ Zfr G ([(128, 0)] : List (Nat × Nat)) c_272 a.2.2.2.2.2 ∧ 0 ≤ a.2.2.2.2.1.toInt ∧ a.2.2.2.2.1.toInt ≤ 8) (fun a => (8 - a.2.2.2.2.1.toInt).toNat) (fun b : (Nat × Int32 × Int32 × Int32 × Zc) => a0 = b.1 ∧ a1 = b.2.1 ∧ q8.1 = b.2.2.1 ∧ x3_272 = b.2.2.2.1 ∧ Zwt zty G b.2.2.2.2 ∧ Zfr G ([(128, 0)] : List (Nat × Nat)) c_272 b.2.2.2.2) ?_ ?_ ?_
              · rintro ⟨x0_289, x1_289, x2_289, x3_289, x4_289, c_289⟩ hI
                try dsimp only at hI ⊢
                obtain ⟨rfl, rfl, rfl, rfl, WLc_289, FLc_289, j290, j291⟩ := hI
                have e292 := (Zfr.gr FLc_289 t_a0 (by decide)).trans e275
                have e293 := (Zfr.gr FLc_289 t_a0 (by decide)).trans e276
                have e294 := (Zfr.ai FLc_289 tkr0 (by decide)).trans e277
                have e295 := (Zfr.ai FLc_289 tkz0 (by decide)).trans e278
                have e296 := (Zfr.gi FLc_289 t_a0 (by decide)).trans e279
                have e297 := (Zfr.gr FLc_289 t_a0 (by decide)).trans e280
                have e298 := (Zfr.ai FLc_289 tv16 (by decide)).trans e281
                have e299 := (Zfr.ai FLc_289 tv26 (by decide)).trans e282
                have k300 := GtM_fr k283 FLc_289 t_a0 WLc_272 (by decide)
                have k301 := WkS_fr k284 FLc_289 t_a0 WLc_272 (by decide)
                have k302 := TxM_fr k285 FLc_289 t_a0 WLc_272 (by decide)
                have k303 := WkM_fr k286 FLc_289 t_a0 WLc_272 (by decide)
                unfold g_Mo_answered_141
                refine wb e297 ?_
                refine wb e296 ?_
                refine wb e298 ?_
                refine wi (fun hq304 => ?_) (fun hq304 => ?_)
                · have hq304 := i_le hq304
                  exact lInr ⟨rfl, rfl, rfl, rfl, WLc_289, FLc_289⟩
                · have hq304 := i_nle hq304
                  obtain ⟨v35, ev35, tv35⟩ := gf_64_82 WLc_289 t_a0
                  refine wb ev35 ?_
                  obtain ⟨v36, ev36, tv36⟩ := gf_64_78 WLc_289 t_a0
                  refine wb ev36 ?_
                  obtain ⟨v37, ev37, tv37⟩ := gf_64_79 WLc_289 t_a0
                  refine wb ev37 ?_
                  obtain ⟨v38, ev38, lv38, uv38⟩ := ga_126 WLc_289 tv37 (i := x3_272) (by omega) (by omega)
                  refine wb ev38 ?_
                  have := li_8
                  have := i_mull (a := 8) (b := v38) (n := 8) li_8 (by omega) (by omega)
                  have := i_add (a := (8 * v38)) (b := x4_289) (by omega) (by omega)
                  obtain ⟨v39, ev39, _⟩ := ga_125 WLc_289 tv36 (i := ((8 * v38) + x4_289)) (by omega) (by omega)
                  refine wb ev39 ?_
                  have := li_160000
                  have := i_mull (a := 160000) (b := a1) (n := 160000) li_160000 (by omega) (by omega)
                  have := i_mull (a := 8) (b := x3_272) (n := 8) li_8 (by omega) (by omega)
                  have := i_add (a := (160000 * a1)) (b := (8 * x3_272)) (by omega) (by omega)
                  have := i_add (a := ((160000 * a1) + (8 * x3_272))) (b := x4_289) (by omega) (by omega)
                  obtain ⟨c40, ec40, Wc40, fc40, gc40⟩ := pa_128 WLc_289 tv35 (i := (((160000 * a1) + (8 * x3_272)) + x4_289)) (by omega) (by omega) (x := v39) (trivial)
                  refine wb ec40 ?_
                  have e305 := (Zfr.gr fc40 t_a0 (by decide)).trans e292
                  have e306 := (Zfr.gr fc40 t_a0 (by decide)).trans e293
                  have e307 := (Zfr.ai fc40 tkr0 (by decide)).trans e294
                  have e308 := (Zfr.ai fc40 tkz0 (by decide)).trans e295
                  have e309 := (Zfr.gi fc40 t_a0 (by decide)).trans e296
                  have e310 := (Zfr.ai fc40 tv16 (by decide)).trans e298
                  have e311 := (Zfr.ai fc40 tv26 (by decide)).trans e299
                  have e312 := (Zfr.ai fc40 tv37 (by decide)).trans ev38
                  have e313 := (Zfr.ai fc40 tv36 (by decide)).trans ev39
                  have k314 := GtM_fr k300 fc40 t_a0 WLc_289 (by decide)
                  have k315 := WkS_fr k301 fc40 t_a0 WLc_289 (by decide)
                  have k316 := TxM_fr k302 fc40 t_a0 WLc_289 (by decide)
                  have k317 := WkM_fr k303 fc40 t_a0 WLc_289 (by decide)
                  have F318 := Zfr.tr FLc_289 fc40 (by decide)
                  have := li_1
                  have := i_add (a := x4_289) (b := 1) (by omega) (by omega)
                  exact lInl ⟨rfl, rfl, rfl, rfl, Wc40, F318, by (try dsimp only); omega, by (try dsimp only); omega⟩ (by (try dsimp only); omega)
              · exact ⟨rfl, rfl, rfl, rfl, WLc_272, Zfr.rf, by (try dsimp only); omega, by (try dsimp only); omega⟩
              · (try dsimp only); omega
            obtain ⟨b, eb, hb⟩ := L288
            refine wb eb ?_
            clear eb
            obtain ⟨z0_319, z1_319, z2_319, z3_319, c_319⟩ := b
            try dsimp only at hb ⊢
            obtain ⟨rfl, rfl, rfl, rfl, WXc_319, FXc_319⟩ := hb
            have e320 := (Zfr.gr FXc_319 t_a0 (by decide)).trans e275
            have e321 := (Zfr.gr FXc_319 t_a0 (by decide)).trans e276
            have e322 := (Zfr.ai FXc_319 tkr0 (by decide)).trans e277
            have e323 := (Zfr.ai FXc_319 tkz0 (by decide)).trans e278
            have e324 := (Zfr.gi FXc_319 t_a0 (by decide)).trans e279
            have e325 := (Zfr.ai FXc_319 tv16 (by decide)).trans e281
            have e326 := (Zfr.ai FXc_319 tv26 (by decide)).trans e282
            have k327 := GtM_fr k283 FXc_319 t_a0 WLc_272 (by decide)
            have k328 := WkS_fr k284 FXc_319 t_a0 WLc_272 (by decide)
            have k329 := TxM_fr k285 FXc_319 t_a0 WLc_272 (by decide)
            have k330 := WkM_fr k286 FXc_319 t_a0 WLc_272 (by decide)
            have F331 := Zfr.tr FLc_272 FXc_319 (by decide)
            have := li_1
            have := i_add (a := x3_272) (b := 1) (by omega) (by omega)
            exact lInl ⟨rfl, rfl, rfl, WXc_319, F331, by (try dsimp only); omega, by (try dsimp only); omega⟩ (by (try dsimp only); omega)
        · exact ⟨rfl, rfl, rfl, Wq24, Zfr.rf, by (try dsimp only); omega, by (try dsimp only); omega⟩
        · (try dsimp only); omega
      obtain ⟨b, eb, hb⟩ := L271
      refine wb eb ?_
      clear eb
      obtain ⟨z0_332, z1_332, z2_332, c_332⟩ := b
      try dsimp only at hb ⊢
      obtain ⟨rfl, rfl, rfl, WXc_332, FXc_332⟩ := hb
      have e333 := (Zfr.gr FXc_332 t_a0 (by decide)).trans e142
      have e334 := (Zfr.gr FXc_332 t_a0 (by decide)).trans e143
      have e335 := (Zfr.ai FXc_332 tkr0 (by decide)).trans e144
      have e336 := (Zfr.ai FXc_332 tkz0 (by decide)).trans e145
      have e337 := (Zfr.gi FXc_332 t_a0 (by decide)).trans e146
      have e338 := (Zfr.gr FXc_332 t_a0 (by decide)).trans e147
      have e339 := (Zfr.ai FXc_332 tv16 (by decide)).trans e148
      have e340 := (Zfr.ai FXc_332 tv26 (by decide)).trans ev28
      have k341 := GtM_fr k149 FXc_332 t_a0 Wq24 (by decide)
      have k342 := WkS_fr k150 FXc_332 t_a0 Wq24 (by decide)
      have k343 := TxM_fr k151 FXc_332 t_a0 Wq24 (by decide)
      have k344 := WkM_fr k152 FXc_332 t_a0 Wq24 (by decide)
      have F345 := Zfr.tr F153 FXc_332 (by decide)
      obtain ⟨v41, ev41, tv41⟩ := gf_64_83 WXc_332 t_a0
      refine wb ev41 ?_
      obtain ⟨c42, ec42, Wc42, fc42, gc42⟩ := pa_129 WXc_332 tv41 (i := a1) (by omega) (by omega) (x := q8.1) (rgi (by omega) (by omega))
      refine wb ec42 ?_
      have e346 := (Zfr.gr fc42 t_a0 (by decide)).trans e333
      have e347 := (Zfr.gr fc42 t_a0 (by decide)).trans e334
      have e348 := (Zfr.ai fc42 tkr0 (by decide)).trans e335
      have e349 := (Zfr.ai fc42 tkz0 (by decide)).trans e336
      have e350 := (Zfr.gi fc42 t_a0 (by decide)).trans e337
      have e351 := (Zfr.gr fc42 t_a0 (by decide)).trans e338
      have e352 := (Zfr.ai fc42 tv16 (by decide)).trans e339
      have e353 := (Zfr.ai fc42 tv26 (by decide)).trans e340
      have k354 := GtM_fr k341 fc42 t_a0 WXc_332 (by decide)
      have k355 := WkS_fr k342 fc42 t_a0 WXc_332 (by decide)
      have k356 := TxM_fr k343 fc42 t_a0 WXc_332 (by decide)
      have k357 := WkM_fr k344 fc42 t_a0 WXc_332 (by decide)
      have F358 := Zfr.tr F345 fc42 (by decide)
      obtain ⟨v43, ev43, tv43⟩ := gf_64_84 Wc42 t_a0
      refine wb ev43 ?_
      refine wb e351 ?_
      refine wb e350 ?_
      refine wb e352 ?_
      obtain ⟨c47, ec47, Wc47, fc47, gc47⟩ := pa_130 Wc42 tv43 (i := a1) (by omega) (by omega) (x := v18) (rgi (by omega) (by omega))
      refine wb ec47 ?_
      have e359 := (Zfr.gr fc47 t_a0 (by decide)).trans e346
      have e360 := (Zfr.gr fc47 t_a0 (by decide)).trans e347
      have e361 := (Zfr.ai fc47 tkr0 (by decide)).trans e348
      have e362 := (Zfr.ai fc47 tkz0 (by decide)).trans e349
      have e363 := (Zfr.gi fc47 t_a0 (by decide)).trans e350
      have e364 := (Zfr.ai fc47 tv16 (by decide)).trans e352
      have e365 := (Zfr.ai fc47 tv26 (by decide)).trans e353
      have e366 := (Zfr.ai fc47 tv41 (by decide)).trans gc42
      have k367 := GtM_fr k354 fc47 t_a0 Wc42 (by decide)
      have k368 := WkS_fr k355 fc47 t_a0 Wc42 (by decide)
      have k369 := TxM_fr k356 fc47 t_a0 Wc42 (by decide)
      have k370 := WkM_fr k357 fc47 t_a0 Wc42 (by decide)
      have F371 := Zfr.tr F358 fc47 (by decide)
      obtain ⟨v48, ev48, tv48⟩ := gf_64_85 Wc47 t_a0
      refine wb ev48 ?_
      have := nb_1
      obtain ⟨c49, ec49, Wc49, fc49, gc49⟩ := pa_131 Wc47 tv48 (i := a1) (by omega) (by omega) (x := (vp_nar .boolean 1)) (rgi (by omega) (by omega))
      refine wb ec49 ?_
      have e372 := (Zfr.gr fc49 t_a0 (by decide)).trans e359
      have e373 := (Zfr.gr fc49 t_a0 (by decide)).trans e360
      have e374 := (Zfr.ai fc49 tkr0 (by decide)).trans e361
      have e375 := (Zfr.ai fc49 tkz0 (by decide)).trans e362
      have e376 := (Zfr.gi fc49 t_a0 (by decide)).trans e363
      have e377 := (Zfr.ai fc49 tv16 (by decide)).trans e364
      have e378 := (Zfr.ai fc49 tv26 (by decide)).trans e365
      have e379 := (Zfr.ai fc49 tv41 (by decide)).trans e366
      have e380 := (Zfr.ai fc49 tv43 (by decide)).trans gc47
      have k381 := GtM_fr k367 fc49 t_a0 Wc47 (by decide)
      have k382 := WkS_fr k368 fc49 t_a0 Wc47 (by decide)
      have k383 := TxM_fr k369 fc49 t_a0 Wc47 (by decide)
      have k384 := WkM_fr k370 fc49 t_a0 Wc47 (by decide)
      have F385 := Zfr.tr F371 fc49 (by decide)
      exact ⟨_, rfl, Wc49, F385⟩
    · have hq270 := i_nle hq270
      refine wb ev26 ?_
      refine wb e146 ?_
      refine wb ev28 ?_
      unfold f_Mo_answered_131
      unfold f_Mo_answered_133
      have L386 : ∃ b, zlp (fun a : Nat × Int32 × Int32 × Int32 × Zc => g_Mo_answered_133 nf a.1 a.2.1 a.2.2.1 a.2.2.2.1 a.2.2.2.2) nf (a0, a1, v28, 0, q24) = some b ∧ (fun b : (Nat × Int32 × Int32 × Zc) => a0 = b.1 ∧ a1 = b.2.1 ∧ v28 = b.2.2.1 ∧ Zwt zty G b.2.2.2 ∧ Zfr G ([(128, 0)] : List (Nat × Nat)) q24 b.2.2.2) b := by
        refine wlp (fun a : Nat × Int32 × Int32 × Int32 × Zc => a0 = a.1 ∧ a1 = a.2.1 ∧ v28 = a.2.2.1 ∧ Zwt zty G a.2.2.2.2 ∧ Zfr G ([(128, 0)] : List (Nat × Nat)) q24 a.2.2.2.2 ∧ 0 ≤ a.2.2.2.1.toInt ∧ a.2.2.2.1.toInt ≤ 9999) (fun a => (9999 - a.2.2.2.1.toInt).toNat) (fun b : (Nat × Int32 × Int32 × Zc) => a0 = b.1 ∧ a1 = b.2.1 ∧ v28 = b.2.2.1 ∧ Zwt zty G b.2.2.2 ∧ Zfr G ([(128, 0)] : List (Nat × Nat)) q24 b.2.2.2) ?_ ?_ ?_
        · rintro ⟨x0_387, x1_387, x2_387, x3_387, c_387⟩ hI
          try dsimp only at hI ⊢
          obtain ⟨rfl, rfl, rfl, WLc_387, FLc_387, j388, j389⟩ := hI
          have e390 := (Zfr.gr FLc_387 t_a0 (by decide)).trans e142
          have e391 := (Zfr.gr FLc_387 t_a0 (by decide)).trans e143
          have e392 := (Zfr.ai FLc_387 tkr0 (by decide)).trans e144
          have e393 := (Zfr.ai FLc_387 tkz0 (by decide)).trans e145
          have e394 := (Zfr.gi FLc_387 t_a0 (by decide)).trans e146
          have e395 := (Zfr.gr FLc_387 t_a0 (by decide)).trans e147
          have e396 := (Zfr.ai FLc_387 tv16 (by decide)).trans e148
          have e397 := (Zfr.ai FLc_387 tv26 (by decide)).trans ev28
          have k398 := GtM_fr k149 FLc_387 t_a0 Wq24 (by decide)
          have k399 := WkS_fr k150 FLc_387 t_a0 Wq24 (by decide)
          have k400 := TxM_fr k151 FLc_387 t_a0 Wq24 (by decide)
          have k401 := WkM_fr k152 FLc_387 t_a0 Wq24 (by decide)
          unfold g_Mo_answered_133
          refine wi (fun hq402 => ?_) (fun hq402 => ?_)
          · have hq402 := i_le hq402
            exact lInr ⟨rfl, rfl, rfl, WLc_387, FLc_387⟩
          · have hq402 := i_nle hq402
            unfold f_Mo_answered_141
            have L403 : ∃ b, zlp (fun a : Nat × Int32 × Int32 × Int32 × Int32 × Zc => g_Mo_answered_141 nf a.1 a.2.1 a.2.2.1 a.2.2.2.1 a.2.2.2.2.1 a.2.2.2.2.2) nf (a0, a1, v28, x3_387, 0, c_387) = some b ∧ (fun b : (Nat × Int32 × Int32 × Int32 × Zc) => a0 = b.1 ∧ a1 = b.2.1 ∧ v28 = b.2.2.1 ∧ x3_387 = b.2.2.2.1 ∧ Zwt zty G b.2.2.2.2 ∧ Zfr G ([(128, 0)] : List (Nat × Nat)) c_387 b.2.2.2.2) b := by
              refine wlp (fun a : Nat × Int32 × Int32 × Int32 × Int32 × Zc => a0 = a.1 ∧ a1 = a.2.1 ∧ v28 = a.2.2.1 ∧ x3_387 = a.2.2.2.1 ∧ Zwt zty G a.2.2.2.2.2 ∧ Zfr G ([(128, 0)] : List (Nat × Nat)) c_387 a.2.2.2.2.2 ∧ 0 ≤ a.2.2.2.2.1.toInt ∧ a.2.2.2.2.1.toInt ≤ 8) (fun a => (8 - a.2.2.2.2.1.toInt).toNat) (fun b : (Nat × Int32 × Int32 × Int32 × Zc) => a0 = b.1 ∧ a1 = b.2.1 ∧ v28 = b.2.2.1 ∧ x3_387 = b.2.2.2.1 ∧ Zwt zty G b.2.2.2.2 ∧ Zfr G ([(128, 0)] : List (Nat × Nat)) c_387 b.2.2.2.2) ?_ ?_ ?_
              · rintro ⟨x0_404, x1_404, x2_404, x3_404, x4_404, c_404⟩ hI
                try dsimp only at hI ⊢
                obtain ⟨rfl, rfl, rfl, rfl, WLc_404, FLc_404, j405, j406⟩ := hI
                have e407 := (Zfr.gr FLc_404 t_a0 (by decide)).trans e390
                have e408 := (Zfr.gr FLc_404 t_a0 (by decide)).trans e391
                have e409 := (Zfr.ai FLc_404 tkr0 (by decide)).trans e392
                have e410 := (Zfr.ai FLc_404 tkz0 (by decide)).trans e393
                have e411 := (Zfr.gi FLc_404 t_a0 (by decide)).trans e394
                have e412 := (Zfr.gr FLc_404 t_a0 (by decide)).trans e395
                have e413 := (Zfr.ai FLc_404 tv16 (by decide)).trans e396
                have e414 := (Zfr.ai FLc_404 tv26 (by decide)).trans e397
                have k415 := GtM_fr k398 FLc_404 t_a0 WLc_387 (by decide)
                have k416 := WkS_fr k399 FLc_404 t_a0 WLc_387 (by decide)
                have k417 := TxM_fr k400 FLc_404 t_a0 WLc_387 (by decide)
                have k418 := WkM_fr k401 FLc_404 t_a0 WLc_387 (by decide)
                unfold g_Mo_answered_141
                refine wb e412 ?_
                refine wb e411 ?_
                refine wb e413 ?_
                refine wi (fun hq419 => ?_) (fun hq419 => ?_)
                · have hq419 := i_le hq419
                  exact lInr ⟨rfl, rfl, rfl, rfl, WLc_404, FLc_404⟩
                · have hq419 := i_nle hq419
                  obtain ⟨v35, ev35, tv35⟩ := gf_64_82 WLc_404 t_a0
                  refine wb ev35 ?_
                  obtain ⟨v36, ev36, tv36⟩ := gf_64_78 WLc_404 t_a0
                  refine wb ev36 ?_
                  obtain ⟨v37, ev37, tv37⟩ := gf_64_79 WLc_404 t_a0
                  refine wb ev37 ?_
                  obtain ⟨v38, ev38, lv38, uv38⟩ := ga_126 WLc_404 tv37 (i := x3_387) (by omega) (by omega)
                  refine wb ev38 ?_
                  have := li_8
                  have := i_mull (a := 8) (b := v38) (n := 8) li_8 (by omega) (by omega)
                  have := i_add (a := (8 * v38)) (b := x4_404) (by omega) (by omega)
                  obtain ⟨v39, ev39, _⟩ := ga_125 WLc_404 tv36 (i := ((8 * v38) + x4_404)) (by omega) (by omega)
                  refine wb ev39 ?_
                  have := li_160000
                  have := i_mull (a := 160000) (b := a1) (n := 160000) li_160000 (by omega) (by omega)
                  have := i_mull (a := 8) (b := x3_387) (n := 8) li_8 (by omega) (by omega)
                  have := i_add (a := (160000 * a1)) (b := (8 * x3_387)) (by omega) (by omega)
                  have := i_add (a := ((160000 * a1) + (8 * x3_387))) (b := x4_404) (by omega) (by omega)
                  obtain ⟨c40, ec40, Wc40, fc40, gc40⟩ := pa_128 WLc_404 tv35 (i := (((160000 * a1) + (8 * x3_387)) + x4_404)) (by omega) (by omega) (x := v39) (trivial)
                  refine wb ec40 ?_
                  have e420 := (Zfr.gr fc40 t_a0 (by decide)).trans e407
                  have e421 := (Zfr.gr fc40 t_a0 (by decide)).trans e408
                  have e422 := (Zfr.ai fc40 tkr0 (by decide)).trans e409
                  have e423 := (Zfr.ai fc40 tkz0 (by decide)).trans e410
                  have e424 := (Zfr.gi fc40 t_a0 (by decide)).trans e411
                  have e425 := (Zfr.ai fc40 tv16 (by decide)).trans e413
                  have e426 := (Zfr.ai fc40 tv26 (by decide)).trans e414
                  have e427 := (Zfr.ai fc40 tv37 (by decide)).trans ev38
                  have e428 := (Zfr.ai fc40 tv36 (by decide)).trans ev39
                  have k429 := GtM_fr k415 fc40 t_a0 WLc_404 (by decide)
                  have k430 := WkS_fr k416 fc40 t_a0 WLc_404 (by decide)
                  have k431 := TxM_fr k417 fc40 t_a0 WLc_404 (by decide)
                  have k432 := WkM_fr k418 fc40 t_a0 WLc_404 (by decide)
                  have F433 := Zfr.tr FLc_404 fc40 (by decide)
                  have := li_1
                  have := i_add (a := x4_404) (b := 1) (by omega) (by omega)
                  exact lInl ⟨rfl, rfl, rfl, rfl, Wc40, F433, by (try dsimp only); omega, by (try dsimp only); omega⟩ (by (try dsimp only); omega)
              · exact ⟨rfl, rfl, rfl, rfl, WLc_387, Zfr.rf, by (try dsimp only); omega, by (try dsimp only); omega⟩
              · (try dsimp only); omega
            obtain ⟨b, eb, hb⟩ := L403
            refine wb eb ?_
            clear eb
            obtain ⟨z0_434, z1_434, z2_434, z3_434, c_434⟩ := b
            try dsimp only at hb ⊢
            obtain ⟨rfl, rfl, rfl, rfl, WXc_434, FXc_434⟩ := hb
            have e435 := (Zfr.gr FXc_434 t_a0 (by decide)).trans e390
            have e436 := (Zfr.gr FXc_434 t_a0 (by decide)).trans e391
            have e437 := (Zfr.ai FXc_434 tkr0 (by decide)).trans e392
            have e438 := (Zfr.ai FXc_434 tkz0 (by decide)).trans e393
            have e439 := (Zfr.gi FXc_434 t_a0 (by decide)).trans e394
            have e440 := (Zfr.ai FXc_434 tv16 (by decide)).trans e396
            have e441 := (Zfr.ai FXc_434 tv26 (by decide)).trans e397
            have k442 := GtM_fr k398 FXc_434 t_a0 WLc_387 (by decide)
            have k443 := WkS_fr k399 FXc_434 t_a0 WLc_387 (by decide)
            have k444 := TxM_fr k400 FXc_434 t_a0 WLc_387 (by decide)
            have k445 := WkM_fr k401 FXc_434 t_a0 WLc_387 (by decide)
            have F446 := Zfr.tr FLc_387 FXc_434 (by decide)
            have := li_1
            have := i_add (a := x3_387) (b := 1) (by omega) (by omega)
            exact lInl ⟨rfl, rfl, rfl, WXc_434, F446, by (try dsimp only); omega, by (try dsimp only); omega⟩ (by (try dsimp only); omega)
        · exact ⟨rfl, rfl, rfl, Wq24, Zfr.rf, by (try dsimp only); omega, by (try dsimp only); omega⟩
        · (try dsimp only); omega
      obtain ⟨b, eb, hb⟩ := L386
      refine wb eb ?_
      clear eb
      obtain ⟨z0_447, z1_447, z2_447, c_447⟩ := b
      try dsimp only at hb ⊢
      obtain ⟨rfl, rfl, rfl, WXc_447, FXc_447⟩ := hb
      have e448 := (Zfr.gr FXc_447 t_a0 (by decide)).trans e142
      have e449 := (Zfr.gr FXc_447 t_a0 (by decide)).trans e143
      have e450 := (Zfr.ai FXc_447 tkr0 (by decide)).trans e144
      have e451 := (Zfr.ai FXc_447 tkz0 (by decide)).trans e145
      have e452 := (Zfr.gi FXc_447 t_a0 (by decide)).trans e146
      have e453 := (Zfr.gr FXc_447 t_a0 (by decide)).trans e147
      have e454 := (Zfr.ai FXc_447 tv16 (by decide)).trans e148
      have e455 := (Zfr.ai FXc_447 tv26 (by decide)).trans ev28
      have k456 := GtM_fr k149 FXc_447 t_a0 Wq24 (by decide)
      have k457 := WkS_fr k150 FXc_447 t_a0 Wq24 (by decide)
      have k458 := TxM_fr k151 FXc_447 t_a0 Wq24 (by decide)
      have k459 := WkM_fr k152 FXc_447 t_a0 Wq24 (by decide)
      have F460 := Zfr.tr F153 FXc_447 (by decide)
      obtain ⟨v41, ev41, tv41⟩ := gf_64_83 WXc_447 t_a0
      refine wb ev41 ?_
      obtain ⟨c42, ec42, Wc42, fc42, gc42⟩ := pa_129 WXc_447 tv41 (i := a1) (by omega) (by omega) (x := v28) (rgi (by omega) (by omega))
      refine wb ec42 ?_
      have e461 := (Zfr.gr fc42 t_a0 (by decide)).trans e448
      have e462 := (Zfr.gr fc42 t_a0 (by decide)).trans e449
      have e463 := (Zfr.ai fc42 tkr0 (by decide)).trans e450
      have e464 := (Zfr.ai fc42 tkz0 (by decide)).trans e451
      have e465 := (Zfr.gi fc42 t_a0 (by decide)).trans e452
      have e466 := (Zfr.gr fc42 t_a0 (by decide)).trans e453
      have e467 := (Zfr.ai fc42 tv16 (by decide)).trans e454
      have e468 := (Zfr.ai fc42 tv26 (by decide)).trans e455
      have k469 := GtM_fr k456 fc42 t_a0 WXc_447 (by decide)
      have k470 := WkS_fr k457 fc42 t_a0 WXc_447 (by decide)
      have k471 := TxM_fr k458 fc42 t_a0 WXc_447 (by decide)
      have k472 := WkM_fr k459 fc42 t_a0 WXc_447 (by decide)
      have F473 := Zfr.tr F460 fc42 (by decide)
      obtain ⟨v43, ev43, tv43⟩ := gf_64_84 Wc42 t_a0
      refine wb ev43 ?_
      refine wb e466 ?_
      refine wb e465 ?_
      refine wb e467 ?_
      obtain ⟨c47, ec47, Wc47, fc47, gc47⟩ := pa_130 Wc42 tv43 (i := a1) (by omega) (by omega) (x := v18) (rgi (by omega) (by omega))
      refine wb ec47 ?_
      have e474 := (Zfr.gr fc47 t_a0 (by decide)).trans e461
      have e475 := (Zfr.gr fc47 t_a0 (by decide)).trans e462
      have e476 := (Zfr.ai fc47 tkr0 (by decide)).trans e463
      have e477 := (Zfr.ai fc47 tkz0 (by decide)).trans e464
      have e478 := (Zfr.gi fc47 t_a0 (by decide)).trans e465
      have e479 := (Zfr.ai fc47 tv16 (by decide)).trans e467
      have e480 := (Zfr.ai fc47 tv26 (by decide)).trans e468
      have e481 := (Zfr.ai fc47 tv41 (by decide)).trans gc42
      have k482 := GtM_fr k469 fc47 t_a0 Wc42 (by decide)
      have k483 := WkS_fr k470 fc47 t_a0 Wc42 (by decide)
      have k484 := TxM_fr k471 fc47 t_a0 Wc42 (by decide)
      have k485 := WkM_fr k472 fc47 t_a0 Wc42 (by decide)
      have F486 := Zfr.tr F473 fc47 (by decide)
      obtain ⟨v48, ev48, tv48⟩ := gf_64_85 Wc47 t_a0
      refine wb ev48 ?_
      have := nb_1
      obtain ⟨c49, ec49, Wc49, fc49, gc49⟩ := pa_131 Wc47 tv48 (i := a1) (by omega) (by omega) (x := (vp_nar .boolean 1)) (rgi (by omega) (by omega))
      refine wb ec49 ?_
      have e487 := (Zfr.gr fc49 t_a0 (by decide)).trans e474
      have e488 := (Zfr.gr fc49 t_a0 (by decide)).trans e475
      have e489 := (Zfr.ai fc49 tkr0 (by decide)).trans e476
      have e490 := (Zfr.ai fc49 tkz0 (by decide)).trans e477
      have e491 := (Zfr.gi fc49 t_a0 (by decide)).trans e478
      have e492 := (Zfr.ai fc49 tv16 (by decide)).trans e479
      have e493 := (Zfr.ai fc49 tv26 (by decide)).trans e480
      have e494 := (Zfr.ai fc49 tv41 (by decide)).trans e481
      have e495 := (Zfr.ai fc49 tv43 (by decide)).trans gc47
      have k496 := GtM_fr k482 fc49 t_a0 Wc47 (by decide)
      have k497 := WkS_fr k483 fc49 t_a0 Wc47 (by decide)
      have k498 := TxM_fr k484 fc49 t_a0 Wc47 (by decide)
      have k499 := WkM_fr k485 fc49 t_a0 Wc47 (by decide)
      have F500 := Zfr.tr F486 fc49 (by decide)
      exact ⟨_, rfl, Wc49, F500⟩

abbrev M_Mo_leads : List (Nat × Nat) := [(64, 10), (64, 11), (64, 25), (72, 0), (117, 0), (118, 0), (119, 0), (120, 0), (121, 0), (122, 0), (123, 0), (124, 0)]
set_option maxRecDepth 100000 in
set_option maxHeartbeats 400000 in
theorem p_Mo_leads {nf : Nat} (hn : 8589934592 ≤ nf) {G : List Nat} {c : Zc} (W : Zwt zty G c) {a0 : Nat} {a1 : Int32} {a2 : Int32} {a3 : Int32}  (t_a0 : G[a0]? = some 64) (hb_Zgt : Zgt G c a0) : ∃ q, f_Mo_leads nf a0 a1 a2 a3 c = some q ∧ Zwt zty G q.2 ∧ Zfr G M_Mo_leads c q.2 := by
  have F0 : Zfr G M_Mo_leads c c := Zfr.rf
  unfold f_Mo_leads
  have k0Zgt0 := hb_Zgt
  obtain ⟨v1, ev1, lv1, uv1⟩ := gf_64_0 W t_a0
  refine wb ev1 ?_
  obtain ⟨q2, eq2, Wq2, fq2, po0q2, po1q2, pl2q2, pu2q2⟩ := p_Mo_isIn hn W (a0 := a1) (a1 := v1) 
  refine wb eq2 ?_
  have e1 := (Zfr.gi fq2 t_a0 (by decide)).trans ev1
  have k2 := GtM_fr k0Zgt0 fq2 t_a0 W (by decide)
  have F3 := Zfr.tr F0 fq2 (by decide)
  refine wi (fun hq4 => ?_) (fun hq4 => ?_)
  · have := li_0
    have hq4 := i_eq hq4
    unfold f_Mo_leads_31
    have := li_m1
    exact ⟨_, rfl, Wq2, F3⟩
  · have := li_0
    have hq4 := i_ne hq4
    refine wb e1 ?_
    obtain ⟨q5, eq5, Wq5, fq5, po0q5, po1q5, pl2q5, pu2q5⟩ := p_Mo_isIn hn Wq2 (a0 := a2) (a1 := v1) 
    refine wb eq5 ?_
    have k5 := GtM_fr k2 fq5 t_a0 Wq2 (by decide)
    have F6 := Zfr.tr F3 fq5 (by decide)
    refine wi (fun hq7 => ?_) (fun hq7 => ?_)
    · have hq7 := i_eq hq7
      unfold f_Mo_leads_31
      have := li_m1
      exact ⟨_, rfl, Wq5, F6⟩
    · have hq7 := i_ne hq7
      have := li_12
      obtain ⟨q7, eq7, Wq7, fq7, po0q7, po1q7, pl2q7, pu2q7⟩ := p_Mo_isIn hn Wq5 (a0 := a3) (a1 := 12) 
      refine wb eq7 ?_
      have k8 := GtM_fr k5 fq7 t_a0 Wq5 (by decide)
      have F9 := Zfr.tr F6 fq7 (by decide)
      refine wi (fun hq10 => ?_) (fun hq10 => ?_)
      · have hq10 := i_eq hq10
        unfold f_Mo_leads_31
        have := li_m1
        exact ⟨_, rfl, Wq7, F9⟩
      · have hq10 := i_ne hq10
        obtain ⟨w10, ew10⟩ := go_64 Wq7 t_a0
        refine wb ew10 ?_
        obtain ⟨q9, eq9, Wq9, fq9⟩ := p_Mo_workRules hn Wq7  t_a0 k8
        refine wb eq9 ?_
        have k11 := GtM_fr k8 fq9 t_a0 Wq7 (by decide)
        have F12 := Zfr.tr F9 fq9 (by decide)
        refine wi (fun hq13 => ?_) (fun hq13 => ?_)
        · have := li_8
          have hq13 := i_lt hq13
          unfold f_Mo_leads_53
          obtain ⟨v12, ev12, tv12⟩ := gf_64_9 Wq9 t_a0
          refine wb ev12 ?_
          have := li_256
          have := i_mull (a := 256) (b := a3) (n := 256) li_256 (by omega) (by omega)
          have := li_16
          have := i_mull (a := 16) (b := a1) (n := 16) li_16 (by omega) (by omega)
          have := i_add (a := (256 * a3)) (b := (16 * a1)) (by omega) (by omega)
          have := i_add (a := ((256 * a3) + (16 * a1))) (b := a2) (by omega) (by omega)
          obtain ⟨v13, ev13, _⟩ := ga_72 Wq9 tv12 (i := (((256 * a3) + (16 * a1)) + a2)) (by omega) (by omega)
          refine wb ev13 ?_
          exact ⟨_, rfl, Wq9, F12⟩
        · have := li_8
          have hq13 := i_nlt hq13
          obtain ⟨v14, ev14, lv14, uv14⟩ := gf_64_11 Wq9 t_a0
          refine wb ev14 ?_
          refine wi (fun hq14 => ?_) (fun hq14 => ?_)
          · have hq14 := i_eq hq14
            unfold f_Mo_leads_53
            obtain ⟨v12, ev12, tv12⟩ := gf_64_9 Wq9 t_a0
            refine wb ev12 ?_
            have := li_256
            have := i_mull (a := 256) (b := a3) (n := 256) li_256 (by omega) (by omega)
            have := li_16
            have := i_mull (a := 16) (b := a1) (n := 16) li_16 (by omega) (by omega)
            have := i_add (a := (256 * a3)) (b := (16 * a1)) (by omega) (by omega)
            have := i_add (a := ((256 * a3) + (16 * a1))) (b := a2) (by omega) (by omega)
            obtain ⟨v13, ev13, _⟩ := ga_72 Wq9 tv12 (i := (((256 * a3) + (16 * a1)) + a2)) (by omega) (by omega)
            refine wb ev13 ?_
            exact ⟨_, rfl, Wq9, F12⟩
          · have hq14 := i_ne hq14
            have := li_m4
            exact ⟨_, rfl, Wq9, F12⟩

abbrev M_Mo_pairs : List (Nat × Nat) := [(64, 10), (64, 11), (64, 25), (72, 0), (117, 0), (118, 0), (119, 0), (120, 0), (121, 0), (122, 0), (123, 0), (124, 0)]
set_option maxRecDepth 100000 in
set_option maxHeartbeats 400000 in
theorem p_Mo_pairs {nf : Nat} (hn : 8589934592 ≤ nf) {G : List Nat} {c : Zc} (W : Zwt zty G c) {a0 : Nat} {a1 : Int32}  (t_a0 : G[a0]? = some 64) (hb_Zgt : Zgt G c a0) : ∃ q, f_Mo_pairs nf a0 a1 c = some q ∧ Zwt zty G q.2 ∧ Zfr G M_Mo_pairs c q.2 := by
  have F0 : Zfr G M_Mo_pairs c c := Zfr.rf
  unfold f_Mo_pairs
  have k0Zgt0 := hb_Zgt
  have := li_4
  obtain ⟨q1, eq1, Wq1, fq1, po0q1, po1q1, pl2q1, pu2q1⟩ := p_Mo_isIn hn W (a0 := a1) (a1 := 4) 
  refine wb eq1 ?_
  have k1 := GtM_fr k0Zgt0 fq1 t_a0 W (by decide)
  have F2 := Zfr.tr F0 fq1 (by decide)
  refine wi (fun hq3 => ?_) (fun hq3 => ?_)
  · have := li_0
    have hq3 := i_eq hq3
    have := li_m1
    exact ⟨_, rfl, Wq1, F2⟩
  · have := li_0
    have hq3 := i_ne hq3
    obtain ⟨v3, ev3, tv3⟩ := gf_64_23 Wq1 t_a0
    refine wb ev3 ?_
    have := i_add (a := 4) (b := a1) (by omega) (by omega)
    obtain ⟨v4, ev4, lv4, uv4⟩ := ga_78 Wq1 tv3 (i := (4 + a1)) (by omega) (by omega)
    refine wb ev4 ?_
    refine wi (fun hq4 => ?_) (fun hq4 => ?_)
    · have hq4 := i_eq hq4
      have := li_m2
      exact ⟨_, rfl, Wq1, F2⟩
    · have hq4 := i_ne hq4
      obtain ⟨w7, ew7⟩ := go_64 Wq1 t_a0
      refine wb ew7 ?_
      obtain ⟨q6, eq6, Wq6, fq6⟩ := p_Mo_workRules hn Wq1  t_a0 k1
      refine wb eq6 ?_
      have e5 := (Zfr.ai fq6 tv3 (by decide)).trans ev4
      have k6 := GtM_fr k1 fq6 t_a0 Wq1 (by decide)
      have F7 := Zfr.tr F2 fq6 (by decide)
      obtain ⟨v8, ev8, lv8, uv8⟩ := gf_64_11 Wq6 t_a0
      refine wb ev8 ?_
      refine wi (fun hq8 => ?_) (fun hq8 => ?_)
      · have hq8 := i_eq hq8
        unfold f_Mo_pairs_42
        have L9 : ∃ b, zlp (fun a : Nat × Int32 × Int32 × Int32 × Zc => g_Mo_pairs_42 nf a.1 a.2.1 a.2.2.1 a.2.2.2.1 a.2.2.2.2) nf (a0, a1, 0, 0, q6) = some b ∧ (fun b : (Int32 × Zc) => Zwt zty G b.2 ∧ Zfr G ([] : List (Nat × Nat)) q6 b.2) b := by
          refine wlp (fun a : Nat × Int32 × Int32 × Int32 × Zc => a0 = a.1 ∧ a1 = a.2.1 ∧ Zwt zty G a.2.2.2.2 ∧ Zfr G ([] : List (Nat × Nat)) q6 a.2.2.2.2 ∧ 0 ≤ a.2.2.2.1.toInt ∧ a.2.2.2.1.toInt ≤ 256) (fun a => (256 - a.2.2.2.1.toInt).toNat) (fun b : (Int32 × Zc) => Zwt zty G b.2 ∧ Zfr G ([] : List (Nat × Nat)) q6 b.2) ?_ ?_ ?_
          · rintro ⟨x0_10, x1_10, x2_10, x3_10, c_10⟩ hI
            try dsimp only at hI ⊢
            obtain ⟨rfl, rfl, WLc_10, FLc_10, j11, j12⟩ := hI
            have e13 := (Zfr.ai FLc_10 tv3 (by decide)).trans e5
            have k14 := GtM_fr k6 FLc_10 t_a0 Wq6 (by decide)
            unfold g_Mo_pairs_42
            refine wi (fun hq15 => ?_) (fun hq15 => ?_)
            · have := li_256
              have hq15 := i_le hq15
              exact lInr ⟨WLc_10, FLc_10⟩
            · have := li_256
              have hq15 := i_nle hq15
              obtain ⟨v11, ev11, tv11⟩ := gf_64_9 WLc_10 t_a0
              refine wb ev11 ?_
              have := li_8
              have := i_add (a := 8) (b := a1) (by omega) (by omega)
              have := i_mull (a := 256) (b := (8 + a1)) (n := 256) li_256 (by omega) (by omega)
              have := i_add (a := (256 * (8 + a1))) (b := x3_10) (by omega) (by omega)
              obtain ⟨v12, ev12, _⟩ := ga_72 WLc_10 tv11 (i := ((256 * (8 + a1)) + x3_10)) (by omega) (by omega)
              refine wb ev12 ?_
              have := li_1
              have := i_add (a := x3_10) (b := 1) (by omega) (by omega)
              exact lInl ⟨rfl, rfl, WLc_10, FLc_10, by (try dsimp only); omega, by (try dsimp only); omega⟩ (by (try dsimp only); omega)
          · exact ⟨rfl, rfl, Wq6, Zfr.rf, by (try dsimp only); omega, by (try dsimp only); omega⟩
          · (try dsimp only); omega
        obtain ⟨b, eb, hb⟩ := L9
        refine wb eb ?_
        clear eb
        obtain ⟨z0_16, c_16⟩ := b
        try dsimp only at hb ⊢
        obtain ⟨WXc_16, FXc_16⟩ := hb
        have k17 := GtM_fr k6 FXc_16 t_a0 Wq6 (by decide)
        have F18 := Zfr.tr F7 FXc_16 (by decide)
        exact ⟨_, rfl, WXc_16, F18⟩
      · have hq8 := i_ne hq8
        have := li_m4
        exact ⟨_, rfl, Wq6, F7⟩

abbrev M_Mo_least : List (Nat × Nat) := [(64, 10), (64, 11), (64, 25), (72, 0), (117, 0), (118, 0), (119, 0), (120, 0), (121, 0), (122, 0), (123, 0), (124, 0)]
set_option maxRecDepth 100000 in
set_option maxHeartbeats 400000 in
theorem p_Mo_least {nf : Nat} (hn : 8589934592 ≤ nf) {G : List Nat} {c : Zc} (W : Zwt zty G c) {a0 : Nat} {a1 : Int32} {a2 : Int32} {a3 : Int32}  (t_a0 : G[a0]? = some 64) (hb_Zgt : Zgt G c a0) : ∃ q, f_Mo_least nf a0 a1 a2 a3 c = some q ∧ Zwt zty G q.2 ∧ Zfr G M_Mo_least c q.2 := by
  have F0 : Zfr G M_Mo_least c c := Zfr.rf
  unfold f_Mo_least
  have k0Zgt0 := hb_Zgt
  have := li_4
  obtain ⟨q1, eq1, Wq1, fq1, po0q1, po1q1, pl2q1, pu2q1⟩ := p_Mo_isIn hn W (a0 := a1) (a1 := 4) 
  refine wb eq1 ?_
  have k1 := GtM_fr k0Zgt0 fq1 t_a0 W (by decide)
  have F2 := Zfr.tr F0 fq1 (by decide)
  refine wi (fun hq3 => ?_) (fun hq3 => ?_)
  · have := li_0
    have hq3 := i_eq hq3
    unfold f_Mo_least_30
    have := li_m1
    exact ⟨_, rfl, Wq1, F2⟩
  · have := li_0
    have hq3 := i_ne hq3
    obtain ⟨v3, ev3, lv3, uv3⟩ := gf_64_0 Wq1 t_a0
    refine wb ev3 ?_
    obtain ⟨q4, eq4, Wq4, fq4, po0q4, po1q4, pl2q4, pu2q4⟩ := p_Mo_isIn hn Wq1 (a0 := a2) (a1 := v3) 
    refine wb eq4 ?_
    have e4 := (Zfr.gi fq4 t_a0 (by decide)).trans ev3
    have k5 := GtM_fr k1 fq4 t_a0 Wq1 (by decide)
    have F6 := Zfr.tr F2 fq4 (by decide)
    refine wi (fun hq7 => ?_) (fun hq7 => ?_)
    · have hq7 := i_eq hq7
      unfold f_Mo_least_30
      have := li_m1
      exact ⟨_, rfl, Wq4, F6⟩
    · have hq7 := i_ne hq7
      refine wb e4 ?_
      obtain ⟨q7, eq7, Wq7, fq7, po0q7, po1q7, pl2q7, pu2q7⟩ := p_Mo_isIn hn Wq4 (a0 := a3) (a1 := v3) 
      refine wb eq7 ?_
      have k8 := GtM_fr k5 fq7 t_a0 Wq4 (by decide)
      have F9 := Zfr.tr F6 fq7 (by decide)
      refine wi (fun hq10 => ?_) (fun hq10 => ?_)
      · have hq10 := i_eq hq10
        unfold f_Mo_least_30
        have := li_m1
        exact ⟨_, rfl, Wq7, F9⟩
      · have hq10 := i_ne hq10
        obtain ⟨v9, ev9, tv9⟩ := gf_64_23 Wq7 t_a0
        refine wb ev9 ?_
        obtain ⟨v10, ev10, lv10, uv10⟩ := ga_78 Wq7 tv9 (i := a1) (by omega) (by omega)
        refine wb ev10 ?_
        refine wi (fun hq11 => ?_) (fun hq11 => ?_)
        · have hq11 := i_eq hq11
          unfold f_Mo_least_55
          have := li_m2
          exact ⟨_, rfl, Wq7, F9⟩
        · have hq11 := i_ne hq11
          obtain ⟨v12, ev12, tv12⟩ := gf_64_31 Wq7 t_a0
          refine wb ev12 ?_
          obtain ⟨v13, ev13, tv13⟩ := gf_64_22 Wq7 t_a0
          refine wb ev13 ?_
          obtain ⟨v14, ev14, lv14, uv14⟩ := ga_77 Wq7 tv13 (i := a1) (by omega) (by omega)
          refine wb ev14 ?_
          obtain ⟨v15, ev15, lv15, uv15⟩ := ga_84 Wq7 tv12 (i := v14) (by omega) (by omega)
          refine wb ev15 ?_
          refine wi (fun hq12 => ?_) (fun hq12 => ?_)
          · have hq12 := i_eq hq12
            unfold f_Mo_least_55
            have := li_m2
            exact ⟨_, rfl, Wq7, F9⟩
          · have hq12 := i_ne hq12
            obtain ⟨w18, ew18⟩ := go_64 Wq7 t_a0
            refine wb ew18 ?_
            obtain ⟨q17, eq17, Wq17, fq17⟩ := p_Mo_workRules hn Wq7  t_a0 k8
            refine wb eq17 ?_
            have e13 := (Zfr.ai fq17 tv9 (by decide)).trans ev10
            have e14 := (Zfr.gr fq17 t_a0 (by decide)).trans ev13
            have e15 := (Zfr.ai fq17 tv13 (by decide)).trans ev14
            have e16 := (Zfr.ai fq17 tv12 (by decide)).trans ev15
            have k17 := GtM_fr k8 fq17 t_a0 Wq7 (by decide)
            have F18 := Zfr.tr F9 fq17 (by decide)
            obtain ⟨v19, ev19, lv19, uv19⟩ := gf_64_11 Wq17 t_a0
            refine wb ev19 ?_
            refine wi (fun hq19 => ?_) (fun hq19 => ?_)
            · have hq19 := i_eq hq19
              refine wb e14 ?_
              refine wb e15 ?_
              obtain ⟨c23, ec23, Wc23, fc23, gc23⟩ := pf_64_25 Wq17 t_a0 (x := v14) (rgi (by omega) (by omega))
              refine wb ec23 ?_
              have e20 := (Zfr.ai fc23 tv9 (by decide)).trans e13
              have e21 := (Zfr.ai fc23 tv13 (by decide)).trans e15
              have e22 := (Zfr.ai fc23 tv12 (by decide)).trans e16
              have k23 := GtM_fr k17 fc23 t_a0 Wq17 (by decide)
              have F24 := Zfr.tr F18 fc23 (by decide)
              refine wb gc23 ?_
              obtain ⟨v25, ev25, tv25⟩ := gf_64_89 Wc23 t_a0
              refine wb ev25 ?_
              have := li_11
              have := i_mull (a := 11) (b := v14) (n := 11) li_11 (by omega) (by omega)
              obtain ⟨v26, ev26, lv26, uv26⟩ := ga_134 Wc23 tv25 (i := (11 * v14)) (by omega) (by omega)
              refine wb ev26 ?_
              refine wi (fun hq25 => ?_) (fun hq25 => ?_)
              · have hq25 := i_eq hq25
                unfold f_Mo_least_113
                obtain ⟨w29, ew29⟩ := go_64 Wc23 t_a0
                refine wb ew29 ?_
                obtain ⟨q28, eq28, Wq28, fq28⟩ := p_Mo_measure hn Wc23 (a1 := (11 * v14)) (a2 := a2) t_a0 (by omega) (by omega) (by omega) (by omega) (by omega)
                refine wb eq28 ?_
                have e26 := (Zfr.ai fq28 tv9 (by decide)).trans e20
                have e27 := (Zfr.ai fq28 tv13 (by decide)).trans e21
                have e28 := (Zfr.ai fq28 tv12 (by decide)).trans e22
                have e29 := (Zfr.ai fq28 tv25 (by decide)).trans ev26
                have k30 := GtM_fr k23 fq28 t_a0 Wc23 (by decide)
                have F31 := Zfr.tr F24 fq28 (by decide)
                obtain ⟨v30, ev30, tv30⟩ := gf_64_70 Wq28 t_a0
                refine wb ev30 ?_
                refine wi (fun hq32 => ?_) (fun hq32 => ?_)
                · have hq32 := i_eq hq32
                  unfold f_Mo_least_140
                  have := li_16
                  have := i_mull (a := 16) (b := a2) (n := 16) li_16 (by omega) (by omega)
                  have := i_add (a := (16 * a2)) (b := a3) (by omega) (by omega)
                  obtain ⟨v32, ev32, _⟩ := ga_117 Wq28 tv30 (i := ((16 * a2) + a3)) (by omega) (by omega)
                  refine wb ev32 ?_
                  refine wi (fun hq33 => ?_) (fun hq33 => ?_)
                  · have := i_ge v32
                    have := i_up v32
                    have hq33 := i_le hq33
                    unfold f_Mo_least_155
                    exact ⟨_, rfl, Wq28, F31⟩
                  · have := i_ge v32
                    have := i_up v32
                    have hq33 := i_nle hq33
                    unfold f_Mo_least_155
                    have := li_m2
                    exact ⟨_, rfl, Wq28, F31⟩
                · have hq32 := i_ne hq32
                  exfalso
                  omega
              · have hq25 := i_ne hq25
                unfold f_Mo_least_113
                obtain ⟨w29, ew29⟩ := go_64 Wc23 t_a0
                refine wb ew29 ?_
                obtain ⟨q28, eq28, Wq28, fq28⟩ := p_Mo_measure hn Wc23 (a1 := (11 * v14)) (a2 := a3) t_a0 (by omega) (by omega) (by omega) (by omega) (by omega)
                refine wb eq28 ?_
                have e34 := (Zfr.ai fq28 tv9 (by decide)).trans e20
                have e35 := (Zfr.ai fq28 tv13 (by decide)).trans e21
                have e36 := (Zfr.ai fq28 tv12 (by decide)).trans e22
                have e37 := (Zfr.ai fq28 tv25 (by decide)).trans ev26
                have k38 := GtM_fr k23 fq28 t_a0 Wc23 (by decide)
                have F39 := Zfr.tr F24 fq28 (by decide)
                obtain ⟨v30, ev30, tv30⟩ := gf_64_70 Wq28 t_a0
                refine wb ev30 ?_
                refine wi (fun hq40 => ?_) (fun hq40 => ?_)
                · have hq40 := i_eq hq40
                  exfalso
                  omega
                · have hq40 := i_ne hq40
                  unfold f_Mo_least_140
                  have := li_16
                  have := i_mull (a := 16) (b := a3) (n := 16) li_16 (by omega) (by omega)
                  have := i_add (a := (16 * a3)) (b := a2) (by omega) (by omega)
                  obtain ⟨v32, ev32, _⟩ := ga_117 Wq28 tv30 (i := ((16 * a3) + a2)) (by omega) (by omega)
                  refine wb ev32 ?_
                  refine wi (fun hq41 => ?_) (fun hq41 => ?_)
                  · have := i_ge v32
                    have := i_up v32
                    have hq41 := i_le hq41
                    unfold f_Mo_least_155
                    exact ⟨_, rfl, Wq28, F39⟩
                  · have := i_ge v32
                    have := i_up v32
                    have hq41 := i_nle hq41
                    unfold f_Mo_least_155
                    have := li_m2
                    exact ⟨_, rfl, Wq28, F39⟩
            · have hq19 := i_ne hq19
              have := li_m4
              exact ⟨_, rfl, Wq17, F18⟩

end ZzT
