section ZzT
abbrev M_Mo_way_257 : List (Nat × Nat) := [(64, 18), (64, 19), (64, 20), (64, 57), (79, 0), (82, 0), (83, 0), (85, 0), (86, 0), (87, 0), (105, 0), (106, 0), (134, 0)]
set_option maxRecDepth 100000 in
set_option maxHeartbeats 400000 in
theorem p_Mo_way_257 {nf : Nat} (hn : 8589934592 ≤ nf) {G : List Nat} {c : Zc} (W : Zwt zty G c) {x0 : Nat} {x1 : Int32} {x2 : Int32} {x4 : Int32} {ni : Int32} {bc : Int32} {n0 : Int32} {pv : Int32} {fv : Int32} {tv : Int32} {dv : Int32} (t_x0 : G[x0]? = some 64) (pl_pv : 0 ≤ pv.toInt) (pu_pv : pv.toInt ≤ 8) (pl_fv : 0 ≤ fv.toInt) (pu_fv : fv.toInt ≤ 6) (pl_tv : 0 ≤ tv.toInt) (pu_tv : tv.toInt ≤ 200) (pl_dv : 0 ≤ dv.toInt) (pu_dv : dv.toInt ≤ 11) (pl_x1 : 0 ≤ x1.toInt) (pu_x1 : x1.toInt ≤ 7) (pl_x2 : 0 ≤ x2.toInt) (pu_x2 : x2.toInt ≤ 1) (pl_x4 : 0 ≤ x4.toInt) (pu_x4 : x4.toInt ≤ 98) (eh_pv : zgi c x0 12 25 = some pv) (eh_fv : zgi c x0 12 19 = some fv) (eh_tv : zgi c x0 12 18 = some tv) (eh_dv : zgi c x0 12 53 = some dv) (pp_7 : x4.toInt = 11 * pv.toInt + n0.toInt) (hb_ZVm : ZVm G c x0 pv fv tv dv ni bc n0) : ∃ q, f_Mo_way_257 nf x0 x1 x2 x4 c = some q ∧ Zwt zty G q.2 ∧ Zfr G M_Mo_way_257 c q.2 ∧ ZVs G q.2 x0 pv fv tv dv ni bc q.1 := by
  have F0 : Zfr G M_Mo_way_257 c c := Zfr.rf
  unfold f_Mo_way_257
  obtain ⟨bks0, bkl0, bkw0, bna0, blb0, bnw0, bvn0, h0ZVm0, h1ZVm0, h2ZVm0, h3ZVm0, h4ZVm0, h5ZVm0, h6ZVm0, h7ZVm0, h8ZVm0, h9ZVm0, h10ZVm0, tks0, tkl0, tkw0, r0ZVm0, r1ZVm0, r2ZVm0, r3ZVm0, r4ZVm0, r5ZVm0, r6ZVm0, r7ZVm0, r8ZVm0, r9ZVm0, r10ZVm0, r11ZVm0, r12ZVm0, r13ZVm0, r14ZVm0, r15ZVm0, r16ZVm0, r17ZVm0, r18ZVm0, r19ZVm0, k0ZVm0, k1ZVm0, k2ZVm0, k3ZVm0, k4ZVm0⟩ := hb_ZVm
  obtain ⟨w34, ew34⟩ := go_64 W t_x0
  refine wb ew34 ?_
  have := li_93
  obtain ⟨q33, eq33, Wq33, fq33, pbZSq33⟩ := p_Mo_need hn W (a1 := 93) t_x0 (by omega) (by omega) (by omega) (by omega) h1ZVm0 h2ZVm0
  refine wb eq33 ?_
  have e3 := (Zfr.gi fq33 t_x0 (by decide)).trans h0ZVm0
  have e4 := (Zfr.gi fq33 t_x0 (by decide)).trans h3ZVm0
  have e5 := (Zfr.gr fq33 t_x0 (by decide)).trans h4ZVm0
  have e6 := (Zfr.gr fq33 t_x0 (by decide)).trans h5ZVm0
  have e7 := (Zfr.gr fq33 t_x0 (by decide)).trans h6ZVm0
  have e8 := (Zfr.ai fq33 tks0 (by decide)).trans h7ZVm0
  have e9 := (Zfr.ai fq33 tkl0 (by decide)).trans h8ZVm0
  have e10 := (Zfr.ai fq33 tkw0 (by decide)).trans h9ZVm0
  have e11 := (Zfr.gi fq33 t_x0 (by decide)).trans h10ZVm0
  have k12 := GtP_fr k0ZVm0 fq33 t_x0 W (by decide)
  have := li_1
  have sc14 : Sc c q33 x0 (1) (0) := by
    obtain ⟨yf2, yt2, z0y, z1y, x0y, x1y, x2y, x3y, x4y, x5y⟩ := pbZSq33
    exact Sc_mk h1ZVm0 z0y h2ZVm0 z1y h3ZVm0 ((Zfr.gi (ci := 12) fq33 t_x0 (by decide)).trans h3ZVm0) (by omega)
  have k13 := WyN_fr k1ZVm0 fq33 t_x0 W (by decide) sc14
  have k15 := TbI_fr k2ZVm0 fq33 t_x0 W (by decide) sc14
  have k16 := TbC_fr k3ZVm0 fq33 t_x0 W (by decide) sc14
  have k17 := TkN_fr k4ZVm0 fq33 t_x0 W (by decide)
  have F18 := Zfr.tr F0 fq33 (by decide)
  obtain ⟨bf2q33, bt2q33, h0ZSq33, h1ZSq33, r0ZSq33, r1ZSq33, r2ZSq33, r3ZSq33, r4ZSq33, r5ZSq33⟩ := pbZSq33
  refine wi (fun hq19 => ?_) (fun hq19 => ?_)
  · have := li_0
    have hq19 := i_eq hq19
    unfold f_Mo_way_276
    obtain ⟨w37, ew37⟩ := go_64 Wq33 t_x0
    refine wb ew37 ?_
    have := li_201
    obtain ⟨q36, eq36, Wq36, fq36, pbZSq36⟩ := p_Mo_need hn Wq33 (a1 := 201) t_x0 (by omega) (by omega) (by omega) (by omega) h0ZSq33 h1ZSq33
    refine wb eq36 ?_
    have e22 := (Zfr.gi fq36 t_x0 (by decide)).trans e3
    have e23 := (Zfr.gi fq36 t_x0 (by decide)).trans e4
    have e24 := (Zfr.gr fq36 t_x0 (by decide)).trans e5
    have e25 := (Zfr.gr fq36 t_x0 (by decide)).trans e6
    have e26 := (Zfr.gr fq36 t_x0 (by decide)).trans e7
    have e27 := (Zfr.ai fq36 tks0 (by decide)).trans e8
    have e28 := (Zfr.ai fq36 tkl0 (by decide)).trans e9
    have e29 := (Zfr.ai fq36 tkw0 (by decide)).trans e10
    have e30 := (Zfr.gi fq36 t_x0 (by decide)).trans e11
    have k31 := GtP_fr k12 fq36 t_x0 Wq33 (by decide)
    have sc33 : Sc q33 q36 x0 (1) (0) := by
      obtain ⟨yf2, yt2, z0y, z1y, x0y, x1y, x2y, x3y, x4y, x5y⟩ := pbZSq36
      exact Sc_mk h0ZSq33 z0y h1ZSq33 z1y e4 ((Zfr.gi (ci := 12) fq36 t_x0 (by decide)).trans e4) (by omega)
    have k32 := WyN_fr k13 fq36 t_x0 Wq33 (by decide) sc33
    have k34 := TbI_fr k15 fq36 t_x0 Wq33 (by decide) sc33
    have k35 := TbC_fr k16 fq36 t_x0 Wq33 (by decide) sc33
    have k36 := TkN_fr k17 fq36 t_x0 Wq33 (by decide)
    have F37 := Zfr.tr F18 fq36 (by decide)
    obtain ⟨bf2q36, bt2q36, h0ZSq36, h1ZSq36, r0ZSq36, r1ZSq36, r2ZSq36, r3ZSq36, r4ZSq36, r5ZSq36⟩ := pbZSq36
    refine wb h0ZSq36 ?_
    refine wi (fun hq38 => ?_) (fun hq38 => ?_)
    · have hq38 := i_eq hq38
      obtain ⟨w41, ew41⟩ := go_64 Wq36 t_x0
      refine wb ew41 ?_
      obtain ⟨q40, eq40, Wq40, fq40, pbZNnq40⟩ := p_Mo_nodeOf hn Wq36 (ni := ni) (bc := bc) (n1 := n0) t_x0 (by omega) (by omega) (by omega) (by omega) (by omega) (by omega) (by omega) (by omega) e22 h0ZSq36 h1ZSq36 e23 ⟨bks0, bkl0, bna0, blb0, bvn0, e22, h0ZSq36, h1ZSq36, e23, e24, e25, e27, e28, e30, tks0, tkl0, by (try dsimp only); omega, by (try dsimp only); omega, by (try dsimp only); omega, by (try dsimp only); omega, by (try dsimp only); omega, by (try dsimp only); omega, by (try dsimp only); omega, by (try dsimp only); omega, by (try dsimp only); omega, by (try dsimp only); omega, by (try dsimp only); omega, by (try dsimp only); omega, by (try dsimp only); omega, by (try dsimp only); omega, by (try dsimp only); omega, by (try dsimp only); omega, k31, k32, k34, k35, k36⟩
      refine wb eq40 ?_
      have e52 := (Zfr.gi fq40 t_x0 (by decide)).trans e22
      have e53 := (Zfr.gi fq40 t_x0 (by decide)).trans e23
      have e54 := (Zfr.gr fq40 t_x0 (by decide)).trans e24
      have e55 := (Zfr.gr fq40 t_x0 (by decide)).trans e25
      have e56 := (Zfr.gr fq40 t_x0 (by decide)).trans e26
      have e57 := (Zfr.ai fq40 tkl0 (by decide)).trans e28
      have e58 := (Zfr.ai fq40 tkw0 (by decide)).trans e29
      have F59 := Zfr.tr F37 fq40 (by decide)
      have := li_2
      obtain ⟨bf2q40, bt2q40, bd2q40, bksq40, bklq40, bnaq40, blbq40, bvnq40, h0ZNnq40, h1ZNnq40, h2ZNnq40, h3ZNnq40, h4ZNnq40, h5ZNnq40, h6ZNnq40, h7ZNnq40, h8ZNnq40, tksq40, tklq40, r0ZNnq40, r1ZNnq40, r2ZNnq40, r3ZNnq40, r4ZNnq40, r5ZNnq40, r6ZNnq40, r7ZNnq40, r8ZNnq40, r9ZNnq40, r10ZNnq40, r11ZNnq40, r12ZNnq40, r13ZNnq40, r14ZNnq40, r15ZNnq40, r16ZNnq40, r17ZNnq40, r18ZNnq40, k0ZNnq40, k1ZNnq40, k2ZNnq40, k3ZNnq40, k4ZNnq40⟩ := pbZNnq40
      obtain ⟨v42, ev42, tv42⟩ := gf_64_32 Wq40 t_x0
      refine wb ev42 ?_
      obtain ⟨v43, ev43, lv43, uv43⟩ := gf_64_56 Wq40 t_x0
      refine wb ev43 ?_
      obtain ⟨c44, ec44, Wc44, fc44, gc44⟩ := pa_85 Wq40 tv42 (i := x4) (by omega) (by omega) (x := v43) (trivial)
      refine wb ec44 ?_
      have e60 := (Zfr.gi fc44 t_x0 (by decide)).trans h0ZNnq40
      have e61 := (Zfr.gi fc44 t_x0 (by decide)).trans h3ZNnq40
      have e62 := (Zfr.gr fc44 t_x0 (by decide)).trans h4ZNnq40
      have e63 := (Zfr.gr fc44 t_x0 (by decide)).trans h5ZNnq40
      have e64 := (Zfr.gr fc44 t_x0 (by decide)).trans e56
      have e65 := (Zfr.ai fc44 tkl0 (by decide)).trans e57
      have e66 := (Zfr.ai fc44 tkw0 (by decide)).trans e58
      have e67 := (Zfr.gi fc44 t_x0 (by decide)).trans h1ZNnq40
      have e68 := (Zfr.gi fc44 t_x0 (by decide)).trans h2ZNnq40
      have e69 := (Zfr.ai fc44 tksq40 (by decide)).trans h6ZNnq40
      have e70 := (Zfr.ai fc44 tklq40 (by decide)).trans h7ZNnq40
      have e71 := (Zfr.gi fc44 t_x0 (by decide)).trans h8ZNnq40
      have k72 := GtP_fr k0ZNnq40 fc44 t_x0 Wq40 (by decide)
      have sc74 := Sc_fr fc44 t_x0 (by decide) (by decide) (by decide)
      have k73 := WyN_fr k1ZNnq40 fc44 t_x0 Wq40 (by decide) sc74
      have k75 := TbI_fr k2ZNnq40 fc44 t_x0 Wq40 (by decide) sc74
      have k76 := TbC_fr k3ZNnq40 fc44 t_x0 Wq40 (by decide) sc74
      have k77 := TkN_fr k4ZNnq40 fc44 t_x0 Wq40 (by decide)
      have F78 := Zfr.tr F59 fc44 (by decide)
      obtain ⟨v45, ev45, tv45⟩ := gf_64_89 Wc44 t_x0
      refine wb ev45 ?_
      have := nb_id (x := x2) (by omega) (by omega)
      obtain ⟨c46, ec46, Wc46, fc46, gc46⟩ := pa_134 Wc44 tv45 (i := x4) (by omega) (by omega) (x := (vp_nar .boolean x2)) (rgi (by omega) (by omega))
      refine wb ec46 ?_
      have e79 := (Zfr.gi fc46 t_x0 (by decide)).trans e60
      have e80 := (Zfr.gi fc46 t_x0 (by decide)).trans e61
      have e81 := (Zfr.gr fc46 t_x0 (by decide)).trans e62
      have e82 := (Zfr.gr fc46 t_x0 (by decide)).trans e63
      have e83 := (Zfr.gr fc46 t_x0 (by decide)).trans e64
      have e84 := (Zfr.ai fc46 tkl0 (by decide)).trans e65
      have e85 := (Zfr.ai fc46 tkw0 (by decide)).trans e66
      have e86 := (Zfr.gi fc46 t_x0 (by decide)).trans e67
      have e87 := (Zfr.gi fc46 t_x0 (by decide)).trans e68
      have e88 := (Zfr.ai fc46 tksq40 (by decide)).trans e69
      have e89 := (Zfr.ai fc46 tklq40 (by decide)).trans e70
      have e90 := (Zfr.gi fc46 t_x0 (by decide)).trans e71
      have e91 := (Zfr.ai fc46 tv42 (by decide)).trans gc44
      have k92 := GtP_fr k72 fc46 t_x0 Wc44 (by decide)
      have sc94 := Sc_fr fc46 t_x0 (by decide) (by decide) (by decide)
      have k93 := WyN_fr k73 fc46 t_x0 Wc44 (by decide) sc94
      have k95 := TbI_fr k75 fc46 t_x0 Wc44 (by decide) sc94
      have k96 := TbC_fr k76 fc46 t_x0 Wc44 (by decide) sc94
      have k97 := TkN_fr k77 fc46 t_x0 Wc44 (by decide)
      have F98 := Zfr.tr F78 fc46 (by decide)
      obtain ⟨v47, ev47, tv47⟩ := gf_64_33 Wc46 t_x0
      refine wb ev47 ?_
      refine wi (fun hq99 => ?_) (fun hq99 => ?_)
      · have hq99 := i_eq hq99
        unfold f_Mo_way_329
        obtain ⟨c49, ec49, Wc49, fc49, gc49⟩ := pa_86 Wc46 tv47 (i := x4) (by omega) (by omega) (x := x1) (trivial)
        refine wb ec49 ?_
        have e100 := (Zfr.gi fc49 t_x0 (by decide)).trans e79
        have e101 := (Zfr.gi fc49 t_x0 (by decide)).trans e80
        have e102 := (Zfr.gr fc49 t_x0 (by decide)).trans e81
        have e103 := (Zfr.gr fc49 t_x0 (by decide)).trans e82
        have e104 := (Zfr.gr fc49 t_x0 (by decide)).trans e83
        have e105 := (Zfr.ai fc49 tkl0 (by decide)).trans e84
        have e106 := (Zfr.ai fc49 tkw0 (by decide)).trans e85
        have e107 := (Zfr.gi fc49 t_x0 (by decide)).trans e86
        have e108 := (Zfr.gi fc49 t_x0 (by decide)).trans e87
        have e109 := (Zfr.ai fc49 tksq40 (by decide)).trans e88
        have e110 := (Zfr.ai fc49 tklq40 (by decide)).trans e89
        have e111 := (Zfr.gi fc49 t_x0 (by decide)).trans e90
        have e112 := (Zfr.ai fc49 tv42 (by decide)).trans e91
        have e113 := (Zfr.ai fc49 tv45 (by decide)).trans gc46
        have e114 := (Zfr.gr fc49 t_x0 (by decide)).trans ev47
        have k115 := GtP_w33 k92 Wc46 t_x0 fc49 e79 ev47 ec49 (by omega) (by omega) (by omega)
        have k116 := WyN_w33 k93 Wc46 t_x0 fc49 e79 ev47 ec49 (by omega) (by omega)
        have sc118 := Sc_fr fc49 t_x0 (by decide) (by decide) (by decide)
        have k117 := TbI_fr k95 fc49 t_x0 Wc46 (by decide) sc118
        have k119 := TbC_fr k96 fc49 t_x0 Wc46 (by decide) sc118
        have k120 := TkN_fr k97 fc49 t_x0 Wc46 (by decide)
        have F121 := Zfr.tr F98 fc49 (by decide)
        obtain ⟨v50, ev50, tv50⟩ := gf_64_34 Wc49 t_x0
        refine wb ev50 ?_
        refine wi (fun hq122 => ?_) (fun hq122 => ?_)
        · have hq122 := i_eq hq122
          unfold f_Mo_way_346
          obtain ⟨c52, ec52, Wc52, fc52, gc52⟩ := pa_87 Wc49 tv50 (i := x4) (by omega) (by omega) (x := q40.1) (trivial)
          refine wb ec52 ?_
          have e123 := (Zfr.gi fc52 t_x0 (by decide)).trans e100
          have e124 := (Zfr.gi fc52 t_x0 (by decide)).trans e101
          have e125 := (Zfr.gr fc52 t_x0 (by decide)).trans e102
          have e126 := (Zfr.gr fc52 t_x0 (by decide)).trans e103
          have e127 := (Zfr.gr fc52 t_x0 (by decide)).trans e104
          have e128 := (Zfr.ai fc52 tkl0 (by decide)).trans e105
          have e129 := (Zfr.ai fc52 tkw0 (by decide)).trans e106
          have e130 := (Zfr.gi fc52 t_x0 (by decide)).trans e107
          have e131 := (Zfr.gi fc52 t_x0 (by decide)).trans e108
          have e132 := (Zfr.ai fc52 tksq40 (by decide)).trans e109
          have e133 := (Zfr.ai fc52 tklq40 (by decide)).trans e110
          have e134 := (Zfr.gi fc52 t_x0 (by decide)).trans e111
          have e135 := (Zfr.ai fc52 tv42 (by decide)).trans e112
          have e136 := (Zfr.ai fc52 tv45 (by decide)).trans e113
          have e137 := (Zfr.gr fc52 t_x0 (by decide)).trans e114
          have e138 := (Zfr.ai fc52 tv47 (by decide)).trans gc49
          have e139 := (Zfr.gr fc52 t_x0 (by decide)).trans ev50
          have k140 := GtP_w34 k115 Wc49 t_x0 fc52 e100 ev50 ec52 (by omega) (by omega) (by omega)
          have k141 := WyN_w34 k116 Wc49 t_x0 fc52 e100 ev50 ec52 (by omega) (by omega)
          have sc143 := Sc_fr fc52 t_x0 (by decide) (by decide) (by decide)
          have k142 := TbI_fr k117 fc52 t_x0 Wc49 (by decide) sc143
          have k144 := TbC_fr k119 fc52 t_x0 Wc49 (by decide) sc143
          have k145 := TkN_fr k120 fc52 t_x0 Wc49 (by decide)
          have F146 := Zfr.tr F121 fc52 (by decide)
          exact ⟨_, rfl, Wc52, F146, ⟨bf2q40, bt2q40, bd2q40, bksq40, bklq40, bkw0, bnaq40, blbq40, bnw0, bvnq40, e123, e130, e131, e124, e125, e126, e127, e132, e133, e129, e134, tksq40, tklq40, tkw0, by (try dsimp only); omega, by (try dsimp only); omega, by (try dsimp only); omega, by (try dsimp only); omega, by (try dsimp only); omega, by (try dsimp only); omega, by (try dsimp only); omega, by (try dsimp only); omega, by (try dsimp only); omega, by (try dsimp only); omega, by (try dsimp only); omega, by (try dsimp only); omega, by (try dsimp only); omega, by (try dsimp only); omega, by (try dsimp only); omega, by (try dsimp only); omega, by (try dsimp only); omega, by (try dsimp only); omega, by (try dsimp only); omega, by (try dsimp only); omega, by (try dsimp only); omega, k140, WyN_up k141 e123 (by omega) (by omega) (by omega) e137 e139 (by omega) e138 gc52 e130 (by omega), k142, k144, k145⟩⟩
        · have hq122 := i_ne hq122
          exfalso
          omega
      · have hq99 := i_ne hq99
        exfalso
        omega
    · have hq38 := i_ne hq38
      exact ⟨_, rfl, Wq36, F37, ⟨bf2q36, bt2q36, dv, bks0, bkl0, bkw0, bna0, blb0, bnw0, bvn0, e22, h0ZSq36, h1ZSq36, e23, e24, e25, e26, e27, e28, e29, e30, tks0, tkl0, tkw0, by (try dsimp only); omega, by (try dsimp only); omega, by (try dsimp only); omega, by (try dsimp only); omega, by (try dsimp only); omega, by (try dsimp only); omega, by (try dsimp only); omega, by (try dsimp only); omega, by (try dsimp only); omega, by (try dsimp only); omega, by (try dsimp only); omega, by (try dsimp only); omega, by (try dsimp only); omega, by (try dsimp only); omega, by (try dsimp only); omega, by (try dsimp only); omega, by (try dsimp only); omega, by (try dsimp only); omega, by (try dsimp only); omega, by (try dsimp only); omega, by (try dsimp only); omega, k31, WyN_flt h0ZSq36 (by omega), k34, k35, k36⟩⟩
  · have := li_0
    have hq19 := i_ne hq19
    unfold f_Mo_way_276
    obtain ⟨w37, ew37⟩ := go_64 Wq33 t_x0
    refine wb ew37 ?_
    have := li_45
    obtain ⟨q36, eq36, Wq36, fq36, pbZSq36⟩ := p_Mo_need hn Wq33 (a1 := 45) t_x0 (by omega) (by omega) (by omega) (by omega) h0ZSq33 h1ZSq33
    refine wb eq36 ?_
    have e178 := (Zfr.gi fq36 t_x0 (by decide)).trans e3
    have e179 := (Zfr.gi fq36 t_x0 (by decide)).trans e4
    have e180 := (Zfr.gr fq36 t_x0 (by decide)).trans e5
    have e181 := (Zfr.gr fq36 t_x0 (by decide)).trans e6
    have e182 := (Zfr.gr fq36 t_x0 (by decide)).trans e7
    have e183 := (Zfr.ai fq36 tks0 (by decide)).trans e8
    have e184 := (Zfr.ai fq36 tkl0 (by decide)).trans e9
    have e185 := (Zfr.ai fq36 tkw0 (by decide)).trans e10
    have e186 := (Zfr.gi fq36 t_x0 (by decide)).trans e11
    have k187 := GtP_fr k12 fq36 t_x0 Wq33 (by decide)
    have sc189 : Sc q33 q36 x0 (1) (0) := by
      obtain ⟨yf2, yt2, z0y, z1y, x0y, x1y, x2y, x3y, x4y, x5y⟩ := pbZSq36
      exact Sc_mk h0ZSq33 z0y h1ZSq33 z1y e4 ((Zfr.gi (ci := 12) fq36 t_x0 (by decide)).trans e4) (by omega)
    have k188 := WyN_fr k13 fq36 t_x0 Wq33 (by decide) sc189
    have k190 := TbI_fr k15 fq36 t_x0 Wq33 (by decide) sc189
    have k191 := TbC_fr k16 fq36 t_x0 Wq33 (by decide) sc189
    have k192 := TkN_fr k17 fq36 t_x0 Wq33 (by decide)
    have F193 := Zfr.tr F18 fq36 (by decide)
    obtain ⟨bf2q36, bt2q36, h0ZSq36, h1ZSq36, r0ZSq36, r1ZSq36, r2ZSq36, r3ZSq36, r4ZSq36, r5ZSq36⟩ := pbZSq36
    refine wb h0ZSq36 ?_
    refine wi (fun hq194 => ?_) (fun hq194 => ?_)
    · have hq194 := i_eq hq194
      obtain ⟨w41, ew41⟩ := go_64 Wq36 t_x0
      refine wb ew41 ?_
      obtain ⟨q40, eq40, Wq40, fq40, pbZNnq40⟩ := p_Mo_nodeOf hn Wq36 (ni := ni) (bc := bc) (n1 := n0) t_x0 (by omega) (by omega) (by omega) (by omega) (by omega) (by omega) (by omega) (by omega) e178 h0ZSq36 h1ZSq36 e179 ⟨bks0, bkl0, bna0, blb0, bvn0, e178, h0ZSq36, h1ZSq36, e179, e180, e181, e183, e184, e186, tks0, tkl0, by (try dsimp only); omega, by (try dsimp only); omega, by (try dsimp only); omega, by (try dsimp only); omega, by (try dsimp only); omega, by (try dsimp only); omega, by (try dsimp only); omega, by (try dsimp only); omega, by (try dsimp only); omega, by (try dsimp only); omega, by (try dsimp only); omega, by (try dsimp only); omega, by (try dsimp only); omega, by (try dsimp only); omega, by (try dsimp only); omega, by (try dsimp only); omega, k187, k188, k190, k191, k192⟩
      refine wb eq40 ?_
      have e208 := (Zfr.gi fq40 t_x0 (by decide)).trans e178
      have e209 := (Zfr.gi fq40 t_x0 (by decide)).trans e179
      have e210 := (Zfr.gr fq40 t_x0 (by decide)).trans e180
      have e211 := (Zfr.gr fq40 t_x0 (by decide)).trans e181
      have e212 := (Zfr.gr fq40 t_x0 (by decide)).trans e182
      have e213 := (Zfr.ai fq40 tkl0 (by decide)).trans e184
      have e214 := (Zfr.ai fq40 tkw0 (by decide)).trans e185
      have F215 := Zfr.tr F193 fq40 (by decide)
      have := li_2
      obtain ⟨bf2q40, bt2q40, bd2q40, bksq40, bklq40, bnaq40, blbq40, bvnq40, h0ZNnq40, h1ZNnq40, h2ZNnq40, h3ZNnq40, h4ZNnq40, h5ZNnq40, h6ZNnq40, h7ZNnq40, h8ZNnq40, tksq40, tklq40, r0ZNnq40, r1ZNnq40, r2ZNnq40, r3ZNnq40, r4ZNnq40, r5ZNnq40, r6ZNnq40, r7ZNnq40, r8ZNnq40, r9ZNnq40, r10ZNnq40, r11ZNnq40, r12ZNnq40, r13ZNnq40, r14ZNnq40, r15ZNnq40, r16ZNnq40, r17ZNnq40, r18ZNnq40, k0ZNnq40, k1ZNnq40, k2ZNnq40, k3ZNnq40, k4ZNnq40⟩ := pbZNnq40
      obtain ⟨v42, ev42, tv42⟩ := gf_64_32 Wq40 t_x0
      refine wb ev42 ?_
      obtain ⟨v43, ev43, lv43, uv43⟩ := gf_64_56 Wq40 t_x0
      refine wb ev43 ?_
      obtain ⟨c44, ec44, Wc44, fc44, gc44⟩ := pa_85 Wq40 tv42 (i := x4) (by omega) (by omega) (x := v43) (trivial)
      refine wb ec44 ?_
      have e216 := (Zfr.gi fc44 t_x0 (by decide)).trans h0ZNnq40
      have e217 := (Zfr.gi fc44 t_x0 (by decide)).trans h3ZNnq40
      have e218 := (Zfr.gr fc44 t_x0 (by decide)).trans h4ZNnq40
      have e219 := (Zfr.gr fc44 t_x0 (by decide)).trans h5ZNnq40
      have e220 := (Zfr.gr fc44 t_x0 (by decide)).trans e212
      have e221 := (Zfr.ai fc44 tkl0 (by decide)).trans e213
      have e222 := (Zfr.ai fc44 tkw0 (by decide)).trans e214
      have e223 := (Zfr.gi fc44 t_x0 (by decide)).trans h1ZNnq40
      have e224 := (Zfr.gi fc44 t_x0 (by decide)).trans h2ZNnq40
      have e225 := (Zfr.ai fc44 tksq40 (by decide)).trans h6ZNnq40
      have e226 := (Zfr.ai fc44 tklq40 (by decide)).trans h7ZNnq40
      have e227 := (Zfr.gi fc44 t_x0 (by decide)).trans h8ZNnq40
      have k228 := GtP_fr k0ZNnq40 fc44 t_x0 Wq40 (by decide)
      have sc230 := Sc_fr fc44 t_x0 (by decide) (by decide) (by decide)
      have k229 := WyN_fr k1ZNnq40 fc44 t_x0 Wq40 (by decide) sc230
      have k231 := TbI_fr k2ZNnq40 fc44 t_x0 Wq40 (by decide) sc230
      have k232 := TbC_fr k3ZNnq40 fc44 t_x0 Wq40 (by decide) sc230
      have k233 := TkN_fr k4ZNnq40 fc44 t_x0 Wq40 (by decide)
      have F234 := Zfr.tr F215 fc44 (by decide)
      obtain ⟨v45, ev45, tv45⟩ := gf_64_89 Wc44 t_x0
      refine wb ev45 ?_
      have := nb_id (x := x2) (by omega) (by omega)
      obtain ⟨c46, ec46, Wc46, fc46, gc46⟩ := pa_134 Wc44 tv45 (i := x4) (by omega) (by omega) (x := (vp_nar .boolean x2)) (rgi (by omega) (by omega))
      refine wb ec46 ?_
      have e235 := (Zfr.gi fc46 t_x0 (by decide)).trans e216
      have e236 := (Zfr.gi fc46 t_x0 (by decide)).trans e217
      have e237 := (Zfr.gr fc46 t_x0 (by decide)).trans e218
      have e238 := (Zfr.gr fc46 t_x0 (by decide)).trans e219
      have e239 := (Zfr.gr fc46 t_x0 (by decide)).trans e220
      have e240 := (Zfr.ai fc46 tkl0 (by decide)).trans e221
      have e241 := (Zfr.ai fc46 tkw0 (by decide)).trans e222
      have e242 := (Zfr.gi fc46 t_x0 (by decide)).trans e223
      have e243 := (Zfr.gi fc46 t_x0 (by decide)).trans e224
      have e244 := (Zfr.ai fc46 tksq40 (by decide)).trans e225
      have e245 := (Zfr.ai fc46 tklq40 (by decide)).trans e226
      have e246 := (Zfr.gi fc46 t_x0 (by decide)).trans e227
      have e247 := (Zfr.ai fc46 tv42 (by decide)).trans gc44
      have k248 := GtP_fr k228 fc46 t_x0 Wc44 (by decide)
      have sc250 := Sc_fr fc46 t_x0 (by decide) (by decide) (by decide)
      have k249 := WyN_fr k229 fc46 t_x0 Wc44 (by decide) sc250
      have k251 := TbI_fr k231 fc46 t_x0 Wc44 (by decide) sc250
      have k252 := TbC_fr k232 fc46 t_x0 Wc44 (by decide) sc250
      have k253 := TkN_fr k233 fc46 t_x0 Wc44 (by decide)
      have F254 := Zfr.tr F234 fc46 (by decide)
      obtain ⟨v47, ev47, tv47⟩ := gf_64_33 Wc46 t_x0
      refine wb ev47 ?_
      refine wi (fun hq255 => ?_) (fun hq255 => ?_)
      · have hq255 := i_eq hq255
        exfalso
        omega
      · have hq255 := i_ne hq255
        unfold f_Mo_way_329
        obtain ⟨c49, ec49, Wc49, fc49, gc49⟩ := pa_86 Wc46 tv47 (i := x4) (by omega) (by omega) (x := q40.1) (trivial)
        refine wb ec49 ?_
        have e256 := (Zfr.gi fc49 t_x0 (by decide)).trans e235
        have e257 := (Zfr.gi fc49 t_x0 (by decide)).trans e236
        have e258 := (Zfr.gr fc49 t_x0 (by decide)).trans e237
        have e259 := (Zfr.gr fc49 t_x0 (by decide)).trans e238
        have e260 := (Zfr.gr fc49 t_x0 (by decide)).trans e239
        have e261 := (Zfr.ai fc49 tkl0 (by decide)).trans e240
        have e262 := (Zfr.ai fc49 tkw0 (by decide)).trans e241
        have e263 := (Zfr.gi fc49 t_x0 (by decide)).trans e242
        have e264 := (Zfr.gi fc49 t_x0 (by decide)).trans e243
        have e265 := (Zfr.ai fc49 tksq40 (by decide)).trans e244
        have e266 := (Zfr.ai fc49 tklq40 (by decide)).trans e245
        have e267 := (Zfr.gi fc49 t_x0 (by decide)).trans e246
        have e268 := (Zfr.ai fc49 tv42 (by decide)).trans e247
        have e269 := (Zfr.ai fc49 tv45 (by decide)).trans gc46
        have e270 := (Zfr.gr fc49 t_x0 (by decide)).trans ev47
        have k271 := GtP_w33 k248 Wc46 t_x0 fc49 e235 ev47 ec49 (by omega) (by omega) (by omega)
        have k272 := WyN_w33 k249 Wc46 t_x0 fc49 e235 ev47 ec49 (by omega) (by omega)
        have sc274 := Sc_fr fc49 t_x0 (by decide) (by decide) (by decide)
        have k273 := TbI_fr k251 fc49 t_x0 Wc46 (by decide) sc274
        have k275 := TbC_fr k252 fc49 t_x0 Wc46 (by decide) sc274
        have k276 := TkN_fr k253 fc49 t_x0 Wc46 (by decide)
        have F277 := Zfr.tr F254 fc49 (by decide)
        obtain ⟨v50, ev50, tv50⟩ := gf_64_34 Wc49 t_x0
        refine wb ev50 ?_
        refine wi (fun hq278 => ?_) (fun hq278 => ?_)
        · have hq278 := i_eq hq278
          exfalso
          omega
        · have hq278 := i_ne hq278
          unfold f_Mo_way_346
          obtain ⟨c52, ec52, Wc52, fc52, gc52⟩ := pa_87 Wc49 tv50 (i := x4) (by omega) (by omega) (x := x1) (trivial)
          refine wb ec52 ?_
          have e279 := (Zfr.gi fc52 t_x0 (by decide)).trans e256
          have e280 := (Zfr.gi fc52 t_x0 (by decide)).trans e257
          have e281 := (Zfr.gr fc52 t_x0 (by decide)).trans e258
          have e282 := (Zfr.gr fc52 t_x0 (by decide)).trans e259
          have e283 := (Zfr.gr fc52 t_x0 (by decide)).trans e260
          have e284 := (Zfr.ai fc52 tkl0 (by decide)).trans e261
          have e285 := (Zfr.ai fc52 tkw0 (by decide)).trans e262
          have e286 := (Zfr.gi fc52 t_x0 (by decide)).trans e263
          have e287 := (Zfr.gi fc52 t_x0 (by decide)).trans e264
          have e288 := (Zfr.ai fc52 tksq40 (by decide)).trans e265
          have e289 := (Zfr.ai fc52 tklq40 (by decide)).trans e266
          have e290 := (Zfr.gi fc52 t_x0 (by decide)).trans e267
          have e291 := (Zfr.ai fc52 tv42 (by decide)).trans e268
          have e292 := (Zfr.ai fc52 tv45 (by decide)).trans e269
          have e293 := (Zfr.gr fc52 t_x0 (by decide)).trans e270
          have e294 := (Zfr.ai fc52 tv47 (by decide)).trans gc49
          have e295 := (Zfr.gr fc52 t_x0 (by decide)).trans ev50
          have k296 := GtP_w34 k271 Wc49 t_x0 fc52 e256 ev50 ec52 (by omega) (by omega) (by omega)
          have k297 := WyN_w34 k272 Wc49 t_x0 fc52 e256 ev50 ec52 (by omega) (by omega)
          have sc299 := Sc_fr fc52 t_x0 (by decide) (by decide) (by decide)
          have k298 := TbI_fr k273 fc52 t_x0 Wc49 (by decide) sc299
          have k300 := TbC_fr k275 fc52 t_x0 Wc49 (by decide) sc299
          have k301 := TkN_fr k276 fc52 t_x0 Wc49 (by decide)
          have F302 := Zfr.tr F277 fc52 (by decide)
          exact ⟨_, rfl, Wc52, F302, ⟨bf2q40, bt2q40, bd2q40, bksq40, bklq40, bkw0, bnaq40, blbq40, bnw0, bvnq40, e279, e286, e287, e280, e281, e282, e283, e288, e289, e285, e290, tksq40, tklq40, tkw0, by (try dsimp only); omega, by (try dsimp only); omega, by (try dsimp only); omega, by (try dsimp only); omega, by (try dsimp only); omega, by (try dsimp only); omega, by (try dsimp only); omega, by (try dsimp only); omega, by (try dsimp only); omega, by (try dsimp only); omega, by (try dsimp only); omega, by (try dsimp only); omega, by (try dsimp only); omega, by (try dsimp only); omega, by (try dsimp only); omega, by (try dsimp only); omega, by (try dsimp only); omega, by (try dsimp only); omega, by (try dsimp only); omega, by (try dsimp only); omega, by (try dsimp only); omega, k296, WyN_up k297 e279 (by omega) (by omega) (by omega) e293 e295 (by omega) e294 gc52 e286 (by omega), k298, k300, k301⟩⟩
    · have hq194 := i_ne hq194
      exact ⟨_, rfl, Wq36, F193, ⟨bf2q36, bt2q36, dv, bks0, bkl0, bkw0, bna0, blb0, bnw0, bvn0, e178, h0ZSq36, h1ZSq36, e179, e180, e181, e182, e183, e184, e185, e186, tks0, tkl0, tkw0, by (try dsimp only); omega, by (try dsimp only); omega, by (try dsimp only); omega, by (try dsimp only); omega, by (try dsimp only); omega, by (try dsimp only); omega, by (try dsimp only); omega, by (try dsimp only); omega, by (try dsimp only); omega, by (try dsimp only); omega, by (try dsimp only); omega, by (try dsimp only); omega, by (try dsimp only); omega, by (try dsimp only); omega, by (try dsimp only); omega, by (try dsimp only); omega, by (try dsimp only); omega, by (try dsimp only); omega, by (try dsimp only); omega, by (try dsimp only); omega, by (try dsimp only); omega, k187, WyN_flt h0ZSq36 (by omega), k190, k191, k192⟩⟩

abbrev M_Mo_way_238 : List (Nat × Nat) := [(64, 18), (64, 19), (64, 20), (64, 53), (64, 57), (64, 65), (79, 0), (82, 0), (83, 0), (85, 0), (86, 0), (87, 0), (89, 0), (90, 0), (91, 0), (92, 0), (93, 0), (94, 0), (95, 0), (105, 0), (106, 0), (107, 0), (108, 0), (109, 0), (110, 0), (111, 0), (112, 0), (113, 0), (134, 0)]
set_option maxRecDepth 100000 in
set_option maxHeartbeats 400000 in
theorem p_Mo_way_238 {nf : Nat} (hn : 8589934592 ≤ nf) {G : List Nat} {c : Zc} (W : Zwt zty G c) {x0 : Nat} {x1 : Int32} {x2 : Int32} {x4 : Int32} {ni : Int32} {bc : Int32} {n0 : Int32} {pv : Int32} {fv : Int32} {tv : Int32} {dv : Int32} (t_x0 : G[x0]? = some 64) (pl_pv : 0 ≤ pv.toInt) (pu_pv : pv.toInt ≤ 8) (pl_fv : 0 ≤ fv.toInt) (pu_fv : fv.toInt ≤ 6) (pl_tv : 0 ≤ tv.toInt) (pu_tv : tv.toInt ≤ 200) (pl_dv : 0 ≤ dv.toInt) (pu_dv : dv.toInt ≤ 11) (pl_x1 : 0 ≤ x1.toInt) (pu_x1 : x1.toInt ≤ 7) (pl_x2 : 0 ≤ x2.toInt) (pu_x2 : x2.toInt ≤ 1) (pl_x4 : 0 ≤ x4.toInt) (pu_x4 : x4.toInt ≤ 98) (eh_pv : zgi c x0 12 25 = some pv) (eh_fv : zgi c x0 12 19 = some fv) (eh_tv : zgi c x0 12 18 = some tv) (eh_dv : zgi c x0 12 53 = some dv) (pp_7 : x4.toInt = 11 * pv.toInt + n0.toInt) (hb_ZVm : ZVm G c x0 pv fv tv dv ni bc n0) : ∃ q, f_Mo_way_238 nf x0 x1 x2 x4 c = some q ∧ Zwt zty G q.2 ∧ Zfr G M_Mo_way_238 c q.2 ∧ ZVs G q.2 x0 pv fv tv dv ni bc q.1 := by
  have F0 : Zfr G M_Mo_way_238 c c := Zfr.rf
  unfold f_Mo_way_238
  obtain ⟨bks0, bkl0, bkw0, bna0, blb0, bnw0, bvn0, h0ZVm0, h1ZVm0, h2ZVm0, h3ZVm0, h4ZVm0, h5ZVm0, h6ZVm0, h7ZVm0, h8ZVm0, h9ZVm0, h10ZVm0, tks0, tkl0, tkw0, r0ZVm0, r1ZVm0, r2ZVm0, r3ZVm0, r4ZVm0, r5ZVm0, r6ZVm0, r7ZVm0, r8ZVm0, r9ZVm0, r10ZVm0, r11ZVm0, r12ZVm0, r13ZVm0, r14ZVm0, r15ZVm0, r16ZVm0, r17ZVm0, r18ZVm0, r19ZVm0, k0ZVm0, k1ZVm0, k2ZVm0, k3ZVm0, k4ZVm0⟩ := hb_ZVm
  obtain ⟨w30, ew30⟩ := go_64 W t_x0
  refine wb ew30 ?_
  have := li_91
  obtain ⟨q29, eq29, Wq29, fq29, pbZSq29⟩ := p_Mo_need hn W (a1 := 91) t_x0 (by omega) (by omega) (by omega) (by omega) h1ZVm0 h2ZVm0
  refine wb eq29 ?_
  have e3 := (Zfr.gi fq29 t_x0 (by decide)).trans h0ZVm0
  have e4 := (Zfr.gi fq29 t_x0 (by decide)).trans h3ZVm0
  have e5 := (Zfr.gr fq29 t_x0 (by decide)).trans h4ZVm0
  have e6 := (Zfr.gr fq29 t_x0 (by decide)).trans h5ZVm0
  have e7 := (Zfr.gr fq29 t_x0 (by decide)).trans h6ZVm0
  have e8 := (Zfr.ai fq29 tks0 (by decide)).trans h7ZVm0
  have e9 := (Zfr.ai fq29 tkl0 (by decide)).trans h8ZVm0
  have e10 := (Zfr.ai fq29 tkw0 (by decide)).trans h9ZVm0
  have e11 := (Zfr.gi fq29 t_x0 (by decide)).trans h10ZVm0
  have k12 := GtP_fr k0ZVm0 fq29 t_x0 W (by decide)
  have := li_1
  have sc14 : Sc c q29 x0 (1) (0) := by
    obtain ⟨yf2, yt2, z0y, z1y, x0y, x1y, x2y, x3y, x4y, x5y⟩ := pbZSq29
    exact Sc_mk h1ZVm0 z0y h2ZVm0 z1y h3ZVm0 ((Zfr.gi (ci := 12) fq29 t_x0 (by decide)).trans h3ZVm0) (by omega)
  have k13 := WyN_fr k1ZVm0 fq29 t_x0 W (by decide) sc14
  have k15 := TbI_fr k2ZVm0 fq29 t_x0 W (by decide) sc14
  have k16 := TbC_fr k3ZVm0 fq29 t_x0 W (by decide) sc14
  have k17 := TkN_fr k4ZVm0 fq29 t_x0 W (by decide)
  have F18 := Zfr.tr F0 fq29 (by decide)
  obtain ⟨bf2q29, bt2q29, h0ZSq29, h1ZSq29, r0ZSq29, r1ZSq29, r2ZSq29, r3ZSq29, r4ZSq29, r5ZSq29⟩ := pbZSq29
  refine wb h0ZSq29 ?_
  refine wi (fun hq19 => ?_) (fun hq19 => ?_)
  · have := li_0
    have hq19 := i_eq hq19
    obtain ⟨w54, ew54⟩ := go_64 Wq29 t_x0
    refine wb ew54 ?_
    obtain ⟨q53, eq53, Wq53, fq53, pbZSdq53⟩ := p_Mo_rows hn Wq29 (a1 := x4) t_x0 (by omega) (by omega) (by omega) (by omega) (by omega) (by omega) (by omega) (by omega) h0ZSq29 h1ZSq29 e4 k17
    refine wb eq53 ?_
    have e23 := (Zfr.gi fq53 t_x0 (by decide)).trans e3
    have e24 := (Zfr.gr fq53 t_x0 (by decide)).trans e5
    have e25 := (Zfr.gr fq53 t_x0 (by decide)).trans e6
    have e26 := (Zfr.gr fq53 t_x0 (by decide)).trans e7
    have e27 := (Zfr.ai fq53 tks0 (by decide)).trans e8
    have e28 := (Zfr.ai fq53 tkl0 (by decide)).trans e9
    have e29 := (Zfr.ai fq53 tkw0 (by decide)).trans e10
    have e30 := (Zfr.gi fq53 t_x0 (by decide)).trans e11
    have k31 := GtP_fr k12 fq53 t_x0 Wq29 (by decide)
    have sc33 : Sc q29 q53 x0 (0) (0) := by
      obtain ⟨yf2, yt2, yd2, z0y, z1y, z2y, x0y, x1y, x2y, x3y, x4y, x5y, x6y, x7y⟩ := pbZSdq53
      exact Sc_mk h0ZSq29 z0y h1ZSq29 z1y e4 z2y (by omega)
    have k32 := WyN_fr k13 fq53 t_x0 Wq29 (by decide) sc33
    have k34 := TbI_fr k15 fq53 t_x0 Wq29 (by decide) sc33
    have k35 := TbC_fr k16 fq53 t_x0 Wq29 (by decide) sc33
    have k36 := TkN_fr k17 fq53 t_x0 Wq29 (by decide)
    have F37 := Zfr.tr F18 fq53 (by decide)
    obtain ⟨bf2q53, bt2q53, bd2q53, h0ZSdq53, h1ZSdq53, h2ZSdq53, r0ZSdq53, r1ZSdq53, r2ZSdq53, r3ZSdq53, r4ZSdq53, r5ZSdq53, r6ZSdq53, r7ZSdq53⟩ := pbZSdq53
    obtain ⟨qt38, eqt38, Wqt38, fqt38, pbZVsqt38⟩ := p_Mo_way_257 hn Wq53 (x1 := x1) (x2 := x2) (x4 := x4) (ni := ni) (bc := bc) (n0 := n0) t_x0 (by omega) (by omega) (by omega) (by omega) (by omega) (by omega) (by omega) (by omega) (by omega) (by omega) (by omega) (by omega) (by omega) (by omega) e23 h0ZSdq53 h1ZSdq53 h2ZSdq53 (by omega) ⟨bks0, bkl0, bkw0, bna0, blb0, bnw0, bvn0, e23, h0ZSdq53, h1ZSdq53, h2ZSdq53, e24, e25, e26, e27, e28, e29, e30, tks0, tkl0, tkw0, by (try dsimp only); omega, by (try dsimp only); omega, by (try dsimp only); omega, by (try dsimp only); omega, by (try dsimp only); omega, by (try dsimp only); omega, by (try dsimp only); omega, by (try dsimp only); omega, by (try dsimp only); omega, by (try dsimp only); omega, by (try dsimp only); omega, by (try dsimp only); omega, by (try dsimp only); omega, by (try dsimp only); omega, by (try dsimp only); omega, by (try dsimp only); omega, by (try dsimp only); omega, by (try dsimp only); omega, by (try dsimp only); omega, by (try dsimp only); omega, k31, k32, k34, k35, k36⟩
    have e54 := (Zfr.gi fqt38 t_x0 (by decide)).trans e23
    have e55 := (Zfr.gr fqt38 t_x0 (by decide)).trans e24
    have e56 := (Zfr.gr fqt38 t_x0 (by decide)).trans e25
    have e57 := (Zfr.gr fqt38 t_x0 (by decide)).trans e26
    have e58 := (Zfr.ai fqt38 tkl0 (by decide)).trans e28
    have e59 := (Zfr.ai fqt38 tkw0 (by decide)).trans e29
    have e60 := (Zfr.gi fqt38 t_x0 (by decide)).trans h2ZSdq53
    have F61 := Zfr.tr F37 fqt38 (by decide)
    obtain ⟨bf2qt38, bt2qt38, bd2qt38, bksqt38, bklqt38, bkwqt38, bnaqt38, blbqt38, bnwqt38, bvnqt38, h0ZVsqt38, h1ZVsqt38, h2ZVsqt38, h3ZVsqt38, h4ZVsqt38, h5ZVsqt38, h6ZVsqt38, h7ZVsqt38, h8ZVsqt38, h9ZVsqt38, h10ZVsqt38, tksqt38, tklqt38, tkwqt38, r0ZVsqt38, r1ZVsqt38, r2ZVsqt38, r3ZVsqt38, r4ZVsqt38, r5ZVsqt38, r6ZVsqt38, r7ZVsqt38, r8ZVsqt38, r9ZVsqt38, r10ZVsqt38, r11ZVsqt38, r12ZVsqt38, r13ZVsqt38, r14ZVsqt38, r15ZVsqt38, r16ZVsqt38, r17ZVsqt38, r18ZVsqt38, r19ZVsqt38, r20ZVsqt38, k0ZVsqt38, k1ZVsqt38, k2ZVsqt38, k3ZVsqt38, k4ZVsqt38⟩ := pbZVsqt38
    exact ⟨_, eqt38, Wqt38, F61, ⟨bf2qt38, bt2qt38, bd2qt38, bksqt38, bklqt38, bkwqt38, bnaqt38, blbqt38, bnwqt38, bvnqt38, h0ZVsqt38, h1ZVsqt38, h2ZVsqt38, h3ZVsqt38, h4ZVsqt38, h5ZVsqt38, h6ZVsqt38, h7ZVsqt38, h8ZVsqt38, h9ZVsqt38, h10ZVsqt38, tksqt38, tklqt38, tkwqt38, by (try dsimp only); omega, by (try dsimp only); omega, by (try dsimp only); omega, by (try dsimp only); omega, by (try dsimp only); omega, by (try dsimp only); omega, by (try dsimp only); omega, by (try dsimp only); omega, by (try dsimp only); omega, by (try dsimp only); omega, by (try dsimp only); omega, by (try dsimp only); omega, by (try dsimp only); omega, by (try dsimp only); omega, by (try dsimp only); omega, by (try dsimp only); omega, by (try dsimp only); omega, by (try dsimp only); omega, by (try dsimp only); omega, by (try dsimp only); omega, by (try dsimp only); omega, k0ZVsqt38, k1ZVsqt38, k2ZVsqt38, k3ZVsqt38, k4ZVsqt38⟩⟩
  · have := li_0
    have hq19 := i_ne hq19
    obtain ⟨qt73, eqt73, Wqt73, fqt73, pbZVsqt73⟩ := p_Mo_way_257 hn Wq29 (x1 := x1) (x2 := x2) (x4 := x4) (ni := ni) (bc := bc) (n0 := n0) t_x0 (by omega) (by omega) (by omega) (by omega) (by omega) (by omega) (by omega) (by omega) (by omega) (by omega) (by omega) (by omega) (by omega) (by omega) e3 h0ZSq29 h1ZSq29 e4 (by omega) ⟨bks0, bkl0, bkw0, bna0, blb0, bnw0, bvn0, e3, h0ZSq29, h1ZSq29, e4, e5, e6, e7, e8, e9, e10, e11, tks0, tkl0, tkw0, by (try dsimp only); omega, by (try dsimp only); omega, by (try dsimp only); omega, by (try dsimp only); omega, by (try dsimp only); omega, by (try dsimp only); omega, by (try dsimp only); omega, by (try dsimp only); omega, by (try dsimp only); omega, by (try dsimp only); omega, by (try dsimp only); omega, by (try dsimp only); omega, by (try dsimp only); omega, by (try dsimp only); omega, by (try dsimp only); omega, by (try dsimp only); omega, by (try dsimp only); omega, by (try dsimp only); omega, by (try dsimp only); omega, by (try dsimp only); omega, k12, k13, k15, k16, k17⟩
    have e89 := (Zfr.gi fqt73 t_x0 (by decide)).trans e3
    have e90 := (Zfr.gi fqt73 t_x0 (by decide)).trans e4
    have e91 := (Zfr.gr fqt73 t_x0 (by decide)).trans e5
    have e92 := (Zfr.gr fqt73 t_x0 (by decide)).trans e6
    have e93 := (Zfr.gr fqt73 t_x0 (by decide)).trans e7
    have e94 := (Zfr.ai fqt73 tkl0 (by decide)).trans e9
    have e95 := (Zfr.ai fqt73 tkw0 (by decide)).trans e10
    have F96 := Zfr.tr F18 fqt73 (by decide)
    obtain ⟨bf2qt73, bt2qt73, bd2qt73, bksqt73, bklqt73, bkwqt73, bnaqt73, blbqt73, bnwqt73, bvnqt73, h0ZVsqt73, h1ZVsqt73, h2ZVsqt73, h3ZVsqt73, h4ZVsqt73, h5ZVsqt73, h6ZVsqt73, h7ZVsqt73, h8ZVsqt73, h9ZVsqt73, h10ZVsqt73, tksqt73, tklqt73, tkwqt73, r0ZVsqt73, r1ZVsqt73, r2ZVsqt73, r3ZVsqt73, r4ZVsqt73, r5ZVsqt73, r6ZVsqt73, r7ZVsqt73, r8ZVsqt73, r9ZVsqt73, r10ZVsqt73, r11ZVsqt73, r12ZVsqt73, r13ZVsqt73, r14ZVsqt73, r15ZVsqt73, r16ZVsqt73, r17ZVsqt73, r18ZVsqt73, r19ZVsqt73, r20ZVsqt73, k0ZVsqt73, k1ZVsqt73, k2ZVsqt73, k3ZVsqt73, k4ZVsqt73⟩ := pbZVsqt73
    exact ⟨_, eqt73, Wqt73, F96, ⟨bf2qt73, bt2qt73, bd2qt73, bksqt73, bklqt73, bkwqt73, bnaqt73, blbqt73, bnwqt73, bvnqt73, h0ZVsqt73, h1ZVsqt73, h2ZVsqt73, h3ZVsqt73, h4ZVsqt73, h5ZVsqt73, h6ZVsqt73, h7ZVsqt73, h8ZVsqt73, h9ZVsqt73, h10ZVsqt73, tksqt73, tklqt73, tkwqt73, by (try dsimp only); omega, by (try dsimp only); omega, by (try dsimp only); omega, by (try dsimp only); omega, by (try dsimp only); omega, by (try dsimp only); omega, by (try dsimp only); omega, by (try dsimp only); omega, by (try dsimp only); omega, by (try dsimp only); omega, by (try dsimp only); omega, by (try dsimp only); omega, by (try dsimp only); omega, by (try dsimp only); omega, by (try dsimp only); omega, by (try dsimp only); omega, by (try dsimp only); omega, by (try dsimp only); omega, by (try dsimp only); omega, by (try dsimp only); omega, by (try dsimp only); omega, k0ZVsqt73, k1ZVsqt73, k2ZVsqt73, k3ZVsqt73, k4ZVsqt73⟩⟩

abbrev M_Mo_way_234 : List (Nat × Nat) := [(64, 18), (64, 19), (64, 20), (64, 53), (64, 57), (64, 65), (79, 0), (82, 0), (83, 0), (85, 0), (86, 0), (87, 0), (89, 0), (90, 0), (91, 0), (92, 0), (93, 0), (94, 0), (95, 0), (105, 0), (106, 0), (107, 0), (108, 0), (109, 0), (110, 0), (111, 0), (112, 0), (113, 0), (134, 0)]
set_option maxRecDepth 100000 in
set_option maxHeartbeats 400000 in
theorem p_Mo_way_234 {nf : Nat} (hn : 8589934592 ≤ nf) {G : List Nat} {c : Zc} (W : Zwt zty G c) {x0 : Nat} {x1 : Int32} {x2 : Int32} {x4 : Int32} {ni : Int32} {bc : Int32} {n0 : Int32} {pv : Int32} {fv : Int32} {tv : Int32} {dv : Int32} (t_x0 : G[x0]? = some 64) (pl_pv : 0 ≤ pv.toInt) (pu_pv : pv.toInt ≤ 8) (pl_fv : 0 ≤ fv.toInt) (pu_fv : fv.toInt ≤ 6) (pl_tv : 0 ≤ tv.toInt) (pu_tv : tv.toInt ≤ 200) (pl_dv : 0 ≤ dv.toInt) (pu_dv : dv.toInt ≤ 11) (pl_x1 : 0 ≤ x1.toInt) (pu_x1 : x1.toInt ≤ 7) (pl_x2 : 0 ≤ x2.toInt) (pu_x2 : x2.toInt ≤ 1) (pl_x4 : 0 ≤ x4.toInt) (pu_x4 : x4.toInt ≤ 98) (eh_pv : zgi c x0 12 25 = some pv) (eh_fv : zgi c x0 12 19 = some fv) (eh_tv : zgi c x0 12 18 = some tv) (eh_dv : zgi c x0 12 53 = some dv) (pp_7 : x4.toInt = 11 * pv.toInt + n0.toInt) (hb_ZVm : ZVm G c x0 pv fv tv dv ni bc n0) : ∃ q, f_Mo_way_234 nf x0 x1 x2 x4 c = some q ∧ Zwt zty G q.2 ∧ Zfr G M_Mo_way_234 c q.2 ∧ ZVs G q.2 x0 pv fv tv dv ni bc q.1 := by
  have F0 : Zfr G M_Mo_way_234 c c := Zfr.rf
  unfold f_Mo_way_234
  obtain ⟨bks0, bkl0, bkw0, bna0, blb0, bnw0, bvn0, h0ZVm0, h1ZVm0, h2ZVm0, h3ZVm0, h4ZVm0, h5ZVm0, h6ZVm0, h7ZVm0, h8ZVm0, h9ZVm0, h10ZVm0, tks0, tkl0, tkw0, r0ZVm0, r1ZVm0, r2ZVm0, r3ZVm0, r4ZVm0, r5ZVm0, r6ZVm0, r7ZVm0, r8ZVm0, r9ZVm0, r10ZVm0, r11ZVm0, r12ZVm0, r13ZVm0, r14ZVm0, r15ZVm0, r16ZVm0, r17ZVm0, r18ZVm0, r19ZVm0, k0ZVm0, k1ZVm0, k2ZVm0, k3ZVm0, k4ZVm0⟩ := hb_ZVm
  obtain ⟨w69, ew69⟩ := go_64 W t_x0
  refine wb ew69 ?_
  obtain ⟨q68, eq68, Wq68, fq68, pbZSq68⟩ := p_Mo_pass hn W  t_x0 (by omega) (by omega) (by omega) (by omega) h1ZVm0 h2ZVm0
  refine wb eq68 ?_
  have e3 := (Zfr.gi fq68 t_x0 (by decide)).trans h0ZVm0
  have e4 := (Zfr.gi fq68 t_x0 (by decide)).trans h3ZVm0
  have e5 := (Zfr.gr fq68 t_x0 (by decide)).trans h4ZVm0
  have e6 := (Zfr.gr fq68 t_x0 (by decide)).trans h5ZVm0
  have e7 := (Zfr.gr fq68 t_x0 (by decide)).trans h6ZVm0
  have e8 := (Zfr.ai fq68 tks0 (by decide)).trans h7ZVm0
  have e9 := (Zfr.ai fq68 tkl0 (by decide)).trans h8ZVm0
  have e10 := (Zfr.ai fq68 tkw0 (by decide)).trans h9ZVm0
  have e11 := (Zfr.gi fq68 t_x0 (by decide)).trans h10ZVm0
  have k12 := GtP_fr k0ZVm0 fq68 t_x0 W (by decide)
  have := li_1
  have sc14 : Sc c q68 x0 (1) (0) := by
    obtain ⟨yf2, yt2, z0y, z1y, x0y, x1y, x2y, x3y, x4y, x5y⟩ := pbZSq68
    exact Sc_mk h1ZVm0 z0y h2ZVm0 z1y h3ZVm0 ((Zfr.gi (ci := 12) fq68 t_x0 (by decide)).trans h3ZVm0) (by omega)
  have k13 := WyN_fr k1ZVm0 fq68 t_x0 W (by decide) sc14
  have k15 := TbI_fr k2ZVm0 fq68 t_x0 W (by decide) sc14
  have k16 := TbC_fr k3ZVm0 fq68 t_x0 W (by decide) sc14
  have k17 := TkN_fr k4ZVm0 fq68 t_x0 W (by decide)
  have F18 := Zfr.tr F0 fq68 (by decide)
  obtain ⟨bf2q68, bt2q68, h0ZSq68, h1ZSq68, r0ZSq68, r1ZSq68, r2ZSq68, r3ZSq68, r4ZSq68, r5ZSq68⟩ := pbZSq68
  obtain ⟨qt19, eqt19, Wqt19, fqt19, pbZVsqt19⟩ := p_Mo_way_238 hn Wq68 (x1 := x1) (x2 := x2) (x4 := x4) (ni := ni) (bc := bc) (n0 := n0) t_x0 (by omega) (by omega) (by omega) (by omega) (by omega) (by omega) (by omega) (by omega) (by omega) (by omega) (by omega) (by omega) (by omega) (by omega) e3 h0ZSq68 h1ZSq68 e4 (by omega) ⟨bks0, bkl0, bkw0, bna0, blb0, bnw0, bvn0, e3, h0ZSq68, h1ZSq68, e4, e5, e6, e7, e8, e9, e10, e11, tks0, tkl0, tkw0, by (try dsimp only); omega, by (try dsimp only); omega, by (try dsimp only); omega, by (try dsimp only); omega, by (try dsimp only); omega, by (try dsimp only); omega, by (try dsimp only); omega, by (try dsimp only); omega, by (try dsimp only); omega, by (try dsimp only); omega, by (try dsimp only); omega, by (try dsimp only); omega, by (try dsimp only); omega, by (try dsimp only); omega, by (try dsimp only); omega, by (try dsimp only); omega, by (try dsimp only); omega, by (try dsimp only); omega, by (try dsimp only); omega, by (try dsimp only); omega, k12, k13, k15, k16, k17⟩
  have e35 := (Zfr.gi fqt19 t_x0 (by decide)).trans e3
  have e36 := (Zfr.gr fqt19 t_x0 (by decide)).trans e5
  have e37 := (Zfr.gr fqt19 t_x0 (by decide)).trans e6
  have e38 := (Zfr.gr fqt19 t_x0 (by decide)).trans e7
  have e39 := (Zfr.ai fqt19 tkl0 (by decide)).trans e9
  have e40 := (Zfr.ai fqt19 tkw0 (by decide)).trans e10
  have F41 := Zfr.tr F18 fqt19 (by decide)
  obtain ⟨bf2qt19, bt2qt19, bd2qt19, bksqt19, bklqt19, bkwqt19, bnaqt19, blbqt19, bnwqt19, bvnqt19, h0ZVsqt19, h1ZVsqt19, h2ZVsqt19, h3ZVsqt19, h4ZVsqt19, h5ZVsqt19, h6ZVsqt19, h7ZVsqt19, h8ZVsqt19, h9ZVsqt19, h10ZVsqt19, tksqt19, tklqt19, tkwqt19, r0ZVsqt19, r1ZVsqt19, r2ZVsqt19, r3ZVsqt19, r4ZVsqt19, r5ZVsqt19, r6ZVsqt19, r7ZVsqt19, r8ZVsqt19, r9ZVsqt19, r10ZVsqt19, r11ZVsqt19, r12ZVsqt19, r13ZVsqt19, r14ZVsqt19, r15ZVsqt19, r16ZVsqt19, r17ZVsqt19, r18ZVsqt19, r19ZVsqt19, r20ZVsqt19, k0ZVsqt19, k1ZVsqt19, k2ZVsqt19, k3ZVsqt19, k4ZVsqt19⟩ := pbZVsqt19
  exact ⟨_, eqt19, Wqt19, F41, ⟨bf2qt19, bt2qt19, bd2qt19, bksqt19, bklqt19, bkwqt19, bnaqt19, blbqt19, bnwqt19, bvnqt19, h0ZVsqt19, h1ZVsqt19, h2ZVsqt19, h3ZVsqt19, h4ZVsqt19, h5ZVsqt19, h6ZVsqt19, h7ZVsqt19, h8ZVsqt19, h9ZVsqt19, h10ZVsqt19, tksqt19, tklqt19, tkwqt19, by (try dsimp only); omega, by (try dsimp only); omega, by (try dsimp only); omega, by (try dsimp only); omega, by (try dsimp only); omega, by (try dsimp only); omega, by (try dsimp only); omega, by (try dsimp only); omega, by (try dsimp only); omega, by (try dsimp only); omega, by (try dsimp only); omega, by (try dsimp only); omega, by (try dsimp only); omega, by (try dsimp only); omega, by (try dsimp only); omega, by (try dsimp only); omega, by (try dsimp only); omega, by (try dsimp only); omega, by (try dsimp only); omega, by (try dsimp only); omega, by (try dsimp only); omega, k0ZVsqt19, k1ZVsqt19, k2ZVsqt19, k3ZVsqt19, k4ZVsqt19⟩⟩

abbrev M_Mo_way_164 : List (Nat × Nat) := [(64, 18), (64, 19), (64, 20), (64, 53), (64, 57), (64, 65), (79, 0), (80, 0), (82, 0), (83, 0), (85, 0), (86, 0), (87, 0), (88, 0), (89, 0), (90, 0), (91, 0), (92, 0), (93, 0), (94, 0), (95, 0), (105, 0), (106, 0), (107, 0), (108, 0), (109, 0), (110, 0), (111, 0), (112, 0), (113, 0), (134, 0)]
set_option maxRecDepth 100000 in
set_option maxHeartbeats 400000 in
theorem p_Mo_way_164 {nf : Nat} (hn : 8589934592 ≤ nf) {G : List Nat} {c : Zc} (W : Zwt zty G c) {x0 : Nat} {x1 : Int32} {x2 : Int32} {x4 : Int32} {x5 : Int32} {ni : Int32} {bc : Int32} {n0 : Int32} {pv : Int32} {fv : Int32} {tv : Int32} {dv : Int32} (t_x0 : G[x0]? = some 64) (pl_pv : 0 ≤ pv.toInt) (pu_pv : pv.toInt ≤ 8) (pl_fv : 0 ≤ fv.toInt) (pu_fv : fv.toInt ≤ 6) (pl_tv : 0 ≤ tv.toInt) (pu_tv : tv.toInt ≤ 200) (pl_dv : 0 ≤ dv.toInt) (pu_dv : dv.toInt ≤ 11) (pl_x1 : 0 ≤ x1.toInt) (pu_x1 : x1.toInt ≤ 7) (pl_x2 : 0 ≤ x2.toInt) (pu_x2 : x2.toInt ≤ 1) (pl_x4 : 0 ≤ x4.toInt) (pu_x4 : x4.toInt ≤ 98) (pl_x5 : 0 ≤ x5.toInt) (pu_x5 : x5.toInt ≤ 65) (eh_pv : zgi c x0 12 25 = some pv) (eh_fv : zgi c x0 12 19 = some fv) (eh_tv : zgi c x0 12 18 = some tv) (eh_dv : zgi c x0 12 53 = some dv) (pp_7 : x4.toInt = 11 * pv.toInt + n0.toInt) (hb_ZVm : ZVm G c x0 pv fv tv dv ni bc n0) : ∃ q, f_Mo_way_164 nf x0 x1 x2 x4 x5 c = some q ∧ Zwt zty G q.2 ∧ Zfr G M_Mo_way_164 c q.2 ∧ ZVs G q.2 x0 pv fv tv dv ni bc q.1 := by
  have F0 : Zfr G M_Mo_way_164 c c := Zfr.rf
  unfold f_Mo_way_164
  obtain ⟨bks0, bkl0, bkw0, bna0, blb0, bnw0, bvn0, h0ZVm0, h1ZVm0, h2ZVm0, h3ZVm0, h4ZVm0, h5ZVm0, h6ZVm0, h7ZVm0, h8ZVm0, h9ZVm0, h10ZVm0, tks0, tkl0, tkw0, r0ZVm0, r1ZVm0, r2ZVm0, r3ZVm0, r4ZVm0, r5ZVm0, r6ZVm0, r7ZVm0, r8ZVm0, r9ZVm0, r10ZVm0, r11ZVm0, r12ZVm0, r13ZVm0, r14ZVm0, r15ZVm0, r16ZVm0, r17ZVm0, r18ZVm0, r19ZVm0, k0ZVm0, k1ZVm0, k2ZVm0, k3ZVm0, k4ZVm0⟩ := hb_ZVm
  refine wb h1ZVm0 ?_
  refine wi (fun hq1 => ?_) (fun hq1 => ?_)
  · have := li_0
    have hq1 := i_eq hq1
    obtain ⟨v70, ev70, tv70⟩ := gf_64_16 W t_x0
    refine wb ev70 ?_
    refine wb h2ZVm0 ?_
    obtain ⟨v72, ev72, _⟩ := ga_76 W tv70 (i := tv) (by omega) (by omega)
    refine wb ev72 ?_
    obtain ⟨w74, ew74⟩ := go_64 W t_x0
    refine wb ew74 ?_
    obtain ⟨q73, eq73, Wq73, fq73, pl0q73, pu0q73, pbZomq73⟩ := p_Mo_oneMore hn W (a1 := v72) t_x0 (by omega) (by omega) (by omega) (by omega) h1ZVm0 h10ZVm0
    refine wb eq73 ?_
    have e4 := (Zfr.gi fq73 t_x0 (by decide)).trans h0ZVm0
    have e5 := (Zfr.gi fq73 t_x0 (by decide)).trans h2ZVm0
    have e6 := (Zfr.gi fq73 t_x0 (by decide)).trans h3ZVm0
    have e7 := (Zfr.gr fq73 t_x0 (by decide)).trans h4ZVm0
    have e8 := (Zfr.gr fq73 t_x0 (by decide)).trans h5ZVm0
    have e9 := (Zfr.gr fq73 t_x0 (by decide)).trans h6ZVm0
    have e10 := (Zfr.ai fq73 tks0 (by decide)).trans h7ZVm0
    have e11 := (Zfr.ai fq73 tkl0 (by decide)).trans h8ZVm0
    have e12 := (Zfr.ai fq73 tkw0 (by decide)).trans h9ZVm0
    have e13 := (Zfr.ai fq73 tv70 (by decide)).trans ev72
    have k14 := GtP_fr k0ZVm0 fq73 t_x0 W (by decide)
    have sc16 : Sc c q73.2 x0 (0) (0) := by
      obtain ⟨yf2, yv2, z0y, z1y, x0y, x1y, x2y, x3y, x4y, x5y, x6y⟩ := pbZomq73
      exact Sc_mk h1ZVm0 z0y h2ZVm0 ((Zfr.gi (ci := 12) fq73 t_x0 (by decide)).trans h2ZVm0) h3ZVm0 ((Zfr.gi (ci := 12) fq73 t_x0 (by decide)).trans h3ZVm0) (by omega)
    have k15 := WyN_fr k1ZVm0 fq73 t_x0 W (by decide) sc16
    have k17 := TbI_fr k2ZVm0 fq73 t_x0 W (by decide) sc16
    have k18 := TbC_fr k3ZVm0 fq73 t_x0 W (by decide) sc16
    have k19 := TkN_fr k4ZVm0 fq73 t_x0 W (by decide)
    have F20 := Zfr.tr F0 fq73 (by decide)
    obtain ⟨bf2q73, bv2q73, h0Zomq73, h1Zomq73, r0Zomq73, r1Zomq73, r2Zomq73, r3Zomq73, r4Zomq73, r5Zomq73, r6Zomq73⟩ := pbZomq73
    refine wi (fun hq21 => ?_) (fun hq21 => ?_)
    · have hq21 := i_eq hq21
      obtain ⟨qt22, eqt22, Wqt22, fqt22, pbZVsqt22⟩ := p_Mo_way_234 hn Wq73 (x1 := x1) (x2 := x2) (x4 := x4) (ni := ni) (bc := bc) (n0 := n0) t_x0 (by omega) (by omega) (by omega) (by omega) (by omega) (by omega) (by omega) (by omega) (by omega) (by omega) (by omega) (by omega) (by omega) (by omega) e4 h0Zomq73 e5 e6 (by omega) ⟨bks0, bkl0, bkw0, bna0, blb0, bnw0, bv2q73, e4, h0Zomq73, e5, e6, e7, e8, e9, e10, e11, e12, h1Zomq73, tks0, tkl0, tkw0, by (try dsimp only); omega, by (try dsimp only); omega, by (try dsimp only); omega, by (try dsimp only); omega, by (try dsimp only); omega, by (try dsimp only); omega, by (try dsimp only); omega, by (try dsimp only); omega, by (try dsimp only); omega, by (try dsimp only); omega, by (try dsimp only); omega, by (try dsimp only); omega, by (try dsimp only); omega, by (try dsimp only); omega, by (try dsimp only); omega, by (try dsimp only); omega, by (try dsimp only); omega, by (try dsimp only); omega, by (try dsimp only); omega, by (try dsimp only); omega, k14, k15, k17, k18, k19⟩
      have e38 := (Zfr.gi fqt22 t_x0 (by decide)).trans e4
      have e39 := (Zfr.gr fqt22 t_x0 (by decide)).trans e7
      have e40 := (Zfr.gr fqt22 t_x0 (by decide)).trans e8
      have e41 := (Zfr.gr fqt22 t_x0 (by decide)).trans e9
      have e42 := (Zfr.ai fqt22 tkl0 (by decide)).trans e11
      have e43 := (Zfr.ai fqt22 tkw0 (by decide)).trans e12
      have e44 := (Zfr.ai fqt22 tv70 (by decide)).trans e13
      have F45 := Zfr.tr F20 fqt22 (by decide)
      obtain ⟨bf2qt22, bt2qt22, bd2qt22, bksqt22, bklqt22, bkwqt22, bnaqt22, blbqt22, bnwqt22, bvnqt22, h0ZVsqt22, h1ZVsqt22, h2ZVsqt22, h3ZVsqt22, h4ZVsqt22, h5ZVsqt22, h6ZVsqt22, h7ZVsqt22, h8ZVsqt22, h9ZVsqt22, h10ZVsqt22, tksqt22, tklqt22, tkwqt22, r0ZVsqt22, r1ZVsqt22, r2ZVsqt22, r3ZVsqt22, r4ZVsqt22, r5ZVsqt22, r6ZVsqt22, r7ZVsqt22, r8ZVsqt22, r9ZVsqt22, r10ZVsqt22, r11ZVsqt22, r12ZVsqt22, r13ZVsqt22, r14ZVsqt22, r15ZVsqt22, r16ZVsqt22, r17ZVsqt22, r18ZVsqt22, r19ZVsqt22, r20ZVsqt22, k0ZVsqt22, k1ZVsqt22, k2ZVsqt22, k3ZVsqt22, k4ZVsqt22⟩ := pbZVsqt22
      exact ⟨_, eqt22, Wqt22, F45, ⟨bf2qt22, bt2qt22, bd2qt22, bksqt22, bklqt22, bkwqt22, bnaqt22, blbqt22, bnwqt22, bvnqt22, h0ZVsqt22, h1ZVsqt22, h2ZVsqt22, h3ZVsqt22, h4ZVsqt22, h5ZVsqt22, h6ZVsqt22, h7ZVsqt22, h8ZVsqt22, h9ZVsqt22, h10ZVsqt22, tksqt22, tklqt22, tkwqt22, by (try dsimp only); omega, by (try dsimp only); omega, by (try dsimp only); omega, by (try dsimp only); omega, by (try dsimp only); omega, by (try dsimp only); omega, by (try dsimp only); omega, by (try dsimp only); omega, by (try dsimp only); omega, by (try dsimp only); omega, by (try dsimp only); omega, by (try dsimp only); omega, by (try dsimp only); omega, by (try dsimp only); omega, by (try dsimp only); omega, by (try dsimp only); omega, by (try dsimp only); omega, by (try dsimp only); omega, by (try dsimp only); omega, by (try dsimp only); omega, by (try dsimp only); omega, k0ZVsqt22, k1ZVsqt22, k2ZVsqt22, k3ZVsqt22, k4ZVsqt22⟩⟩
    · have hq21 := i_ne hq21
      obtain ⟨v76, ev76, tv76⟩ := gf_64_35 Wq73 t_x0
      refine wb ev76 ?_
      refine wb e8 ?_
      refine wb e4 ?_
      refine wb e11 ?_
      obtain ⟨c80, ec80, Wc80, fc80, gc80⟩ := pa_88 Wq73 tv76 (i := x4) (by omega) (by omega) (x := blb0) (rgi (by omega) (by omega))
      refine wb ec80 ?_
      have e57 := (Zfr.gi fc80 t_x0 (by decide)).trans e4
      have e58 := (Zfr.gi fc80 t_x0 (by decide)).trans e5
      have e59 := (Zfr.gi fc80 t_x0 (by decide)).trans e6
      have e60 := (Zfr.gr fc80 t_x0 (by decide)).trans e7
      have e61 := (Zfr.gr fc80 t_x0 (by decide)).trans e8
      have e62 := (Zfr.gr fc80 t_x0 (by decide)).trans e9
      have e63 := (Zfr.ai fc80 tks0 (by decide)).trans e10
      have e64 := (Zfr.ai fc80 tkl0 (by decide)).trans e11
      have e65 := (Zfr.ai fc80 tkw0 (by decide)).trans e12
      have e66 := (Zfr.ai fc80 tv70 (by decide)).trans e13
      have e67 := (Zfr.gi fc80 t_x0 (by decide)).trans h0Zomq73
      have e68 := (Zfr.gi fc80 t_x0 (by decide)).trans h1Zomq73
      have k69 := GtP_fr k14 fc80 t_x0 Wq73 (by decide)
      have sc71 := Sc_fr fc80 t_x0 (by decide) (by decide) (by decide)
      have k70 := WyN_fr k15 fc80 t_x0 Wq73 (by decide) sc71
      have k72 := TbI_fr k17 fc80 t_x0 Wq73 (by decide) sc71
      have k73 := TbC_fr k18 fc80 t_x0 Wq73 (by decide) sc71
      have k74 := TkN_fr k19 fc80 t_x0 Wq73 (by decide)
      have F75 := Zfr.tr F20 fc80 (by decide)
      refine wb e61 ?_
      refine wb e57 ?_
      refine wb e64 ?_
      obtain ⟨w85, ew85⟩ := go_64 Wc80 t_x0
      refine wb ew85 ?_
      have := li_100
      have := i_add (a := 100) (b := blb0) (by omega) (by omega)
      obtain ⟨q84, eq84, Wq84, fq84⟩ := p_Mo_learn hn Wc80 (a1 := x5) (a2 := (100 + blb0)) t_x0 (by omega) (by omega) (by omega) (by omega) (by omega)
      refine wb eq84 ?_
      have e76 := (Zfr.gi fq84 t_x0 (by decide)).trans e57
      have e77 := (Zfr.gi fq84 t_x0 (by decide)).trans e58
      have e78 := (Zfr.gi fq84 t_x0 (by decide)).trans e59
      have e79 := (Zfr.gr fq84 t_x0 (by decide)).trans e60
      have e80 := (Zfr.gr fq84 t_x0 (by decide)).trans e61
      have e81 := (Zfr.gr fq84 t_x0 (by decide)).trans e62
      have e82 := (Zfr.ai fq84 tks0 (by decide)).trans e63
      have e83 := (Zfr.ai fq84 tkl0 (by decide)).trans e64
      have e84 := (Zfr.ai fq84 tkw0 (by decide)).trans e65
      have e85 := (Zfr.ai fq84 tv70 (by decide)).trans e66
      have e86 := (Zfr.gi fq84 t_x0 (by decide)).trans e67
      have e87 := (Zfr.gi fq84 t_x0 (by decide)).trans e68
      have e88 := (Zfr.ai fq84 tv76 (by decide)).trans gc80
      have k89 := GtP_fr k69 fq84 t_x0 Wc80 (by decide)
      have sc91 := Sc_fr fq84 t_x0 (by decide) (by decide) (by decide)
      have k90 := WyN_fr k70 fq84 t_x0 Wc80 (by decide) sc91
      have k92 := TbI_fr k72 fq84 t_x0 Wc80 (by decide) sc91
      have k93 := TbC_fr k73 fq84 t_x0 Wc80 (by decide) sc91
      have k94 := TkN_fr k74 fq84 t_x0 Wc80 (by decide)
      have F95 := Zfr.tr F75 fq84 (by decide)
      refine wb e80 ?_
      refine wb e76 ?_
      refine wb e83 ?_
      have := li_1
      have := i_add (a := blb0) (b := 1) (by omega) (by omega)
      obtain ⟨c89, ec89, Wc89, fc89, gc89⟩ := pa_80 Wq84 tkl0 (i := pv) (by omega) (by omega) (x := (blb0 + 1)) (rgi (by omega) (by omega))
      refine wb ec89 ?_
      have e96 := (Zfr.gi fc89 t_x0 (by decide)).trans e76
      have e97 := (Zfr.gi fc89 t_x0 (by decide)).trans e77
      have e98 := (Zfr.gi fc89 t_x0 (by decide)).trans e78
      have e99 := (Zfr.gr fc89 t_x0 (by decide)).trans e79
      have e100 := (Zfr.gr fc89 t_x0 (by decide)).trans e80
      have e101 := (Zfr.gr fc89 t_x0 (by decide)).trans e81
      have e102 := (Zfr.ai fc89 tks0 (by decide)).trans e82
      have e103 := (Zfr.ai fc89 tkw0 (by decide)).trans e84
      have e104 := (Zfr.ai fc89 tv70 (by decide)).trans e85
      have e105 := (Zfr.gi fc89 t_x0 (by decide)).trans e86
      have e106 := (Zfr.gi fc89 t_x0 (by decide)).trans e87
      have e107 := (Zfr.ai fc89 tv76 (by decide)).trans e88
      have k108 := GtP_fr k89 fc89 t_x0 Wq84 (by decide)
      have sc110 := Sc_fr fc89 t_x0 (by decide) (by decide) (by decide)
      have k109 := WyN_fr k90 fc89 t_x0 Wq84 (by decide) sc110
      have k111 := TbI_fr k92 fc89 t_x0 Wq84 (by decide) sc110
      have k112 := TbC_fr k93 fc89 t_x0 Wq84 (by decide) sc110
      have k113 := TkN_fr k94 fc89 t_x0 Wq84 (by decide)
      have F114 := Zfr.tr F95 fc89 (by decide)
      obtain ⟨qt115, eqt115, Wqt115, fqt115, pbZVsqt115⟩ := p_Mo_way_234 hn Wc89 (x1 := x1) (x2 := x2) (x4 := x4) (ni := ni) (bc := bc) (n0 := n0) t_x0 (by omega) (by omega) (by omega) (by omega) (by omega) (by omega) (by omega) (by omega) (by omega) (by omega) (by omega) (by omega) (by omega) (by omega) e96 e105 e97 e98 (by omega) ⟨bks0, bkl0, bkw0, bna0, (blb0 + 1), bnw0, bv2q73, e96, e105, e97, e98, e99, e100, e101, e102, gc89, e103, e106, tks0, tkl0, tkw0, by (try dsimp only); omega, by (try dsimp only); omega, by (try dsimp only); omega, by (try dsimp only); omega, by (try dsimp only); omega, by (try dsimp only); omega, by (try dsimp only); omega, by (try dsimp only); omega, by (try dsimp only); omega, by (try dsimp only); omega, by (try dsimp only); omega, by (try dsimp only); omega, by (try dsimp only); omega, by (try dsimp only); omega, by (try dsimp only); omega, by (try dsimp only); omega, by (try dsimp only); omega, by (try dsimp only); omega, by (try dsimp only); omega, by (try dsimp only); omega, k108, k109, k111, k112, k113⟩
      have e131 := (Zfr.gi fqt115 t_x0 (by decide)).trans e96
      have e132 := (Zfr.gr fqt115 t_x0 (by decide)).trans e99
      have e133 := (Zfr.gr fqt115 t_x0 (by decide)).trans e100
      have e134 := (Zfr.gr fqt115 t_x0 (by decide)).trans e101
      have e135 := (Zfr.ai fqt115 tkw0 (by decide)).trans e103
      have e136 := (Zfr.ai fqt115 tv70 (by decide)).trans e104
      have e137 := (Zfr.ai fqt115 tv76 (by decide)).trans e107
      have e138 := (Zfr.ai fqt115 tkl0 (by decide)).trans gc89
      have F139 := Zfr.tr F114 fqt115 (by decide)
      obtain ⟨bf2qt115, bt2qt115, bd2qt115, bksqt115, bklqt115, bkwqt115, bnaqt115, blbqt115, bnwqt115, bvnqt115, h0ZVsqt115, h1ZVsqt115, h2ZVsqt115, h3ZVsqt115, h4ZVsqt115, h5ZVsqt115, h6ZVsqt115, h7ZVsqt115, h8ZVsqt115, h9ZVsqt115, h10ZVsqt115, tksqt115, tklqt115, tkwqt115, r0ZVsqt115, r1ZVsqt115, r2ZVsqt115, r3ZVsqt115, r4ZVsqt115, r5ZVsqt115, r6ZVsqt115, r7ZVsqt115, r8ZVsqt115, r9ZVsqt115, r10ZVsqt115, r11ZVsqt115, r12ZVsqt115, r13ZVsqt115, r14ZVsqt115, r15ZVsqt115, r16ZVsqt115, r17ZVsqt115, r18ZVsqt115, r19ZVsqt115, r20ZVsqt115, k0ZVsqt115, k1ZVsqt115, k2ZVsqt115, k3ZVsqt115, k4ZVsqt115⟩ := pbZVsqt115
      exact ⟨_, eqt115, Wqt115, F139, ⟨bf2qt115, bt2qt115, bd2qt115, bksqt115, bklqt115, bkwqt115, bnaqt115, blbqt115, bnwqt115, bvnqt115, h0ZVsqt115, h1ZVsqt115, h2ZVsqt115, h3ZVsqt115, h4ZVsqt115, h5ZVsqt115, h6ZVsqt115, h7ZVsqt115, h8ZVsqt115, h9ZVsqt115, h10ZVsqt115, tksqt115, tklqt115, tkwqt115, by (try dsimp only); omega, by (try dsimp only); omega, by (try dsimp only); omega, by (try dsimp only); omega, by (try dsimp only); omega, by (try dsimp only); omega, by (try dsimp only); omega, by (try dsimp only); omega, by (try dsimp only); omega, by (try dsimp only); omega, by (try dsimp only); omega, by (try dsimp only); omega, by (try dsimp only); omega, by (try dsimp only); omega, by (try dsimp only); omega, by (try dsimp only); omega, by (try dsimp only); omega, by (try dsimp only); omega, by (try dsimp only); omega, by (try dsimp only); omega, by (try dsimp only); omega, k0ZVsqt115, k1ZVsqt115, k2ZVsqt115, k3ZVsqt115, k4ZVsqt115⟩⟩
  · have := li_0
    have hq1 := i_ne hq1
    obtain ⟨qt151, eqt151, Wqt151, fqt151, pbZVsqt151⟩ := p_Mo_way_234 hn W (x1 := x1) (x2 := x2) (x4 := x4) (ni := ni) (bc := bc) (n0 := n0) t_x0 (by omega) (by omega) (by omega) (by omega) (by omega) (by omega) (by omega) (by omega) (by omega) (by omega) (by omega) (by omega) (by omega) (by omega) h0ZVm0 h1ZVm0 h2ZVm0 h3ZVm0 (by omega) ⟨bks0, bkl0, bkw0, bna0, blb0, bnw0, bvn0, h0ZVm0, h1ZVm0, h2ZVm0, h3ZVm0, h4ZVm0, h5ZVm0, h6ZVm0, h7ZVm0, h8ZVm0, h9ZVm0, h10ZVm0, tks0, tkl0, tkw0, by (try dsimp only); omega, by (try dsimp only); omega, by (try dsimp only); omega, by (try dsimp only); omega, by (try dsimp only); omega, by (try dsimp only); omega, by (try dsimp only); omega, by (try dsimp only); omega, by (try dsimp only); omega, by (try dsimp only); omega, by (try dsimp only); omega, by (try dsimp only); omega, by (try dsimp only); omega, by (try dsimp only); omega, by (try dsimp only); omega, by (try dsimp only); omega, by (try dsimp only); omega, by (try dsimp only); omega, by (try dsimp only); omega, by (try dsimp only); omega, k0ZVm0, k1ZVm0, k2ZVm0, k3ZVm0, k4ZVm0⟩
    have e167 := (Zfr.gi fqt151 t_x0 (by decide)).trans h0ZVm0
    have e168 := (Zfr.gr fqt151 t_x0 (by decide)).trans h4ZVm0
    have e169 := (Zfr.gr fqt151 t_x0 (by decide)).trans h5ZVm0
    have e170 := (Zfr.gr fqt151 t_x0 (by decide)).trans h6ZVm0
    have e171 := (Zfr.ai fqt151 tkl0 (by decide)).trans h8ZVm0
    have e172 := (Zfr.ai fqt151 tkw0 (by decide)).trans h9ZVm0
    have F173 := Zfr.tr F0 fqt151 (by decide)
    obtain ⟨bf2qt151, bt2qt151, bd2qt151, bksqt151, bklqt151, bkwqt151, bnaqt151, blbqt151, bnwqt151, bvnqt151, h0ZVsqt151, h1ZVsqt151, h2ZVsqt151, h3ZVsqt151, h4ZVsqt151, h5ZVsqt151, h6ZVsqt151, h7ZVsqt151, h8ZVsqt151, h9ZVsqt151, h10ZVsqt151, tksqt151, tklqt151, tkwqt151, r0ZVsqt151, r1ZVsqt151, r2ZVsqt151, r3ZVsqt151, r4ZVsqt151, r5ZVsqt151, r6ZVsqt151, r7ZVsqt151, r8ZVsqt151, r9ZVsqt151, r10ZVsqt151, r11ZVsqt151, r12ZVsqt151, r13ZVsqt151, r14ZVsqt151, r15ZVsqt151, r16ZVsqt151, r17ZVsqt151, r18ZVsqt151, r19ZVsqt151, r20ZVsqt151, k0ZVsqt151, k1ZVsqt151, k2ZVsqt151, k3ZVsqt151, k4ZVsqt151⟩ := pbZVsqt151
    exact ⟨_, eqt151, Wqt151, F173, ⟨bf2qt151, bt2qt151, bd2qt151, bksqt151, bklqt151, bkwqt151, bnaqt151, blbqt151, bnwqt151, bvnqt151, h0ZVsqt151, h1ZVsqt151, h2ZVsqt151, h3ZVsqt151, h4ZVsqt151, h5ZVsqt151, h6ZVsqt151, h7ZVsqt151, h8ZVsqt151, h9ZVsqt151, h10ZVsqt151, tksqt151, tklqt151, tkwqt151, by (try dsimp only); omega, by (try dsimp only); omega, by (try dsimp only); omega, by (try dsimp only); omega, by (try dsimp only); omega, by (try dsimp only); omega, by (try dsimp only); omega, by (try dsimp only); omega, by (try dsimp only); omega, by (try dsimp only); omega, by (try dsimp only); omega, by (try dsimp only); omega, by (try dsimp only); omega, by (try dsimp only); omega, by (try dsimp only); omega, by (try dsimp only); omega, by (try dsimp only); omega, by (try dsimp only); omega, by (try dsimp only); omega, by (try dsimp only); omega, by (try dsimp only); omega, k0ZVsqt151, k1ZVsqt151, k2ZVsqt151, k3ZVsqt151, k4ZVsqt151⟩⟩

abbrev M_Mo_way_20 : List (Nat × Nat) := [(64, 18), (64, 19), (64, 20), (64, 53), (64, 57), (64, 65), (79, 0), (80, 0), (82, 0), (83, 0), (84, 0), (85, 0), (86, 0), (87, 0), (88, 0), (89, 0), (90, 0), (91, 0), (92, 0), (93, 0), (94, 0), (95, 0), (105, 0), (106, 0), (107, 0), (108, 0), (109, 0), (110, 0), (111, 0), (112, 0), (113, 0), (134, 0)]
set_option maxRecDepth 100000 in
set_option maxHeartbeats 400000 in
theorem p_Mo_way_20 {nf : Nat} (hn : 8589934592 ≤ nf) {G : List Nat} {c : Zc} (W : Zwt zty G c) {x0 : Nat} {x1 : Int32} {s0 : Int32} {ni : Int32} {bc : Int32} {pv : Int32} {fv : Int32} {tv : Int32} {dv : Int32} (t_x0 : G[x0]? = some 64) (pl_pv : 0 ≤ pv.toInt) (pu_pv : pv.toInt ≤ 8) (pl_fv : 0 ≤ fv.toInt) (pu_fv : fv.toInt ≤ 0) (pl_tv : 0 ≤ tv.toInt) (pu_tv : tv.toInt ≤ 200) (pl_dv : 0 ≤ dv.toInt) (pu_dv : dv.toInt ≤ 11) (pl_x1 : 0 ≤ x1.toInt) (pu_x1 : x1.toInt ≤ 7) (pl_s0 : 0 ≤ s0.toInt) (pu_s0 : s0.toInt ≤ 1) (eh_pv : zgi c x0 12 25 = some pv) (eh_fv : zgi c x0 12 19 = some fv) (eh_tv : zgi c x0 12 18 = some tv) (eh_dv : zgi c x0 12 53 = some dv) (hb_ZV : ZV G c x0 pv fv tv dv ni bc) : ∃ q, f_Mo_way_20 nf x0 x1 s0 c = some q ∧ Zwt zty G q.2 ∧ Zfr G M_Mo_way_20 c q.2 ∧ ZVn G q.2 x0 pv fv tv dv ni bc 1 q.1 := by
  have F0 : Zfr G M_Mo_way_20 c c := Zfr.rf
  unfold f_Mo_way_20
  obtain ⟨bks0, bkl0, bkw0, bna0, blb0, bnw0, bvn0, h0ZV0, h1ZV0, h2ZV0, h3ZV0, h4ZV0, h5ZV0, h6ZV0, h7ZV0, h8ZV0, h9ZV0, h10ZV0, tks0, tkl0, tkw0, r0ZV0, r1ZV0, r2ZV0, r3ZV0, r4ZV0, r5ZV0, r6ZV0, r7ZV0, r8ZV0, r9ZV0, r10ZV0, r11ZV0, r12ZV0, r13ZV0, r14ZV0, r15ZV0, r16ZV0, r17ZV0, k0ZV0, k1ZV0, k2ZV0, k3ZV0, k4ZV0⟩ := hb_ZV
  obtain ⟨v5, ev5, tv5⟩ := gf_64_16 W t_x0
  refine wb ev5 ?_
  refine wb h2ZV0 ?_
  obtain ⟨v7, ev7, _⟩ := ga_76 W tv5 (i := tv) (by omega) (by omega)
  refine wb ev7 ?_
  obtain ⟨w9, ew9⟩ := go_64 W t_x0
  refine wb ew9 ?_
  obtain ⟨q8, eq8, Wq8, fq8, pbZStq8⟩ := p_Mo_stands hn W  t_x0 (by omega) (by omega) (by omega) (by omega) h1ZV0 h2ZV0
  refine wb eq8 ?_
  have e3 := (Zfr.gi fq8 t_x0 (by decide)).trans h0ZV0
  have e4 := (Zfr.gi fq8 t_x0 (by decide)).trans h2ZV0
  have e5 := (Zfr.gi fq8 t_x0 (by decide)).trans h3ZV0
  have e6 := (Zfr.gr fq8 t_x0 (by decide)).trans h4ZV0
  have e7 := (Zfr.gr fq8 t_x0 (by decide)).trans h5ZV0
  have e8 := (Zfr.gr fq8 t_x0 (by decide)).trans h6ZV0
  have e9 := (Zfr.ai fq8 tks0 (by decide)).trans h7ZV0
  have e10 := (Zfr.ai fq8 tkl0 (by decide)).trans h8ZV0
  have e11 := (Zfr.ai fq8 tkw0 (by decide)).trans h9ZV0
  have e12 := (Zfr.gi fq8 t_x0 (by decide)).trans h10ZV0
  have e13 := (Zfr.gr fq8 t_x0 (by decide)).trans ev5
  have e14 := (Zfr.ai fq8 tv5 (by decide)).trans ev7
  have k15 := GtP_fr k0ZV0 fq8 t_x0 W (by decide)
  have sc17 : Sc c q8 x0 (0) (0) := by
    obtain ⟨yf2, z0y, x0y, x1y, x2y⟩ := pbZStq8
    exact Sc_mk h1ZV0 z0y h2ZV0 ((Zfr.gi (ci := 12) fq8 t_x0 (by decide)).trans h2ZV0) h3ZV0 ((Zfr.gi (ci := 12) fq8 t_x0 (by decide)).trans h3ZV0) (by omega)
  have k16 := WyN_fr k1ZV0 fq8 t_x0 W (by decide) sc17
  have k18 := TbI_fr k2ZV0 fq8 t_x0 W (by decide) sc17
  have k19 := TbC_fr k3ZV0 fq8 t_x0 W (by decide) sc17
  have k20 := TkN_fr k4ZV0 fq8 t_x0 W (by decide)
  have F21 := Zfr.tr F0 fq8 (by decide)
  obtain ⟨bf2q8, h0ZStq8, r0ZStq8, r1ZStq8, r2ZStq8⟩ := pbZStq8
  refine wb e8 ?_
  refine wb e3 ?_
  refine wb e11 ?_
  refine wi (fun hq22 => ?_) (fun hq22 => ?_)
  · have := li_10
    have hq22 := i_eq hq22
    obtain ⟨w98, ew98⟩ := go_64 Wq8 t_x0
    refine wb ew98 ?_
    have := li_3
    obtain ⟨q97, eq97, Wq97, fq97, pbZSfq97⟩ := p_Mo_refuse hn Wq8 (a1 := 3) (a2 := v7) t_x0 (by omega) (by omega) (by omega) (by omega) h0ZStq8
    refine wb eq97 ?_
    have e24 := (Zfr.gi fq97 t_x0 (by decide)).trans e3
    have e25 := (Zfr.gi fq97 t_x0 (by decide)).trans e4
    have e26 := (Zfr.gi fq97 t_x0 (by decide)).trans e5
    have e27 := (Zfr.gr fq97 t_x0 (by decide)).trans e6
    have e28 := (Zfr.gr fq97 t_x0 (by decide)).trans e7
    have e29 := (Zfr.gr fq97 t_x0 (by decide)).trans e8
    have e30 := (Zfr.ai fq97 tks0 (by decide)).trans e9
    have e31 := (Zfr.ai fq97 tkl0 (by decide)).trans e10
    have e32 := (Zfr.ai fq97 tkw0 (by decide)).trans e11
    have e33 := (Zfr.gi fq97 t_x0 (by decide)).trans e12
    have e34 := (Zfr.ai fq97 tv5 (by decide)).trans e14
    have k35 := GtP_fr k15 fq97 t_x0 Wq8 (by decide)
    have sc37 : Sc q8 q97 x0 (0) (0) := by
      obtain ⟨yf2, z0y, x0y, x1y⟩ := pbZSfq97
      exact Sc_mk h0ZStq8 z0y e4 ((Zfr.gi (ci := 12) fq97 t_x0 (by decide)).trans e4) e5 ((Zfr.gi (ci := 12) fq97 t_x0 (by decide)).trans e5) (by omega)
    have k36 := WyN_fr k16 fq97 t_x0 Wq8 (by decide) sc37
    have k38 := TbI_fr k18 fq97 t_x0 Wq8 (by decide) sc37
    have k39 := TbC_fr k19 fq97 t_x0 Wq8 (by decide) sc37
    have k40 := TkN_fr k20 fq97 t_x0 Wq8 (by decide)
    have F41 := Zfr.tr F21 fq97 (by decide)
    obtain ⟨bf2q97, h0ZSfq97, r0ZSfq97, r1ZSfq97⟩ := pbZSfq97
    have := li_1
    exact ⟨_, rfl, Wq97, F41, ⟨bf2q97, tv, dv, bks0, bkl0, bkw0, bna0, blb0, bnw0, bvn0, e24, h0ZSfq97, e25, e26, e27, e28, e29, e30, e31, e32, e33, tks0, tkl0, tkw0, by (try dsimp only); omega, by (try dsimp only); omega, by (try dsimp only); omega, by (try dsimp only); omega, by (try dsimp only); omega, by (try dsimp only); omega, by (try dsimp only); omega, by (try dsimp only); omega, by (try dsimp only); omega, by (try dsimp only); omega, by (try dsimp only); omega, by (try dsimp only); omega, by (try dsimp only); omega, by (try dsimp only); omega, by (try dsimp only); omega, by (try dsimp only); omega, by (try dsimp only); omega, by (try dsimp only); omega, by (try dsimp only); omega, by (try dsimp only); omega, by (try dsimp only); omega, k35, k36, k38, k39, k40⟩⟩
  · have := li_10
    have hq22 := i_ne hq22
    refine wb e3 ?_
    refine wb e8 ?_
    refine wb e3 ?_
    refine wb e11 ?_
    refine wb e8 ?_
    refine wb e3 ?_
    refine wb e11 ?_
    have := li_1
    have := i_add (a := bnw0) (b := 1) (by omega) (by omega)
    obtain ⟨c21, ec21, Wc21, fc21, gc21⟩ := pa_84 Wq8 tkw0 (i := pv) (by omega) (by omega) (x := (bnw0 + 1)) (rgi (by omega) (by omega))
    refine wb ec21 ?_
    have e53 := (Zfr.gi fc21 t_x0 (by decide)).trans e3
    have e54 := (Zfr.gi fc21 t_x0 (by decide)).trans e4
    have e55 := (Zfr.gi fc21 t_x0 (by decide)).trans e5
    have e56 := (Zfr.gr fc21 t_x0 (by decide)).trans e6
    have e57 := (Zfr.gr fc21 t_x0 (by decide)).trans e7
    have e58 := (Zfr.gr fc21 t_x0 (by decide)).trans e8
    have e59 := (Zfr.ai fc21 tks0 (by decide)).trans e9
    have e60 := (Zfr.ai fc21 tkl0 (by decide)).trans e10
    have e61 := (Zfr.gi fc21 t_x0 (by decide)).trans e12
    have e62 := (Zfr.gr fc21 t_x0 (by decide)).trans e13
    have e63 := (Zfr.ai fc21 tv5 (by decide)).trans e14
    have e64 := (Zfr.gi fc21 t_x0 (by decide)).trans h0ZStq8
    have k65 := GtP_w31 k15 Wq8 t_x0 fc21 e3 e8 ec21 (by omega) (by omega) (by omega)
    have sc67 := Sc_fr fc21 t_x0 (by decide) (by decide) (by decide)
    have k66 := WyN_fr k16 fc21 t_x0 Wq8 (by decide) sc67
    have k68 := TbI_fr k18 fc21 t_x0 Wq8 (by decide) sc67
    have k69 := TbC_fr k19 fc21 t_x0 Wq8 (by decide) sc67
    have k70 := TkN_fr k20 fc21 t_x0 Wq8 (by decide)
    have F71 := Zfr.tr F21 fc21 (by decide)
    obtain ⟨w23, ew23⟩ := go_64 Wc21 t_x0
    refine wb ew23 ?_
    obtain ⟨q22, eq22, Wq22, fq22, pbZSq22⟩ := p_Mo_pass hn Wc21  t_x0 (by omega) (by omega) (by omega) (by omega) e64 e54
    refine wb eq22 ?_
    have e74 := (Zfr.gi fq22 t_x0 (by decide)).trans e53
    have e75 := (Zfr.gi fq22 t_x0 (by decide)).trans e55
    have e76 := (Zfr.gr fq22 t_x0 (by decide)).trans e56
    have e77 := (Zfr.gr fq22 t_x0 (by decide)).trans e57
    have e78 := (Zfr.gr fq22 t_x0 (by decide)).trans e58
    have e79 := (Zfr.ai fq22 tks0 (by decide)).trans e59
    have e80 := (Zfr.ai fq22 tkl0 (by decide)).trans e60
    have e81 := (Zfr.gi fq22 t_x0 (by decide)).trans e61
    have e82 := (Zfr.gr fq22 t_x0 (by decide)).trans e62
    have e83 := (Zfr.ai fq22 tv5 (by decide)).trans e63
    have e84 := (Zfr.ai fq22 tkw0 (by decide)).trans gc21
    have k85 := GtP_fr k65 fq22 t_x0 Wc21 (by decide)
    have sc87 : Sc c21 q22 x0 (1) (0) := by
      obtain ⟨yf2, yt2, z0y, z1y, x0y, x1y, x2y, x3y, x4y, x5y⟩ := pbZSq22
      exact Sc_mk e64 z0y e54 z1y e55 ((Zfr.gi (ci := 12) fq22 t_x0 (by decide)).trans e55) (by omega)
    have k86 := WyN_fr k66 fq22 t_x0 Wc21 (by decide) sc87
    have k88 := TbI_fr k68 fq22 t_x0 Wc21 (by decide) sc87
    have k89 := TbC_fr k69 fq22 t_x0 Wc21 (by decide) sc87
    have k90 := TkN_fr k70 fq22 t_x0 Wc21 (by decide)
    have F91 := Zfr.tr F71 fq22 (by decide)
    obtain ⟨bf2q22, bt2q22, h0ZSq22, h1ZSq22, r0ZSq22, r1ZSq22, r2ZSq22, r3ZSq22, r4ZSq22, r5ZSq22⟩ := pbZSq22
    obtain ⟨v24, ev24, tv24⟩ := gf_64_35 Wq22 t_x0
    refine wb ev24 ?_
    have := li_11
    have := i_mull (a := 11) (b := pv) (n := 11) li_11 (by omega) (by omega)
    have := i_add (a := (11 * pv)) (b := bnw0) (by omega) (by omega)
    have := li_m1
    obtain ⟨c25, ec25, Wc25, fc25, gc25⟩ := pa_88 Wq22 tv24 (i := ((11 * pv) + bnw0)) (by omega) (by omega) (x := (-1)) (rgi (by omega) (by omega))
    refine wb ec25 ?_
    have e92 := (Zfr.gi fc25 t_x0 (by decide)).trans e74
    have e93 := (Zfr.gi fc25 t_x0 (by decide)).trans e75
    have e94 := (Zfr.gr fc25 t_x0 (by decide)).trans e76
    have e95 := (Zfr.gr fc25 t_x0 (by decide)).trans e77
    have e96 := (Zfr.gr fc25 t_x0 (by decide)).trans e78
    have e97 := (Zfr.ai fc25 tks0 (by decide)).trans e79
    have e98 := (Zfr.ai fc25 tkl0 (by decide)).trans e80
    have e99 := (Zfr.gi fc25 t_x0 (by decide)).trans e81
    have e100 := (Zfr.gr fc25 t_x0 (by decide)).trans e82
    have e101 := (Zfr.ai fc25 tv5 (by decide)).trans e83
    have e102 := (Zfr.ai fc25 tkw0 (by decide)).trans e84
    have e103 := (Zfr.gi fc25 t_x0 (by decide)).trans h0ZSq22
    have e104 := (Zfr.gi fc25 t_x0 (by decide)).trans h1ZSq22
    have k105 := GtP_fr k85 fc25 t_x0 Wq22 (by decide)
    have sc107 := Sc_fr fc25 t_x0 (by decide) (by decide) (by decide)
    have k106 := WyN_fr k86 fc25 t_x0 Wq22 (by decide) sc107
    have k108 := TbI_fr k88 fc25 t_x0 Wq22 (by decide) sc107
    have k109 := TbC_fr k89 fc25 t_x0 Wq22 (by decide) sc107
    have k110 := TkN_fr k90 fc25 t_x0 Wq22 (by decide)
    have F111 := Zfr.tr F91 fc25 (by decide)
    obtain ⟨w27, ew27⟩ := go_64 Wc25 t_x0
    refine wb ew27 ?_
    have := li_108
    obtain ⟨q26, eq26, Wq26, fq26, pl0q26, pu0q26, pbZSkq26⟩ := p_Mo_takes hn Wc25 (a1 := 108) t_x0 (by omega) (by omega) (by omega) (by omega) e103 e104
    refine wb eq26 ?_
    have e114 := (Zfr.gi fq26 t_x0 (by decide)).trans e92
    have e115 := (Zfr.gi fq26 t_x0 (by decide)).trans e93
    have e116 := (Zfr.gr fq26 t_x0 (by decide)).trans e94
    have e117 := (Zfr.gr fq26 t_x0 (by decide)).trans e95
    have e118 := (Zfr.gr fq26 t_x0 (by decide)).trans e96
    have e119 := (Zfr.ai fq26 tks0 (by decide)).trans e97
    have e120 := (Zfr.ai fq26 tkl0 (by decide)).trans e98
    have e121 := (Zfr.gi fq26 t_x0 (by decide)).trans e99
    have e122 := (Zfr.gr fq26 t_x0 (by decide)).trans e100
    have e123 := (Zfr.ai fq26 tv5 (by decide)).trans e101
    have e124 := (Zfr.ai fq26 tkw0 (by decide)).trans e102
    have e125 := (Zfr.ai fq26 tv24 (by decide)).trans gc25
    have k126 := GtP_fr k105 fq26 t_x0 Wc25 (by decide)
    have sc128 : Sc c25 q26.2 x0 (q26.1.toInt) (0) := by
      obtain ⟨yf2, yt2, z0y, z1y, x0y, x1y, x2y, x3y, x4y, x5y, x6y⟩ := pbZSkq26
      exact Sc_mk e103 z0y e104 z1y e93 ((Zfr.gi (ci := 12) fq26 t_x0 (by decide)).trans e93) (by omega)
    have k127 := WyN_fr k106 fq26 t_x0 Wc25 (by decide) sc128
    have k129 := TbI_fr k108 fq26 t_x0 Wc25 (by decide) sc128
    have k130 := TbC_fr k109 fq26 t_x0 Wc25 (by decide) sc128
    have k131 := TkN_fr k110 fq26 t_x0 Wc25 (by decide)
    have F132 := Zfr.tr F111 fq26 (by decide)
    obtain ⟨bf2q26, bt2q26, h0ZSkq26, h1ZSkq26, r0ZSkq26, r1ZSkq26, r2ZSkq26, r3ZSkq26, r4ZSkq26, r5ZSkq26, r6ZSkq26⟩ := pbZSkq26
    refine wi (fun hq133 => ?_) (fun hq133 => ?_)
    · have := li_0
      have hq133 := i_eq hq133
      obtain ⟨qt134, eqt134, Wqt134, fqt134, pbZVsqt134⟩ := p_Mo_way_238 hn Wq26 (x1 := x1) (x2 := s0) (x4 := ((11 * pv) + bnw0)) (ni := ni) (bc := bc) (n0 := bnw0) t_x0 (by omega) (by omega) (by omega) (by omega) (by omega) (by omega) (by omega) (by omega) (by omega) (by omega) (by omega) (by omega) (by omega) (by omega) e114 h0ZSkq26 h1ZSkq26 e115 (by omega) ⟨bks0, bkl0, bkw0, bna0, blb0, (bnw0 + 1), bvn0, e114, h0ZSkq26, h1ZSkq26, e115, e116, e117, e118, e119, e120, e124, e121, tks0, tkl0, tkw0, by (try dsimp only); omega, by (try dsimp only); omega, by (try dsimp only); omega, by (try dsimp only); omega, by (try dsimp only); omega, by (try dsimp only); omega, by (try dsimp only); omega, by (try dsimp only); omega, by (try dsimp only); omega, by (try dsimp only); omega, by (try dsimp only); omega, by (try dsimp only); omega, by (try dsimp only); omega, by (try dsimp only); omega, by (try dsimp only); omega, by (try dsimp only); omega, by (try dsimp only); omega, by (try dsimp only); omega, by (try dsimp only); omega, by (try dsimp only); omega, k126, k127, k129, k130, k131⟩
      have e150 := (Zfr.gi fqt134 t_x0 (by decide)).trans e114
      have e151 := (Zfr.gr fqt134 t_x0 (by decide)).trans e116
      have e152 := (Zfr.gr fqt134 t_x0 (by decide)).trans e117
      have e153 := (Zfr.gr fqt134 t_x0 (by decide)).trans e118
      have e154 := (Zfr.ai fqt134 tkl0 (by decide)).trans e120
      have e155 := (Zfr.ai fqt134 tv5 (by decide)).trans e123
      have e156 := (Zfr.ai fqt134 tkw0 (by decide)).trans e124
      have e157 := (Zfr.ai fqt134 tv24 (by decide)).trans e125
      have F158 := Zfr.tr F132 fqt134 (by decide)
      obtain ⟨bf2qt134, bt2qt134, bd2qt134, bksqt134, bklqt134, bkwqt134, bnaqt134, blbqt134, bnwqt134, bvnqt134, h0ZVsqt134, h1ZVsqt134, h2ZVsqt134, h3ZVsqt134, h4ZVsqt134, h5ZVsqt134, h6ZVsqt134, h7ZVsqt134, h8ZVsqt134, h9ZVsqt134, h10ZVsqt134, tksqt134, tklqt134, tkwqt134, r0ZVsqt134, r1ZVsqt134, r2ZVsqt134, r3ZVsqt134, r4ZVsqt134, r5ZVsqt134, r6ZVsqt134, r7ZVsqt134, r8ZVsqt134, r9ZVsqt134, r10ZVsqt134, r11ZVsqt134, r12ZVsqt134, r13ZVsqt134, r14ZVsqt134, r15ZVsqt134, r16ZVsqt134, r17ZVsqt134, r18ZVsqt134, r19ZVsqt134, r20ZVsqt134, k0ZVsqt134, k1ZVsqt134, k2ZVsqt134, k3ZVsqt134, k4ZVsqt134⟩ := pbZVsqt134
      exact ⟨_, eqt134, Wqt134, F158, ⟨bf2qt134, bt2qt134, bd2qt134, bksqt134, bklqt134, bkwqt134, bnaqt134, blbqt134, bnwqt134, bvnqt134, h0ZVsqt134, h1ZVsqt134, h2ZVsqt134, h3ZVsqt134, h4ZVsqt134, h5ZVsqt134, h6ZVsqt134, h7ZVsqt134, h8ZVsqt134, h9ZVsqt134, h10ZVsqt134, tksqt134, tklqt134, tkwqt134, by (try dsimp only); omega, by (try dsimp only); omega, by (try dsimp only); omega, by (try dsimp only); omega, by (try dsimp only); omega, by (try dsimp only); omega, by (try dsimp only); omega, by (try dsimp only); omega, by (try dsimp only); omega, by (try dsimp only); omega, by (try dsimp only); omega, by (try dsimp only); omega, by (try dsimp only); omega, by (try dsimp only); omega, by (try dsimp only); omega, by (try dsimp only); omega, by (try dsimp only); omega, by (try dsimp only); omega, by (try dsimp only); omega, by (try dsimp only); omega, by (try dsimp only); omega, k0ZVsqt134, k1ZVsqt134, k2ZVsqt134, k3ZVsqt134, k4ZVsqt134⟩⟩
    · have := li_0
      have hq133 := i_ne hq133
      obtain ⟨w56, ew56⟩ := go_64 Wq26 t_x0
      refine wb ew56 ?_
      obtain ⟨q55, eq55, Wq55, fq55, pbZScq55, pbZkdq55⟩ := p_Mo_kind hn Wq26  t_x0 (by omega) (by omega) (by omega) (by omega) h0ZSkq26 h1ZSkq26
      refine wb eq55 ?_
      have e172 := (Zfr.gi fq55 t_x0 (by decide)).trans e114
      have e173 := (Zfr.gi fq55 t_x0 (by decide)).trans e115
      have e174 := (Zfr.gr fq55 t_x0 (by decide)).trans e116
      have e175 := (Zfr.gr fq55 t_x0 (by decide)).trans e117
      have e176 := (Zfr.gr fq55 t_x0 (by decide)).trans e118
      have e177 := (Zfr.ai fq55 tks0 (by decide)).trans e119
      have e178 := (Zfr.ai fq55 tkl0 (by decide)).trans e120
      have e179 := (Zfr.gi fq55 t_x0 (by decide)).trans e121
      have e180 := (Zfr.gr fq55 t_x0 (by decide)).trans e122
      have e181 := (Zfr.ai fq55 tv5 (by decide)).trans e123
      have e182 := (Zfr.ai fq55 tkw0 (by decide)).trans e124
      have e183 := (Zfr.ai fq55 tv24 (by decide)).trans e125
      have e184 := (Zfr.gi fq55 t_x0 (by decide)).trans h1ZSkq26
      have k185 := GtP_fr k126 fq55 t_x0 Wq26 (by decide)
      have sc187 : Sc q26.2 q55.2 x0 (0) (0) := by
        obtain ⟨yf2, z0y, x0y, x1y, x2y, x3y⟩ := pbZScq55
        exact Sc_mk h0ZSkq26 z0y h1ZSkq26 ((Zfr.gi (ci := 12) fq55 t_x0 (by decide)).trans h1ZSkq26) e115 ((Zfr.gi (ci := 12) fq55 t_x0 (by decide)).trans e115) (by omega)
      have k186 := WyN_fr k127 fq55 t_x0 Wq26 (by decide) sc187
      have k188 := TbI_fr k129 fq55 t_x0 Wq26 (by decide) sc187
      have k189 := TbC_fr k130 fq55 t_x0 Wq26 (by decide) sc187
      have k190 := TkN_fr k131 fq55 t_x0 Wq26 (by decide)
      have F191 := Zfr.tr F132 fq55 (by decide)
      obtain ⟨bf2q55, h0ZScq55, r0ZScq55, r1ZScq55, r2ZScq55, r3ZScq55⟩ := pbZScq55
      obtain ⟨bkkq55, h0Zkdq55, h1Zkdq55, tkkq55⟩ := pbZkdq55
      refine wi (fun hq192 => ?_) (fun hq192 => ?_)
      · have := li_2
        have := i_ge q55.1
        have := i_up q55.1
        have hq192 := i_eq hq192
        obtain ⟨w59, ew59⟩ := go_64 Wq55 t_x0
        refine wb ew59 ?_
        obtain ⟨q58, eq58, Wq58, fq58, pbZStq58⟩ := p_Mo_stands hn Wq55  t_x0 (by omega) (by omega) (by omega) (by omega) h0ZScq55 e184
        refine wb eq58 ?_
        have e195 := (Zfr.gi fq58 t_x0 (by decide)).trans e172
        have e196 := (Zfr.gi fq58 t_x0 (by decide)).trans e173
        have e197 := (Zfr.gr fq58 t_x0 (by decide)).trans e174
        have e198 := (Zfr.gr fq58 t_x0 (by decide)).trans e175
        have e199 := (Zfr.gr fq58 t_x0 (by decide)).trans e176
        have e200 := (Zfr.ai fq58 tks0 (by decide)).trans e177
        have e201 := (Zfr.ai fq58 tkl0 (by decide)).trans e178
        have e202 := (Zfr.gi fq58 t_x0 (by decide)).trans e179
        have e203 := (Zfr.gr fq58 t_x0 (by decide)).trans e180
        have e204 := (Zfr.ai fq58 tv5 (by decide)).trans e181
        have e205 := (Zfr.ai fq58 tkw0 (by decide)).trans e182
        have e206 := (Zfr.ai fq58 tv24 (by decide)).trans e183
        have e207 := (Zfr.gi fq58 t_x0 (by decide)).trans e184
        have e208 := (Zfr.gr fq58 t_x0 (by decide)).trans h0Zkdq55
        have e209 := (Zfr.ai fq58 tkkq55 (by decide)).trans h1Zkdq55
        have k210 := GtP_fr k185 fq58 t_x0 Wq55 (by decide)
        have sc212 : Sc q55.2 q58 x0 (0) (0) := by
          obtain ⟨yf2, z0y, x0y, x1y, x2y⟩ := pbZStq58
          exact Sc_mk h0ZScq55 z0y e184 ((Zfr.gi (ci := 12) fq58 t_x0 (by decide)).trans e184) e173 ((Zfr.gi (ci := 12) fq58 t_x0 (by decide)).trans e173) (by omega)
        have k211 := WyN_fr k186 fq58 t_x0 Wq55 (by decide) sc212
        have k213 := TbI_fr k188 fq58 t_x0 Wq55 (by decide) sc212
        have k214 := TbC_fr k189 fq58 t_x0 Wq55 (by decide) sc212
        have k215 := TkN_fr k190 fq58 t_x0 Wq55 (by decide)
        have F216 := Zfr.tr F191 fq58 (by decide)
        obtain ⟨bf2q58, h0ZStq58, r0ZStq58, r1ZStq58, r2ZStq58⟩ := pbZStq58
        obtain ⟨v60, ev60, tv60⟩ := gf_64_15 Wq58 t_x0
        refine wb ev60 ?_
        refine wb e207 ?_
        obtain ⟨v62, ev62, _⟩ := ga_75 Wq58 tv60 (i := bt2q26) (by omega) (by omega)
        have ht217 := TkM_at (k215 _ _ e208 ev60) e209 ev62
        have := tkr2 ht217 (by omega)
        refine wb ev62 ?_
        obtain ⟨w64, ew64⟩ := go_64 Wq58 t_x0
        refine wb ew64 ?_
        obtain ⟨q63, eq63, Wq63, fq63, po0q63, pl1q63, pu1q63⟩ := p_Mo_meaning hn Wq58 (a1 := v62) t_x0 (by omega) (by omega)
        refine wb eq63 ?_
        have e218 := (Zfr.gi fq63 t_x0 (by decide)).trans e195
        have e219 := (Zfr.gi fq63 t_x0 (by decide)).trans e196
        have e220 := (Zfr.gr fq63 t_x0 (by decide)).trans e197
        have e221 := (Zfr.gr fq63 t_x0 (by decide)).trans e198
        have e222 := (Zfr.gr fq63 t_x0 (by decide)).trans e199
        have e223 := (Zfr.ai fq63 tks0 (by decide)).trans e200
        have e224 := (Zfr.ai fq63 tkl0 (by decide)).trans e201
        have e225 := (Zfr.gi fq63 t_x0 (by decide)).trans e202
        have e226 := (Zfr.gr fq63 t_x0 (by decide)).trans e203
        have e227 := (Zfr.ai fq63 tv5 (by decide)).trans e204
        have e228 := (Zfr.ai fq63 tkw0 (by decide)).trans e205
        have e229 := (Zfr.ai fq63 tv24 (by decide)).trans e206
        have e230 := (Zfr.gi fq63 t_x0 (by decide)).trans e207
        have e231 := (Zfr.gr fq63 t_x0 (by decide)).trans e208
        have e232 := (Zfr.ai fq63 tkkq55 (by decide)).trans e209
        have e233 := (Zfr.gi fq63 t_x0 (by decide)).trans h0ZStq58
        have e234 := (Zfr.gr fq63 t_x0 (by decide)).trans ev60
        have e235 := (Zfr.ai fq63 tv60 (by decide)).trans ev62
        have k236 := GtP_fr k210 fq63 t_x0 Wq58 (by decide)
        have sc238 := Sc_fr fq63 t_x0 (by decide) (by decide) (by decide)
        have k237 := WyN_fr k211 fq63 t_x0 Wq58 (by decide) sc238
        have k239 := TbI_fr k213 fq63 t_x0 Wq58 (by decide) sc238
        have k240 := TbC_fr k214 fq63 t_x0 Wq58 (by decide) sc238
        have k241 := TkN_fr k215 fq63 t_x0 Wq58 (by decide)
        have F242 := Zfr.tr F216 fq63 (by decide)
        refine wi (fun hq243 => ?_) (fun hq243 => ?_)
        · have hq243 := i_eq hq243
          obtain ⟨qt244, eqt244, Wqt244, fqt244, pbZVsqt244⟩ := p_Mo_way_164 hn Wq63 (x1 := x1) (x2 := s0) (x4 := ((11 * pv) + bnw0)) (x5 := v62) (ni := ni) (bc := bc) (n0 := bnw0) t_x0 (by omega) (by omega) (by omega) (by omega) (by omega) (by omega) (by omega) (by omega) (by omega) (by omega) (by omega) (by omega) (by omega) (by omega) (by omega) (by omega) e218 e233 e230 e219 (by omega) ⟨bks0, bkl0, bkw0, bna0, blb0, (bnw0 + 1), bvn0, e218, e233, e230, e219, e220, e221, e222, e223, e224, e228, e225, tks0, tkl0, tkw0, by (try dsimp only); omega, by (try dsimp only); omega, by (try dsimp only); omega, by (try dsimp only); omega, by (try dsimp only); omega, by (try dsimp only); omega, by (try dsimp only); omega, by (try dsimp only); omega, by (try dsimp only); omega, by (try dsimp only); omega, by (try dsimp only); omega, by (try dsimp only); omega, by (try dsimp only); omega, by (try dsimp only); omega, by (try dsimp only); omega, by (try dsimp only); omega, by (try dsimp only); omega, by (try dsimp only); omega, by (try dsimp only); omega, by (try dsimp only); omega, k236, k237, k239, k240, k241⟩
          have e260 := (Zfr.gi fqt244 t_x0 (by decide)).trans e218
          have e261 := (Zfr.gr fqt244 t_x0 (by decide)).trans e220
          have e262 := (Zfr.gr fqt244 t_x0 (by decide)).trans e221
          have e263 := (Zfr.gr fqt244 t_x0 (by decide)).trans e222
          have e264 := (Zfr.ai fqt244 tv5 (by decide)).trans e227
          have e265 := (Zfr.ai fqt244 tkw0 (by decide)).trans e228
          have e266 := (Zfr.gr fqt244 t_x0 (by decide)).trans e231
          have e267 := (Zfr.ai fqt244 tkkq55 (by decide)).trans e232
          have e268 := (Zfr.gr fqt244 t_x0 (by decide)).trans e234
          have e269 := (Zfr.ai fqt244 tv60 (by decide)).trans e235
          have F270 := Zfr.tr F242 fqt244 (by decide)
          obtain ⟨bf2qt244, bt2qt244, bd2qt244, bksqt244, bklqt244, bkwqt244, bnaqt244, blbqt244, bnwqt244, bvnqt244, h0ZVsqt244, h1ZVsqt244, h2ZVsqt244, h3ZVsqt244, h4ZVsqt244, h5ZVsqt244, h6ZVsqt244, h7ZVsqt244, h8ZVsqt244, h9ZVsqt244, h10ZVsqt244, tksqt244, tklqt244, tkwqt244, r0ZVsqt244, r1ZVsqt244, r2ZVsqt244, r3ZVsqt244, r4ZVsqt244, r5ZVsqt244, r6ZVsqt244, r7ZVsqt244, r8ZVsqt244, r9ZVsqt244, r10ZVsqt244, r11ZVsqt244, r12ZVsqt244, r13ZVsqt244, r14ZVsqt244, r15ZVsqt244, r16ZVsqt244, r17ZVsqt244, r18ZVsqt244, r19ZVsqt244, r20ZVsqt244, k0ZVsqt244, k1ZVsqt244, k2ZVsqt244, k3ZVsqt244, k4ZVsqt244⟩ := pbZVsqt244
          exact ⟨_, eqt244, Wqt244, F270, ⟨bf2qt244, bt2qt244, bd2qt244, bksqt244, bklqt244, bkwqt244, bnaqt244, blbqt244, bnwqt244, bvnqt244, h0ZVsqt244, h1ZVsqt244, h2ZVsqt244, h3ZVsqt244, h4ZVsqt244, h5ZVsqt244, h6ZVsqt244, h7ZVsqt244, h8ZVsqt244, h9ZVsqt244, h10ZVsqt244, tksqt244, tklqt244, tkwqt244, by (try dsimp only); omega, by (try dsimp only); omega, by (try dsimp only); omega, by (try dsimp only); omega, by (try dsimp only); omega, by (try dsimp only); omega, by (try dsimp only); omega, by (try dsimp only); omega, by (try dsimp only); omega, by (try dsimp only); omega, by (try dsimp only); omega, by (try dsimp only); omega, by (try dsimp only); omega, by (try dsimp only); omega, by (try dsimp only); omega, by (try dsimp only); omega, by (try dsimp only); omega, by (try dsimp only); omega, by (try dsimp only); omega, by (try dsimp only); omega, by (try dsimp only); omega, k0ZVsqt244, k1ZVsqt244, k2ZVsqt244, k3ZVsqt244, k4ZVsqt244⟩⟩
        · have hq243 := i_ne hq243
          refine wb e226 ?_
          refine wb e230 ?_
          obtain ⟨v92, ev92, _⟩ := ga_76 Wq63 tv5 (i := bt2q26) (by omega) (by omega)
          refine wb ev92 ?_
          obtain ⟨w94, ew94⟩ := go_64 Wq63 t_x0
          refine wb ew94 ?_
          have := li_4
          obtain ⟨q93, eq93, Wq93, fq93, pbZSfq93⟩ := p_Mo_refuse hn Wq63 (a1 := 4) (a2 := v92) t_x0 (by omega) (by omega) (by omega) (by omega) e233
          refine wb eq93 ?_
          have e283 := (Zfr.gi fq93 t_x0 (by decide)).trans e218
          have e284 := (Zfr.gi fq93 t_x0 (by decide)).trans e219
          have e285 := (Zfr.gr fq93 t_x0 (by decide)).trans e220
          have e286 := (Zfr.gr fq93 t_x0 (by decide)).trans e221
          have e287 := (Zfr.gr fq93 t_x0 (by decide)).trans e222
          have e288 := (Zfr.ai fq93 tks0 (by decide)).trans e223
          have e289 := (Zfr.ai fq93 tkl0 (by decide)).trans e224
          have e290 := (Zfr.gi fq93 t_x0 (by decide)).trans e225
          have e291 := (Zfr.ai fq93 tv5 (by decide)).trans e227
          have e292 := (Zfr.ai fq93 tkw0 (by decide)).trans e228
          have e293 := (Zfr.ai fq93 tv24 (by decide)).trans e229
          have e294 := (Zfr.gi fq93 t_x0 (by decide)).trans e230
          have e295 := (Zfr.gr fq93 t_x0 (by decide)).trans e231
          have e296 := (Zfr.ai fq93 tkkq55 (by decide)).trans e232
          have e297 := (Zfr.gr fq93 t_x0 (by decide)).trans e234
          have e298 := (Zfr.ai fq93 tv60 (by decide)).trans e235
          have e299 := (Zfr.ai fq93 tv5 (by decide)).trans ev92
          have k300 := GtP_fr k236 fq93 t_x0 Wq63 (by decide)
          have sc302 : Sc q63.2 q93 x0 (0) (0) := by
            obtain ⟨yf2, z0y, x0y, x1y⟩ := pbZSfq93
            exact Sc_mk e233 z0y e230 ((Zfr.gi (ci := 12) fq93 t_x0 (by decide)).trans e230) e219 ((Zfr.gi (ci := 12) fq93 t_x0 (by decide)).trans e219) (by omega)
          have k301 := WyN_fr k237 fq93 t_x0 Wq63 (by decide) sc302
          have k303 := TbI_fr k239 fq93 t_x0 Wq63 (by decide) sc302
          have k304 := TbC_fr k240 fq93 t_x0 Wq63 (by decide) sc302
          have k305 := TkN_fr k241 fq93 t_x0 Wq63 (by decide)
          have F306 := Zfr.tr F242 fq93 (by decide)
          obtain ⟨bf2q93, h0ZSfq93, r0ZSfq93, r1ZSfq93⟩ := pbZSfq93
          obtain ⟨qt307, eqt307, Wqt307, fqt307, pbZVsqt307⟩ := p_Mo_way_164 hn Wq93 (x1 := x1) (x2 := s0) (x4 := ((11 * pv) + bnw0)) (x5 := v62) (ni := ni) (bc := bc) (n0 := bnw0) t_x0 (by omega) (by omega) (by omega) (by omega) (by omega) (by omega) (by omega) (by omega) (by omega) (by omega) (by omega) (by omega) (by omega) (by omega) (by omega) (by omega) e283 h0ZSfq93 e294 e284 (by omega) ⟨bks0, bkl0, bkw0, bna0, blb0, (bnw0 + 1), bvn0, e283, h0ZSfq93, e294, e284, e285, e286, e287, e288, e289, e292, e290, tks0, tkl0, tkw0, by (try dsimp only); omega, by (try dsimp only); omega, by (try dsimp only); omega, by (try dsimp only); omega, by (try dsimp only); omega, by (try dsimp only); omega, by (try dsimp only); omega, by (try dsimp only); omega, by (try dsimp only); omega, by (try dsimp only); omega, by (try dsimp only); omega, by (try dsimp only); omega, by (try dsimp only); omega, by (try dsimp only); omega, by (try dsimp only); omega, by (try dsimp only); omega, by (try dsimp only); omega, by (try dsimp only); omega, by (try dsimp only); omega, by (try dsimp only); omega, k300, k301, k303, k304, k305⟩
          have e323 := (Zfr.gi fqt307 t_x0 (by decide)).trans e283
          have e324 := (Zfr.gr fqt307 t_x0 (by decide)).trans e285
          have e325 := (Zfr.gr fqt307 t_x0 (by decide)).trans e286
          have e326 := (Zfr.gr fqt307 t_x0 (by decide)).trans e287
          have e327 := (Zfr.ai fqt307 tv5 (by decide)).trans e291
          have e328 := (Zfr.ai fqt307 tkw0 (by decide)).trans e292
          have e329 := (Zfr.gr fqt307 t_x0 (by decide)).trans e295
          have e330 := (Zfr.ai fqt307 tkkq55 (by decide)).trans e296
          have e331 := (Zfr.gr fqt307 t_x0 (by decide)).trans e297
          have e332 := (Zfr.ai fqt307 tv60 (by decide)).trans e298
          have e333 := (Zfr.ai fqt307 tv5 (by decide)).trans e299
          have F334 := Zfr.tr F306 fqt307 (by decide)
          obtain ⟨bf2qt307, bt2qt307, bd2qt307, bksqt307, bklqt307, bkwqt307, bnaqt307, blbqt307, bnwqt307, bvnqt307, h0ZVsqt307, h1ZVsqt307, h2ZVsqt307, h3ZVsqt307, h4ZVsqt307, h5ZVsqt307, h6ZVsqt307, h7ZVsqt307, h8ZVsqt307, h9ZVsqt307, h10ZVsqt307, tksqt307, tklqt307, tkwqt307, r0ZVsqt307, r1ZVsqt307, r2ZVsqt307, r3ZVsqt307, r4ZVsqt307, r5ZVsqt307, r6ZVsqt307, r7ZVsqt307, r8ZVsqt307, r9ZVsqt307, r10ZVsqt307, r11ZVsqt307, r12ZVsqt307, r13ZVsqt307, r14ZVsqt307, r15ZVsqt307, r16ZVsqt307, r17ZVsqt307, r18ZVsqt307, r19ZVsqt307, r20ZVsqt307, k0ZVsqt307, k1ZVsqt307, k2ZVsqt307, k3ZVsqt307, k4ZVsqt307⟩ := pbZVsqt307
          exact ⟨_, eqt307, Wqt307, F334, ⟨bf2qt307, bt2qt307, bd2qt307, bksqt307, bklqt307, bkwqt307, bnaqt307, blbqt307, bnwqt307, bvnqt307, h0ZVsqt307, h1ZVsqt307, h2ZVsqt307, h3ZVsqt307, h4ZVsqt307, h5ZVsqt307, h6ZVsqt307, h7ZVsqt307, h8ZVsqt307, h9ZVsqt307, h10ZVsqt307, tksqt307, tklqt307, tkwqt307, by (try dsimp only); omega, by (try dsimp only); omega, by (try dsimp only); omega, by (try dsimp only); omega, by (try dsimp only); omega, by (try dsimp only); omega, by (try dsimp only); omega, by (try dsimp only); omega, by (try dsimp only); omega, by (try dsimp only); omega, by (try dsimp only); omega, by (try dsimp only); omega, by (try dsimp only); omega, by (try dsimp only); omega, by (try dsimp only); omega, by (try dsimp only); omega, by (try dsimp only); omega, by (try dsimp only); omega, by (try dsimp only); omega, by (try dsimp only); omega, by (try dsimp only); omega, k0ZVsqt307, k1ZVsqt307, k2ZVsqt307, k3ZVsqt307, k4ZVsqt307⟩⟩
      · have := li_2
        have := i_ge q55.1
        have := i_up q55.1
        have hq192 := i_ne hq192
        obtain ⟨w96, ew96⟩ := go_64 Wq55 t_x0
        refine wb ew96 ?_
        obtain ⟨q95, eq95, Wq95, fq95, pbZSfq95⟩ := p_Mo_wrong hn Wq55  t_x0 (by omega) (by omega) (by omega) (by omega) h0ZScq55 e184
        refine wb eq95 ?_
        have e348 := (Zfr.gi fq95 t_x0 (by decide)).trans e172
        have e349 := (Zfr.gi fq95 t_x0 (by decide)).trans e173
        have e350 := (Zfr.gr fq95 t_x0 (by decide)).trans e174
        have e351 := (Zfr.gr fq95 t_x0 (by decide)).trans e175
        have e352 := (Zfr.gr fq95 t_x0 (by decide)).trans e176
        have e353 := (Zfr.ai fq95 tks0 (by decide)).trans e177
        have e354 := (Zfr.ai fq95 tkl0 (by decide)).trans e178
        have e355 := (Zfr.gi fq95 t_x0 (by decide)).trans e179
        have e356 := (Zfr.ai fq95 tv5 (by decide)).trans e181
        have e357 := (Zfr.ai fq95 tkw0 (by decide)).trans e182
        have e358 := (Zfr.ai fq95 tv24 (by decide)).trans e183
        have e359 := (Zfr.gi fq95 t_x0 (by decide)).trans e184
        have e360 := (Zfr.gr fq95 t_x0 (by decide)).trans h0Zkdq55
        have e361 := (Zfr.ai fq95 tkkq55 (by decide)).trans h1Zkdq55
        have k362 := GtP_fr k185 fq95 t_x0 Wq55 (by decide)
        have sc364 : Sc q55.2 q95 x0 (0) (0) := by
          obtain ⟨yf2, z0y, x0y, x1y⟩ := pbZSfq95
          exact Sc_mk h0ZScq55 z0y e184 ((Zfr.gi (ci := 12) fq95 t_x0 (by decide)).trans e184) e173 ((Zfr.gi (ci := 12) fq95 t_x0 (by decide)).trans e173) (by omega)
        have k363 := WyN_fr k186 fq95 t_x0 Wq55 (by decide) sc364
        have k365 := TbI_fr k188 fq95 t_x0 Wq55 (by decide) sc364
        have k366 := TbC_fr k189 fq95 t_x0 Wq55 (by decide) sc364
        have k367 := TkN_fr k190 fq95 t_x0 Wq55 (by decide)
        have F368 := Zfr.tr F191 fq95 (by decide)
        obtain ⟨bf2q95, h0ZSfq95, r0ZSfq95, r1ZSfq95⟩ := pbZSfq95
        obtain ⟨qt369, eqt369, Wqt369, fqt369, pbZVsqt369⟩ := p_Mo_way_238 hn Wq95 (x1 := x1) (x2 := s0) (x4 := ((11 * pv) + bnw0)) (ni := ni) (bc := bc) (n0 := bnw0) t_x0 (by omega) (by omega) (by omega) (by omega) (by omega) (by omega) (by omega) (by omega) (by omega) (by omega) (by omega) (by omega) (by omega) (by omega) e348 h0ZSfq95 e359 e349 (by omega) ⟨bks0, bkl0, bkw0, bna0, blb0, (bnw0 + 1), bvn0, e348, h0ZSfq95, e359, e349, e350, e351, e352, e353, e354, e357, e355, tks0, tkl0, tkw0, by (try dsimp only); omega, by (try dsimp only); omega, by (try dsimp only); omega, by (try dsimp only); omega, by (try dsimp only); omega, by (try dsimp only); omega, by (try dsimp only); omega, by (try dsimp only); omega, by (try dsimp only); omega, by (try dsimp only); omega, by (try dsimp only); omega, by (try dsimp only); omega, by (try dsimp only); omega, by (try dsimp only); omega, by (try dsimp only); omega, by (try dsimp only); omega, by (try dsimp only); omega, by (try dsimp only); omega, by (try dsimp only); omega, by (try dsimp only); omega, k362, k363, k365, k366, k367⟩
        have e385 := (Zfr.gi fqt369 t_x0 (by decide)).trans e348
        have e386 := (Zfr.gr fqt369 t_x0 (by decide)).trans e350
        have e387 := (Zfr.gr fqt369 t_x0 (by decide)).trans e351
        have e388 := (Zfr.gr fqt369 t_x0 (by decide)).trans e352
        have e389 := (Zfr.ai fqt369 tkl0 (by decide)).trans e354
        have e390 := (Zfr.ai fqt369 tv5 (by decide)).trans e356
        have e391 := (Zfr.ai fqt369 tkw0 (by decide)).trans e357
        have e392 := (Zfr.ai fqt369 tv24 (by decide)).trans e358
        have e393 := (Zfr.gr fqt369 t_x0 (by decide)).trans e360
        have e394 := (Zfr.ai fqt369 tkkq55 (by decide)).trans e361
        have F395 := Zfr.tr F368 fqt369 (by decide)
        obtain ⟨bf2qt369, bt2qt369, bd2qt369, bksqt369, bklqt369, bkwqt369, bnaqt369, blbqt369, bnwqt369, bvnqt369, h0ZVsqt369, h1ZVsqt369, h2ZVsqt369, h3ZVsqt369, h4ZVsqt369, h5ZVsqt369, h6ZVsqt369, h7ZVsqt369, h8ZVsqt369, h9ZVsqt369, h10ZVsqt369, tksqt369, tklqt369, tkwqt369, r0ZVsqt369, r1ZVsqt369, r2ZVsqt369, r3ZVsqt369, r4ZVsqt369, r5ZVsqt369, r6ZVsqt369, r7ZVsqt369, r8ZVsqt369, r9ZVsqt369, r10ZVsqt369, r11ZVsqt369, r12ZVsqt369, r13ZVsqt369, r14ZVsqt369, r15ZVsqt369, r16ZVsqt369, r17ZVsqt369, r18ZVsqt369, r19ZVsqt369, r20ZVsqt369, k0ZVsqt369, k1ZVsqt369, k2ZVsqt369, k3ZVsqt369, k4ZVsqt369⟩ := pbZVsqt369
        exact ⟨_, eqt369, Wqt369, F395, ⟨bf2qt369, bt2qt369, bd2qt369, bksqt369, bklqt369, bkwqt369, bnaqt369, blbqt369, bnwqt369, bvnqt369, h0ZVsqt369, h1ZVsqt369, h2ZVsqt369, h3ZVsqt369, h4ZVsqt369, h5ZVsqt369, h6ZVsqt369, h7ZVsqt369, h8ZVsqt369, h9ZVsqt369, h10ZVsqt369, tksqt369, tklqt369, tkwqt369, by (try dsimp only); omega, by (try dsimp only); omega, by (try dsimp only); omega, by (try dsimp only); omega, by (try dsimp only); omega, by (try dsimp only); omega, by (try dsimp only); omega, by (try dsimp only); omega, by (try dsimp only); omega, by (try dsimp only); omega, by (try dsimp only); omega, by (try dsimp only); omega, by (try dsimp only); omega, by (try dsimp only); omega, by (try dsimp only); omega, by (try dsimp only); omega, by (try dsimp only); omega, by (try dsimp only); omega, by (try dsimp only); omega, by (try dsimp only); omega, by (try dsimp only); omega, k0ZVsqt369, k1ZVsqt369, k2ZVsqt369, k3ZVsqt369, k4ZVsqt369⟩⟩

abbrev M_Mo_way : List (Nat × Nat) := [(64, 18), (64, 19), (64, 20), (64, 53), (64, 57), (64, 65), (79, 0), (80, 0), (82, 0), (83, 0), (84, 0), (85, 0), (86, 0), (87, 0), (88, 0), (89, 0), (90, 0), (91, 0), (92, 0), (93, 0), (94, 0), (95, 0), (105, 0), (106, 0), (107, 0), (108, 0), (109, 0), (110, 0), (111, 0), (112, 0), (113, 0), (134, 0)]
set_option maxRecDepth 100000 in
set_option maxHeartbeats 400000 in
theorem p_Mo_way {nf : Nat} (hn : 8589934592 ≤ nf) {G : List Nat} {c : Zc} (W : Zwt zty G c) {a0 : Nat} {a1 : Int32} {ni : Int32} {bc : Int32} {pv : Int32} {fv : Int32} {tv : Int32} {dv : Int32} (t_a0 : G[a0]? = some 64) (pl_pv : 0 ≤ pv.toInt) (pu_pv : pv.toInt ≤ 8) (pl_fv : 0 ≤ fv.toInt) (pu_fv : fv.toInt ≤ 0) (pl_tv : 0 ≤ tv.toInt) (pu_tv : tv.toInt ≤ 200) (pl_dv : 0 ≤ dv.toInt) (pu_dv : dv.toInt ≤ 11) (pl_a1 : 0 ≤ a1.toInt) (pu_a1 : a1.toInt ≤ 7) (eh_pv : zgi c a0 12 25 = some pv) (eh_fv : zgi c a0 12 19 = some fv) (eh_tv : zgi c a0 12 18 = some tv) (eh_dv : zgi c a0 12 53 = some dv) (hb_ZV : ZV G c a0 pv fv tv dv ni bc) : ∃ q, f_Mo_way nf a0 a1 c = some q ∧ Zwt zty G q.2 ∧ Zfr G M_Mo_way c q.2 ∧ ZVn G q.2 a0 pv fv tv dv ni bc 1 q.1 := by
  have F0 : Zfr G M_Mo_way c c := Zfr.rf
  unfold f_Mo_way
  obtain ⟨bks0, bkl0, bkw0, bna0, blb0, bnw0, bvn0, h0ZV0, h1ZV0, h2ZV0, h3ZV0, h4ZV0, h5ZV0, h6ZV0, h7ZV0, h8ZV0, h9ZV0, h10ZV0, tks0, tkl0, tkw0, r0ZV0, r1ZV0, r2ZV0, r3ZV0, r4ZV0, r5ZV0, r6ZV0, r7ZV0, r8ZV0, r9ZV0, r10ZV0, r11ZV0, r12ZV0, r13ZV0, r14ZV0, r15ZV0, r16ZV0, r17ZV0, k0ZV0, k1ZV0, k2ZV0, k3ZV0, k4ZV0⟩ := hb_ZV
  obtain ⟨v1, ev1, tv1⟩ := gf_64_14 W t_a0
  refine wb ev1 ?_
  refine wb h2ZV0 ?_
  obtain ⟨v3, ev3, _⟩ := ga_74 W tv1 (i := tv) (by omega) (by omega)
  refine wb ev3 ?_
  refine wi (fun hq1 => ?_) (fun hq1 => ?_)
  · have := li_202
    have := i_ge v3
    have := i_up v3
    have hq1 := i_eq hq1
    have := li_1
    obtain ⟨qt2, eqt2, Wqt2, fqt2, pbZVnqt2⟩ := p_Mo_way_20 hn W (x1 := a1) (s0 := 1) (ni := ni) (bc := bc) t_a0 (by omega) (by omega) (by omega) (by omega) (by omega) (by omega) (by omega) (by omega) (by omega) (by omega) (by omega) (by omega) h0ZV0 h1ZV0 h2ZV0 h3ZV0 ⟨bks0, bkl0, bkw0, bna0, blb0, bnw0, bvn0, h0ZV0, h1ZV0, h2ZV0, h3ZV0, h4ZV0, h5ZV0, h6ZV0, h7ZV0, h8ZV0, h9ZV0, h10ZV0, tks0, tkl0, tkw0, by (try dsimp only); omega, by (try dsimp only); omega, by (try dsimp only); omega, by (try dsimp only); omega, by (try dsimp only); omega, by (try dsimp only); omega, by (try dsimp only); omega, by (try dsimp only); omega, by (try dsimp only); omega, by (try dsimp only); omega, by (try dsimp only); omega, by (try dsimp only); omega, by (try dsimp only); omega, by (try dsimp only); omega, by (try dsimp only); omega, by (try dsimp only); omega, by (try dsimp only); omega, by (try dsimp only); omega, k0ZV0, k1ZV0, k2ZV0, k3ZV0, k4ZV0⟩
    have e18 := (Zfr.gi fqt2 t_a0 (by decide)).trans h0ZV0
    have e19 := (Zfr.gr fqt2 t_a0 (by decide)).trans h4ZV0
    have e20 := (Zfr.gr fqt2 t_a0 (by decide)).trans h5ZV0
    have e21 := (Zfr.gr fqt2 t_a0 (by decide)).trans h6ZV0
    have e22 := (Zfr.gr fqt2 t_a0 (by decide)).trans ev1
    have e23 := (Zfr.ai fqt2 tv1 (by decide)).trans ev3
    have F24 := Zfr.tr F0 fqt2 (by decide)
    obtain ⟨bf2qt2, bt2qt2, bd2qt2, bksqt2, bklqt2, bkwqt2, bnaqt2, blbqt2, bnwqt2, bvnqt2, h0ZVnqt2, h1ZVnqt2, h2ZVnqt2, h3ZVnqt2, h4ZVnqt2, h5ZVnqt2, h6ZVnqt2, h7ZVnqt2, h8ZVnqt2, h9ZVnqt2, h10ZVnqt2, tksqt2, tklqt2, tkwqt2, r0ZVnqt2, r1ZVnqt2, r2ZVnqt2, r3ZVnqt2, r4ZVnqt2, r5ZVnqt2, r6ZVnqt2, r7ZVnqt2, r8ZVnqt2, r9ZVnqt2, r10ZVnqt2, r11ZVnqt2, r12ZVnqt2, r13ZVnqt2, r14ZVnqt2, r15ZVnqt2, r16ZVnqt2, r17ZVnqt2, r18ZVnqt2, r19ZVnqt2, r20ZVnqt2, k0ZVnqt2, k1ZVnqt2, k2ZVnqt2, k3ZVnqt2, k4ZVnqt2⟩ := pbZVnqt2
    exact ⟨_, eqt2, Wqt2, F24, ⟨bf2qt2, bt2qt2, bd2qt2, bksqt2, bklqt2, bkwqt2, bnaqt2, blbqt2, bnwqt2, bvnqt2, h0ZVnqt2, h1ZVnqt2, h2ZVnqt2, h3ZVnqt2, h4ZVnqt2, h5ZVnqt2, h6ZVnqt2, h7ZVnqt2, h8ZVnqt2, h9ZVnqt2, h10ZVnqt2, tksqt2, tklqt2, tkwqt2, by (try dsimp only); omega, by (try dsimp only); omega, by (try dsimp only); omega, by (try dsimp only); omega, by (try dsimp only); omega, by (try dsimp only); omega, by (try dsimp only); omega, by (try dsimp only); omega, by (try dsimp only); omega, by (try dsimp only); omega, by (try dsimp only); omega, by (try dsimp only); omega, by (try dsimp only); omega, by (try dsimp only); omega, by (try dsimp only); omega, by (try dsimp only); omega, by (try dsimp only); omega, by (try dsimp only); omega, by (try dsimp only); omega, by (try dsimp only); omega, by (try dsimp only); omega, k0ZVnqt2, k1ZVnqt2, k2ZVnqt2, k3ZVnqt2, k4ZVnqt2⟩⟩
  · have := li_202
    have := i_ge v3
    have := i_up v3
    have hq1 := i_ne hq1
    have := li_0
    obtain ⟨qt36, eqt36, Wqt36, fqt36, pbZVnqt36⟩ := p_Mo_way_20 hn W (x1 := a1) (s0 := 0) (ni := ni) (bc := bc) t_a0 (by omega) (by omega) (by omega) (by omega) (by omega) (by omega) (by omega) (by omega) (by omega) (by omega) (by omega) (by omega) h0ZV0 h1ZV0 h2ZV0 h3ZV0 ⟨bks0, bkl0, bkw0, bna0, blb0, bnw0, bvn0, h0ZV0, h1ZV0, h2ZV0, h3ZV0, h4ZV0, h5ZV0, h6ZV0, h7ZV0, h8ZV0, h9ZV0, h10ZV0, tks0, tkl0, tkw0, by (try dsimp only); omega, by (try dsimp only); omega, by (try dsimp only); omega, by (try dsimp only); omega, by (try dsimp only); omega, by (try dsimp only); omega, by (try dsimp only); omega, by (try dsimp only); omega, by (try dsimp only); omega, by (try dsimp only); omega, by (try dsimp only); omega, by (try dsimp only); omega, by (try dsimp only); omega, by (try dsimp only); omega, by (try dsimp only); omega, by (try dsimp only); omega, by (try dsimp only); omega, by (try dsimp only); omega, k0ZV0, k1ZV0, k2ZV0, k3ZV0, k4ZV0⟩
    have e52 := (Zfr.gi fqt36 t_a0 (by decide)).trans h0ZV0
    have e53 := (Zfr.gr fqt36 t_a0 (by decide)).trans h4ZV0
    have e54 := (Zfr.gr fqt36 t_a0 (by decide)).trans h5ZV0
    have e55 := (Zfr.gr fqt36 t_a0 (by decide)).trans h6ZV0
    have e56 := (Zfr.gr fqt36 t_a0 (by decide)).trans ev1
    have e57 := (Zfr.ai fqt36 tv1 (by decide)).trans ev3
    have F58 := Zfr.tr F0 fqt36 (by decide)
    have := li_1
    obtain ⟨bf2qt36, bt2qt36, bd2qt36, bksqt36, bklqt36, bkwqt36, bnaqt36, blbqt36, bnwqt36, bvnqt36, h0ZVnqt36, h1ZVnqt36, h2ZVnqt36, h3ZVnqt36, h4ZVnqt36, h5ZVnqt36, h6ZVnqt36, h7ZVnqt36, h8ZVnqt36, h9ZVnqt36, h10ZVnqt36, tksqt36, tklqt36, tkwqt36, r0ZVnqt36, r1ZVnqt36, r2ZVnqt36, r3ZVnqt36, r4ZVnqt36, r5ZVnqt36, r6ZVnqt36, r7ZVnqt36, r8ZVnqt36, r9ZVnqt36, r10ZVnqt36, r11ZVnqt36, r12ZVnqt36, r13ZVnqt36, r14ZVnqt36, r15ZVnqt36, r16ZVnqt36, r17ZVnqt36, r18ZVnqt36, r19ZVnqt36, r20ZVnqt36, k0ZVnqt36, k1ZVnqt36, k2ZVnqt36, k3ZVnqt36, k4ZVnqt36⟩ := pbZVnqt36
    exact ⟨_, eqt36, Wqt36, F58, ⟨bf2qt36, bt2qt36, bd2qt36, bksqt36, bklqt36, bkwqt36, bnaqt36, blbqt36, bnwqt36, bvnqt36, h0ZVnqt36, h1ZVnqt36, h2ZVnqt36, h3ZVnqt36, h4ZVnqt36, h5ZVnqt36, h6ZVnqt36, h7ZVnqt36, h8ZVnqt36, h9ZVnqt36, h10ZVnqt36, tksqt36, tklqt36, tkwqt36, by (try dsimp only); omega, by (try dsimp only); omega, by (try dsimp only); omega, by (try dsimp only); omega, by (try dsimp only); omega, by (try dsimp only); omega, by (try dsimp only); omega, by (try dsimp only); omega, by (try dsimp only); omega, by (try dsimp only); omega, by (try dsimp only); omega, by (try dsimp only); omega, by (try dsimp only); omega, by (try dsimp only); omega, by (try dsimp only); omega, by (try dsimp only); omega, by (try dsimp only); omega, by (try dsimp only); omega, by (try dsimp only); omega, by (try dsimp only); omega, by (try dsimp only); omega, k0ZVnqt36, k1ZVnqt36, k2ZVnqt36, k3ZVnqt36, k4ZVnqt36⟩⟩

end ZzT
