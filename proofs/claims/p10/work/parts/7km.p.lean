section ZzT
abbrev M_Mo_item_57 : List (Nat × Nat) := [(64, 18), (64, 19), (64, 20), (64, 52), (64, 53), (64, 56), (64, 57), (64, 65), (64, 69), (79, 0), (80, 0), (81, 0), (82, 0), (83, 0), (84, 0), (85, 0), (86, 0), (87, 0), (88, 0), (89, 0), (90, 0), (91, 0), (92, 0), (93, 0), (94, 0), (95, 0), (96, 0), (97, 0), (98, 0), (103, 0), (104, 0), (105, 0), (106, 0), (107, 0), (108, 0), (109, 0), (110, 0), (111, 0), (112, 0), (113, 0), (114, 0), (115, 0), (116, 0), (134, 0)]
set_option maxRecDepth 100000 in
set_option maxHeartbeats 4000000 in
theorem p_Mo_item_57 {nf : Nat} (hn : 8589934592 ≤ nf) {G : List Nat} {c : Zc} (W : Zwt zty G c) {x0 : Nat} {x1 : Int32} {ni : Int32} {bc : Int32} {pv : Int32} {fv : Int32} {tv : Int32} {dv : Int32} {kg : Nat} {gc : Int32} {cd : Int32} {ki : Nat} {it : Int32} (t_x0 : G[x0]? = some 64) (pl_pv : 0 ≤ pv.toInt) (pu_pv : pv.toInt ≤ 8) (pl_fv : 0 ≤ fv.toInt) (pu_fv : fv.toInt ≤ 0) (pl_tv : 0 ≤ tv.toInt) (pu_tv : tv.toInt ≤ 200) (pl_dv : 0 ≤ dv.toInt) (pu_dv : dv.toInt ≤ 11) (pl_gc : 0 ≤ gc.toInt) (pu_gc : gc.toInt ≤ 79) (pl_cd : 0 ≤ cd.toInt) (pu_cd : cd.toInt ≤ 400) (pl_it : 0 ≤ it.toInt) (pu_it : it.toInt ≤ 8) (eh_pv : zgi c x0 12 25 = some pv) (eh_fv : zgi c x0 12 19 = some fv) (eh_tv : zgi c x0 12 18 = some tv) (eh_dv : zgi c x0 12 53 = some dv) (eh_kg : zgr c x0 12 28 = some kg) (eh_gc : zai c kg 0 pv = some gc) (eh_cd : zgi c x0 12 52 = some cd) (eh_ki : zgr c x0 12 43 = some ki) (eh_it : zai c ki 0 pv = some it) (pp_7 : it.toInt = ni.toInt) (pp_8 : 3 * gc.toInt ≤ tv.toInt) (pp_9 : cd.toInt + 1 ≤ tv.toInt) (hb_ZV : ZV G c x0 pv fv tv dv ni bc) : ∃ q, f_Mo_item_57 nf x0 x1 c = some q ∧ Zwt zty G q ∧ Zfr G M_Mo_item_57 c q ∧ ZVi G q x0 pv fv tv dv ni bc := by
  have F0 : Zfr G M_Mo_item_57 c c := Zfr.rf
  unfold f_Mo_item_57
  obtain ⟨xq, xe, tqw_1⟩ := gf_64_28 W t_x0
  rw [eh_kg] at xe; cases xe
  obtain ⟨xq, xe, tqw_2⟩ := gf_64_43 W t_x0
  rw [eh_ki] at xe; cases xe
  obtain ⟨bks0, bkl0, bkw0, bna0, blb0, bnw0, bvn0, h0ZV0, h1ZV0, h2ZV0, h3ZV0, h4ZV0, h5ZV0, h6ZV0, h7ZV0, h8ZV0, h9ZV0, h10ZV0, tks0, tkl0, tkw0, r0ZV0, r1ZV0, r2ZV0, r3ZV0, r4ZV0, r5ZV0, r6ZV0, r7ZV0, r8ZV0, r9ZV0, r10ZV0, r11ZV0, r12ZV0, r13ZV0, r14ZV0, r15ZV0, r16ZV0, r17ZV0, k0ZV0, k1ZV0, k2ZV0, k3ZV0, k4ZV0⟩ := hb_ZV
  obtain ⟨w5, ew5⟩ := go_64 W t_x0
  refine wb ew5 ?_
  obtain ⟨q4, eq4, Wq4, fq4, pbZStq4⟩ := p_Mo_stands hn W  t_x0 (by omega) (by omega) (by omega) (by omega) h1ZV0 h2ZV0
  refine wb eq4 ?_
  have e5 := (Zfr.gi fq4 t_x0 (by decide)).trans h0ZV0
  have e6 := (Zfr.gi fq4 t_x0 (by decide)).trans h2ZV0
  have e7 := (Zfr.gi fq4 t_x0 (by decide)).trans h3ZV0
  have e8 := (Zfr.gr fq4 t_x0 (by decide)).trans eh_kg
  have e9 := (Zfr.ai fq4 tqw_1 (by decide)).trans eh_gc
  have e10 := (Zfr.gi fq4 t_x0 (by decide)).trans eh_cd
  have e11 := (Zfr.gr fq4 t_x0 (by decide)).trans eh_ki
  have e12 := (Zfr.ai fq4 tqw_2 (by decide)).trans eh_it
  have e13 := (Zfr.gr fq4 t_x0 (by decide)).trans h4ZV0
  have e14 := (Zfr.gr fq4 t_x0 (by decide)).trans h5ZV0
  have e15 := (Zfr.gr fq4 t_x0 (by decide)).trans h6ZV0
  have e16 := (Zfr.ai fq4 tks0 (by decide)).trans h7ZV0
  have e17 := (Zfr.ai fq4 tkl0 (by decide)).trans h8ZV0
  have e18 := (Zfr.ai fq4 tkw0 (by decide)).trans h9ZV0
  have e19 := (Zfr.gi fq4 t_x0 (by decide)).trans h10ZV0
  have k20 := GtP_fr k0ZV0 fq4 t_x0 W (by decide)
  have sc22 : Sc c q4 x0 (0) (0) := by
    obtain ⟨yf2, z0y, x0y, x1y, x2y⟩ := pbZStq4
    exact Sc_mk h1ZV0 z0y h2ZV0 ((Zfr.gi (ci := 12) fq4 t_x0 (by decide)).trans h2ZV0) h3ZV0 ((Zfr.gi (ci := 12) fq4 t_x0 (by decide)).trans h3ZV0) (by omega)
  have k21 := WyN_fr k1ZV0 fq4 t_x0 W (by decide) sc22
  have k23 := TbI_fr k2ZV0 fq4 t_x0 W (by decide) sc22
  have k24 := TbC_fr k3ZV0 fq4 t_x0 W (by decide) sc22
  have k25 := TkN_fr k4ZV0 fq4 t_x0 W (by decide)
  have F26 := Zfr.tr F0 fq4 (by decide)
  obtain ⟨bf2q4, h0ZStq4, r0ZStq4, r1ZStq4, r2ZStq4⟩ := pbZStq4
  refine wb e11 ?_
  refine wb e5 ?_
  refine wb e12 ?_
  refine wi (fun hq27 => ?_) (fun hq27 => ?_)
  · have := li_8
    have hq27 := i_eq hq27
    obtain ⟨v35, ev35, tv35⟩ := gf_64_16 Wq4 t_x0
    refine wb ev35 ?_
    refine wb e6 ?_
    obtain ⟨v37, ev37, _⟩ := ga_76 Wq4 tv35 (i := tv) (by omega) (by omega)
    refine wb ev37 ?_
    obtain ⟨w39, ew39⟩ := go_64 Wq4 t_x0
    refine wb ew39 ?_
    have := li_3
    obtain ⟨q38, eq38, Wq38, fq38, pbZSfq38⟩ := p_Mo_refuse hn Wq4 (a1 := 3) (a2 := v37) t_x0 (by omega) (by omega) (by omega) (by omega) h0ZStq4
    refine wb eq38 ?_
    have e29 := (Zfr.gi fq38 t_x0 (by decide)).trans e5
    have e30 := (Zfr.gi fq38 t_x0 (by decide)).trans e6
    have e31 := (Zfr.gi fq38 t_x0 (by decide)).trans e7
    have e32 := (Zfr.gr fq38 t_x0 (by decide)).trans e8
    have e33 := (Zfr.ai fq38 tqw_1 (by decide)).trans e9
    have e34 := (Zfr.gi fq38 t_x0 (by decide)).trans e10
    have e35 := (Zfr.gr fq38 t_x0 (by decide)).trans e11
    have e36 := (Zfr.ai fq38 tqw_2 (by decide)).trans e12
    have e37 := (Zfr.gr fq38 t_x0 (by decide)).trans e13
    have e38 := (Zfr.gr fq38 t_x0 (by decide)).trans e14
    have e39 := (Zfr.gr fq38 t_x0 (by decide)).trans e15
    have e40 := (Zfr.ai fq38 tks0 (by decide)).trans e16
    have e41 := (Zfr.ai fq38 tkl0 (by decide)).trans e17
    have e42 := (Zfr.ai fq38 tkw0 (by decide)).trans e18
    have e43 := (Zfr.gi fq38 t_x0 (by decide)).trans e19
    have e44 := (Zfr.ai fq38 tv35 (by decide)).trans ev37
    have k45 := GtP_fr k20 fq38 t_x0 Wq4 (by decide)
    have sc47 : Sc q4 q38 x0 (0) (0) := by
      obtain ⟨yf2, z0y, x0y, x1y⟩ := pbZSfq38
      exact Sc_mk h0ZStq4 z0y e6 ((Zfr.gi (ci := 12) fq38 t_x0 (by decide)).trans e6) e7 ((Zfr.gi (ci := 12) fq38 t_x0 (by decide)).trans e7) (by omega)
    have k46 := WyN_fr k21 fq38 t_x0 Wq4 (by decide) sc47
    have k48 := TbI_fr k23 fq38 t_x0 Wq4 (by decide) sc47
    have k49 := TbC_fr k24 fq38 t_x0 Wq4 (by decide) sc47
    have k50 := TkN_fr k25 fq38 t_x0 Wq4 (by decide)
    have F51 := Zfr.tr F26 fq38 (by decide)
    obtain ⟨bf2q38, h0ZSfq38, r0ZSfq38, r1ZSfq38⟩ := pbZSfq38
    exact ⟨_, rfl, Wq38, F51, ⟨bf2q38, tv, dv, bks0, bkl0, bkw0, bna0, blb0, bnw0, bvn0, kg, gc, cd, ki, it, e29, h0ZSfq38, e30, e31, e37, e38, e39, e40, e41, e42, e43, e32, e33, e34, e35, e36, tks0, tkl0, tkw0, tqw_1, tqw_2, by (try dsimp only); omega, by (try dsimp only); omega, by (try dsimp only); omega, by (try dsimp only); omega, by (try dsimp only); omega, by (try dsimp only); omega, by (try dsimp only); omega, by (try dsimp only); omega, by (try dsimp only); omega, by (try dsimp only); omega, by (try dsimp only); omega, by (try dsimp only); omega, by (try dsimp only); omega, by (try dsimp only); omega, by (try dsimp only); omega, by (try dsimp only); omega, by (try dsimp only); omega, by (try dsimp only); omega, by (try dsimp only); omega, by (try dsimp only); omega, by (try dsimp only); omega, by (try dsimp only); omega, by (try dsimp only); omega, by (try dsimp only); omega, by (try dsimp only); omega, by (try dsimp only); omega, k45, k46, TbI_m k48 (by omega), k49, k50⟩⟩
  · have := li_8
    have hq27 := i_ne hq27
    refine wb e5 ?_
    refine wb e11 ?_
    refine wb e5 ?_
    refine wb e12 ?_
    refine wb e11 ?_
    refine wb e5 ?_
    refine wb e12 ?_
    have := li_1
    have := i_add (a := it) (b := 1) (by omega) (by omega)
    obtain ⟨c17, ec17, Wc17, fc17, gc17⟩ := pa_96 Wq4 tqw_2 (i := pv) (by omega) (by omega) (x := (it + 1)) (rgi (by omega) (by omega))
    refine wb ec17 ?_
    have e69 := (Zfr.gi fc17 t_x0 (by decide)).trans e5
    have e70 := (Zfr.gi fc17 t_x0 (by decide)).trans e6
    have e71 := (Zfr.gi fc17 t_x0 (by decide)).trans e7
    have e72 := (Zfr.gr fc17 t_x0 (by decide)).trans e8
    have e73 := (Zfr.ai fc17 tqw_1 (by decide)).trans e9
    have e74 := (Zfr.gi fc17 t_x0 (by decide)).trans e10
    have e75 := (Zfr.gr fc17 t_x0 (by decide)).trans e11
    have e76 := (Zfr.gr fc17 t_x0 (by decide)).trans e13
    have e77 := (Zfr.gr fc17 t_x0 (by decide)).trans e14
    have e78 := (Zfr.gr fc17 t_x0 (by decide)).trans e15
    have e79 := (Zfr.ai fc17 tks0 (by decide)).trans e16
    have e80 := (Zfr.ai fc17 tkl0 (by decide)).trans e17
    have e81 := (Zfr.ai fc17 tkw0 (by decide)).trans e18
    have e82 := (Zfr.gi fc17 t_x0 (by decide)).trans e19
    have e83 := (Zfr.gi fc17 t_x0 (by decide)).trans h0ZStq4
    have k84 := GtP_w43 k20 Wq4 t_x0 fc17 e5 e11 ec17 (by omega) (by omega) (by omega)
    have sc86 := Sc_fr fc17 t_x0 (by decide) (by decide) (by decide)
    have k85 := WyN_fr k21 fc17 t_x0 Wq4 (by decide) sc86
    have k87 := TbI_fr k23 fc17 t_x0 Wq4 (by decide) sc86
    have k88 := TbC_fr k24 fc17 t_x0 Wq4 (by decide) sc86
    have k89 := TkN_fr k25 fc17 t_x0 Wq4 (by decide)
    have F90 := Zfr.tr F26 fc17 (by decide)
    obtain ⟨v18, ev18, tv18⟩ := gf_64_44 Wc17 t_x0
    refine wb ev18 ?_
    refine wi (fun hq91 => ?_) (fun hq91 => ?_)
    · have := li_109
      have := i_ge x1
      have := i_up x1
      have hq91 := i_lt hq91
      unfold f_Mo_item_142
      unfold f_Mo_item_143
      have := i_mull (a := 8) (b := pv) (n := 8) li_8 (by omega) (by omega)
      have := i_add (a := (8 * pv)) (b := it) (by omega) (by omega)
      obtain ⟨c20, ec20, Wc20, fc20, gc20⟩ := pa_97 Wc17 tv18 (i := ((8 * pv) + it)) (by omega) (by omega) (x := 0) (trivial)
      refine wb ec20 ?_
      have e92 := (Zfr.gi fc20 t_x0 (by decide)).trans e69
      have e93 := (Zfr.gi fc20 t_x0 (by decide)).trans e70
      have e94 := (Zfr.gi fc20 t_x0 (by decide)).trans e71
      have e95 := (Zfr.gr fc20 t_x0 (by decide)).trans e72
      have e96 := (Zfr.ai fc20 tqw_1 (by decide)).trans e73
      have e97 := (Zfr.gi fc20 t_x0 (by decide)).trans e74
      have e98 := (Zfr.gr fc20 t_x0 (by decide)).trans e75
      have e99 := (Zfr.gr fc20 t_x0 (by decide)).trans e76
      have e100 := (Zfr.gr fc20 t_x0 (by decide)).trans e77
      have e101 := (Zfr.gr fc20 t_x0 (by decide)).trans e78
      have e102 := (Zfr.ai fc20 tks0 (by decide)).trans e79
      have e103 := (Zfr.ai fc20 tkl0 (by decide)).trans e80
      have e104 := (Zfr.ai fc20 tkw0 (by decide)).trans e81
      have e105 := (Zfr.gi fc20 t_x0 (by decide)).trans e82
      have e106 := (Zfr.gi fc20 t_x0 (by decide)).trans e83
      have e107 := (Zfr.ai fc20 tqw_2 (by decide)).trans gc17
      have e108 := (Zfr.gr fc20 t_x0 (by decide)).trans ev18
      have k109 := GtP_w44 k84 Wc17 t_x0 fc20 e69 ev18 ec20 (by omega) (by omega) (by omega)
      have sc111 := Sc_fr fc20 t_x0 (by decide) (by decide) (by decide)
      have k110 := WyN_fr k85 fc20 t_x0 Wc17 (by decide) sc111
      have k112 := TbI_w44 k87 Wc17 t_x0 fc20 e69 ev18 ec20 (by omega) (by omega)
      have k113 := TbC_fr k88 fc20 t_x0 Wc17 (by decide) sc111
      have k114 := TkN_fr k89 fc20 t_x0 Wc17 (by decide)
      have F115 := Zfr.tr F90 fc20 (by decide)
      refine wb e108 ?_
      refine wb gc20 ?_
      refine wi (fun hq116 => ?_) (fun hq116 => ?_)
      · have := li_0
        have hq116 := i_le hq116
        unfold f_Mo_item_157
        obtain ⟨v24, ev24, tv24⟩ := gf_64_45 Wc20 t_x0
        refine wb ev24 ?_
        refine wb e97 ?_
        obtain ⟨c26, ec26, Wc26, fc26, gc26⟩ := pa_98 Wc20 tv24 (i := ((8 * pv) + it)) (by omega) (by omega) (x := cd) (rgi (by omega) (by omega))
        refine wb ec26 ?_
        have e117 := (Zfr.gi fc26 t_x0 (by decide)).trans e92
        have e118 := (Zfr.gi fc26 t_x0 (by decide)).trans e93
        have e119 := (Zfr.gi fc26 t_x0 (by decide)).trans e94
        have e120 := (Zfr.gr fc26 t_x0 (by decide)).trans e95
        have e121 := (Zfr.ai fc26 tqw_1 (by decide)).trans e96
        have e122 := (Zfr.gi fc26 t_x0 (by decide)).trans e97
        have e123 := (Zfr.gr fc26 t_x0 (by decide)).trans e98
        have e124 := (Zfr.gr fc26 t_x0 (by decide)).trans e99
        have e125 := (Zfr.gr fc26 t_x0 (by decide)).trans e100
        have e126 := (Zfr.gr fc26 t_x0 (by decide)).trans e101
        have e127 := (Zfr.ai fc26 tks0 (by decide)).trans e102
        have e128 := (Zfr.ai fc26 tkl0 (by decide)).trans e103
        have e129 := (Zfr.ai fc26 tkw0 (by decide)).trans e104
        have e130 := (Zfr.gi fc26 t_x0 (by decide)).trans e105
        have e131 := (Zfr.gi fc26 t_x0 (by decide)).trans e106
        have e132 := (Zfr.ai fc26 tqw_2 (by decide)).trans e107
        have e133 := (Zfr.gr fc26 t_x0 (by decide)).trans e108
        have e134 := (Zfr.ai fc26 tv18 (by decide)).trans gc20
        have e135 := (Zfr.gr fc26 t_x0 (by decide)).trans ev24
        have k136 := GtP_w45 k109 Wc20 t_x0 fc26 e92 ev24 ec26 (by omega) (by omega) (by omega)
        have sc138 := Sc_fr fc26 t_x0 (by decide) (by decide) (by decide)
        have k137 := WyN_fr k110 fc26 t_x0 Wc20 (by decide) sc138
        have k139 := TbI_w45 k112 Wc20 t_x0 fc26 e92 ev24 ec26 (by omega) (by omega)
        have k140 := TbC_fr k113 fc26 t_x0 Wc20 (by decide) sc138
        have k141 := TkN_fr k114 fc26 t_x0 Wc20 (by decide)
        have F142 := Zfr.tr F115 fc26 (by decide)
        refine wb e131 ?_
        refine wi (fun hq143 => ?_) (fun hq143 => ?_)
        · have hq143 := i_eq hq143
          refine wi (fun hq144 => ?_) (fun hq144 => ?_)
          · have hq144 := i_eq hq144
            exfalso
            omega
          · have hq144 := i_ne hq144
            obtain ⟨w31, ew31⟩ := go_64 Wc26 t_x0
            refine wb ew31 ?_
            have := li_3
            obtain ⟨q30, eq30, Wq30, fq30, pbZVeq30⟩ := p_Mo_parse hn Wc26 (a1 := 3) (ni := ni) (bc := bc) t_x0 (by omega) (by omega) (by omega) (by omega) (by omega) (by omega) (by omega) (by omega) (by omega) (by omega) (by omega) (by omega) (by omega) (by omega) e117 e131 e118 e119 e120 e121 e122 (by omega) (by omega) ⟨bks0, bkl0, bkw0, bna0, blb0, bnw0, bvn0, e117, e131, e118, e119, e124, e125, e126, e127, e128, e129, e130, tks0, tkl0, tkw0, by (try dsimp only); omega, by (try dsimp only); omega, by (try dsimp only); omega, by (try dsimp only); omega, by (try dsimp only); omega, by (try dsimp only); omega, by (try dsimp only); omega, by (try dsimp only); omega, by (try dsimp only); omega, by (try dsimp only); omega, by (try dsimp only); omega, by (try dsimp only); omega, by (try dsimp only); omega, by (try dsimp only); omega, by (try dsimp only); omega, by (try dsimp only); omega, by (try dsimp only); omega, by (try dsimp only); omega, k136, k137, k139, k140, k141⟩
            refine wb eq30 ?_
            have e163 := (Zfr.gi fq30 t_x0 (by decide)).trans e117
            have e164 := (Zfr.gr fq30 t_x0 (by decide)).trans e120
            have e165 := (Zfr.gr fq30 t_x0 (by decide)).trans e123
            have e166 := (Zfr.gr fq30 t_x0 (by decide)).trans e124
            have e167 := (Zfr.gr fq30 t_x0 (by decide)).trans e125
            have e168 := (Zfr.gr fq30 t_x0 (by decide)).trans e126
            have e169 := (Zfr.ai fq30 tqw_2 (by decide)).trans e132
            have e170 := (Zfr.gr fq30 t_x0 (by decide)).trans e133
            have e171 := (Zfr.ai fq30 tv18 (by decide)).trans e134
            have e172 := (Zfr.gr fq30 t_x0 (by decide)).trans e135
            have e173 := (Zfr.ai fq30 tv24 (by decide)).trans gc26
            have F174 := Zfr.tr F142 fq30 (by decide)
            obtain ⟨bf2q30, bt2q30, bd2q30, bksq30, bklq30, bkwq30, bnaq30, blbq30, bnwq30, bvnq30, bkgq30, bg2q30, bcd2q30, h0ZVeq30, h1ZVeq30, h2ZVeq30, h3ZVeq30, h4ZVeq30, h5ZVeq30, h6ZVeq30, h7ZVeq30, h8ZVeq30, h9ZVeq30, h10ZVeq30, h11ZVeq30, h12ZVeq30, h13ZVeq30, tksq30, tklq30, tkwq30, tkgq30, r0ZVeq30, r1ZVeq30, r2ZVeq30, r3ZVeq30, r4ZVeq30, r5ZVeq30, r6ZVeq30, r7ZVeq30, r8ZVeq30, r9ZVeq30, r10ZVeq30, r11ZVeq30, r12ZVeq30, r13ZVeq30, r14ZVeq30, r15ZVeq30, r16ZVeq30, r17ZVeq30, r18ZVeq30, r19ZVeq30, r20ZVeq30, r21ZVeq30, r22ZVeq30, r23ZVeq30, k0ZVeq30, k1ZVeq30, k2ZVeq30, k3ZVeq30, k4ZVeq30, k5ZVeq30⟩ := pbZVeq30
            unfold f_Mo_item_185
            exact ⟨_, rfl, Wq30, F174, ⟨bf2q30, bt2q30, bd2q30, bksq30, bklq30, bkwq30, bnaq30, blbq30, bnwq30, bvnq30, bkgq30, bg2q30, bcd2q30, ki, (it + 1), h0ZVeq30, h1ZVeq30, h2ZVeq30, h3ZVeq30, h4ZVeq30, h5ZVeq30, h6ZVeq30, h7ZVeq30, h8ZVeq30, h9ZVeq30, h10ZVeq30, h11ZVeq30, h12ZVeq30, h13ZVeq30, e165, e169, tksq30, tklq30, tkwq30, tkgq30, tqw_2, by (try dsimp only); omega, by (try dsimp only); omega, by (try dsimp only); omega, by (try dsimp only); omega, by (try dsimp only); omega, by (try dsimp only); omega, by (try dsimp only); omega, by (try dsimp only); omega, by (try dsimp only); omega, by (try dsimp only); omega, by (try dsimp only); omega, by (try dsimp only); omega, by (try dsimp only); omega, by (try dsimp only); omega, by (try dsimp only); omega, by (try dsimp only); omega, by (try dsimp only); omega, by (try dsimp only); omega, by (try dsimp only); omega, by (try dsimp only); omega, by (try dsimp only); omega, by (try dsimp only); omega, by (try dsimp only); omega, by (try dsimp only); omega, by (try dsimp only); omega, by (try dsimp only); omega, k0ZVeq30, k1ZVeq30, TbI_up k2ZVeq30 h0ZVeq30 (by omega) (by omega) (by omega) e170 e172 (by omega) e171 e173 h1ZVeq30 (.inr (.inr k5ZVeq30)), k3ZVeq30, k4ZVeq30⟩⟩
        · have hq143 := i_ne hq143
          unfold f_Mo_item_185
          exact ⟨_, rfl, Wc26, F142, ⟨bf2q4, tv, dv, bks0, bkl0, bkw0, bna0, blb0, bnw0, bvn0, kg, gc, cd, ki, (it + 1), e117, e131, e118, e119, e124, e125, e126, e127, e128, e129, e130, e120, e121, e122, e123, e132, tks0, tkl0, tkw0, tqw_1, tqw_2, by (try dsimp only); omega, by (try dsimp only); omega, by (try dsimp only); omega, by (try dsimp only); omega, by (try dsimp only); omega, by (try dsimp only); omega, by (try dsimp only); omega, by (try dsimp only); omega, by (try dsimp only); omega, by (try dsimp only); omega, by (try dsimp only); omega, by (try dsimp only); omega, by (try dsimp only); omega, by (try dsimp only); omega, by (try dsimp only); omega, by (try dsimp only); omega, by (try dsimp only); omega, by (try dsimp only); omega, by (try dsimp only); omega, by (try dsimp only); omega, by (try dsimp only); omega, by (try dsimp only); omega, by (try dsimp only); omega, by (try dsimp only); omega, by (try dsimp only); omega, by (try dsimp only); omega, k136, k137, TbI_up k139 e117 (by omega) (by omega) (by omega) e133 e135 (by omega) e134 gc26 e131 (.inl (by omega)), k140, k141⟩⟩
      · have := li_0
        have hq116 := i_nle hq116
        obtain ⟨w33, ew33⟩ := go_64 Wc20 t_x0
        refine wb ew33 ?_
        obtain ⟨q32, eq32, Wq32, fq32, pbZSq32⟩ := p_Mo_pass hn Wc20  t_x0 (by omega) (by omega) (by omega) (by omega) e106 e93
        refine wb eq32 ?_
        have e221 := (Zfr.gi fq32 t_x0 (by decide)).trans e92
        have e222 := (Zfr.gi fq32 t_x0 (by decide)).trans e94
        have e223 := (Zfr.gr fq32 t_x0 (by decide)).trans e95
        have e224 := (Zfr.ai fq32 tqw_1 (by decide)).trans e96
        have e225 := (Zfr.gi fq32 t_x0 (by decide)).trans e97
        have e226 := (Zfr.gr fq32 t_x0 (by decide)).trans e98
        have e227 := (Zfr.gr fq32 t_x0 (by decide)).trans e99
        have e228 := (Zfr.gr fq32 t_x0 (by decide)).trans e100
        have e229 := (Zfr.gr fq32 t_x0 (by decide)).trans e101
        have e230 := (Zfr.ai fq32 tks0 (by decide)).trans e102
        have e231 := (Zfr.ai fq32 tkl0 (by decide)).trans e103
        have e232 := (Zfr.ai fq32 tkw0 (by decide)).trans e104
        have e233 := (Zfr.gi fq32 t_x0 (by decide)).trans e105
        have e234 := (Zfr.ai fq32 tqw_2 (by decide)).trans e107
        have e235 := (Zfr.gr fq32 t_x0 (by decide)).trans e108
        have e236 := (Zfr.ai fq32 tv18 (by decide)).trans gc20
        have k237 := GtP_fr k109 fq32 t_x0 Wc20 (by decide)
        have sc239 : Sc c20 q32 x0 (1) (0) := by
          obtain ⟨yf2, yt2, z0y, z1y, x0y, x1y, x2y, x3y, x4y, x5y⟩ := pbZSq32
          exact Sc_mk e106 z0y e93 z1y e94 ((Zfr.gi (ci := 12) fq32 t_x0 (by decide)).trans e94) (by omega)
        have k238 := WyN_fr k110 fq32 t_x0 Wc20 (by decide) sc239
        have k240 := TbI_fr k112 fq32 t_x0 Wc20 (by decide) sc239
        have k241 := TbC_fr k113 fq32 t_x0 Wc20 (by decide) sc239
        have k242 := TkN_fr k114 fq32 t_x0 Wc20 (by decide)
        have F243 := Zfr.tr F115 fq32 (by decide)
        obtain ⟨bf2q32, bt2q32, h0ZSq32, h1ZSq32, r0ZSq32, r1ZSq32, r2ZSq32, r3ZSq32, r4ZSq32, r5ZSq32⟩ := pbZSq32
        unfold f_Mo_item_157
        obtain ⟨v24, ev24, tv24⟩ := gf_64_45 Wq32 t_x0
        refine wb ev24 ?_
        refine wb e225 ?_
        obtain ⟨c26, ec26, Wc26, fc26, gc26⟩ := pa_98 Wq32 tv24 (i := ((8 * pv) + it)) (by omega) (by omega) (x := cd) (rgi (by omega) (by omega))
        refine wb ec26 ?_
        have e244 := (Zfr.gi fc26 t_x0 (by decide)).trans e221
        have e245 := (Zfr.gi fc26 t_x0 (by decide)).trans e222
        have e246 := (Zfr.gr fc26 t_x0 (by decide)).trans e223
        have e247 := (Zfr.ai fc26 tqw_1 (by decide)).trans e224
        have e248 := (Zfr.gi fc26 t_x0 (by decide)).trans e225
        have e249 := (Zfr.gr fc26 t_x0 (by decide)).trans e226
        have e250 := (Zfr.gr fc26 t_x0 (by decide)).trans e227
        have e251 := (Zfr.gr fc26 t_x0 (by decide)).trans e228
        have e252 := (Zfr.gr fc26 t_x0 (by decide)).trans e229
        have e253 := (Zfr.ai fc26 tks0 (by decide)).trans e230
        have e254 := (Zfr.ai fc26 tkl0 (by decide)).trans e231
        have e255 := (Zfr.ai fc26 tkw0 (by decide)).trans e232
        have e256 := (Zfr.gi fc26 t_x0 (by decide)).trans e233
        have e257 := (Zfr.ai fc26 tqw_2 (by decide)).trans e234
        have e258 := (Zfr.gr fc26 t_x0 (by decide)).trans e235
        have e259 := (Zfr.ai fc26 tv18 (by decide)).trans e236
        have e260 := (Zfr.gi fc26 t_x0 (by decide)).trans h0ZSq32
        have e261 := (Zfr.gi fc26 t_x0 (by decide)).trans h1ZSq32
        have e262 := (Zfr.gr fc26 t_x0 (by decide)).trans ev24
        have k263 := GtP_w45 k237 Wq32 t_x0 fc26 e221 ev24 ec26 (by omega) (by omega) (by omega)
        have sc265 := Sc_fr fc26 t_x0 (by decide) (by decide) (by decide)
        have k264 := WyN_fr k238 fc26 t_x0 Wq32 (by decide) sc265
        have k266 := TbI_w45 k240 Wq32 t_x0 fc26 e221 ev24 ec26 (by omega) (by omega)
        have k267 := TbC_fr k241 fc26 t_x0 Wq32 (by decide) sc265
        have k268 := TkN_fr k242 fc26 t_x0 Wq32 (by decide)
        have F269 := Zfr.tr F243 fc26 (by decide)
        refine wb e260 ?_
        refine wi (fun hq270 => ?_) (fun hq270 => ?_)
        · have hq270 := i_eq hq270
          refine wi (fun hq271 => ?_) (fun hq271 => ?_)
          · have hq271 := i_eq hq271
            exfalso
            omega
          · have hq271 := i_ne hq271
            obtain ⟨w31, ew31⟩ := go_64 Wc26 t_x0
            refine wb ew31 ?_
            have := li_3
            obtain ⟨q30, eq30, Wq30, fq30, pbZVeq30⟩ := p_Mo_parse hn Wc26 (a1 := 3) (ni := ni) (bc := bc) t_x0 (by omega) (by omega) (by omega) (by omega) (by omega) (by omega) (by omega) (by omega) (by omega) (by omega) (by omega) (by omega) (by omega) (by omega) e244 e260 e261 e245 e246 e247 e248 (by omega) (by omega) ⟨bks0, bkl0, bkw0, bna0, blb0, bnw0, bvn0, e244, e260, e261, e245, e250, e251, e252, e253, e254, e255, e256, tks0, tkl0, tkw0, by (try dsimp only); omega, by (try dsimp only); omega, by (try dsimp only); omega, by (try dsimp only); omega, by (try dsimp only); omega, by (try dsimp only); omega, by (try dsimp only); omega, by (try dsimp only); omega, by (try dsimp only); omega, by (try dsimp only); omega, by (try dsimp only); omega, by (try dsimp only); omega, by (try dsimp only); omega, by (try dsimp only); omega, by (try dsimp only); omega, by (try dsimp only); omega, by (try dsimp only); omega, by (try dsimp only); omega, k263, k264, k266, k267, k268⟩
            refine wb eq30 ?_
            have e290 := (Zfr.gi fq30 t_x0 (by decide)).trans e244
            have e291 := (Zfr.gr fq30 t_x0 (by decide)).trans e246
            have e292 := (Zfr.gr fq30 t_x0 (by decide)).trans e249
            have e293 := (Zfr.gr fq30 t_x0 (by decide)).trans e250
            have e294 := (Zfr.gr fq30 t_x0 (by decide)).trans e251
            have e295 := (Zfr.gr fq30 t_x0 (by decide)).trans e252
            have e296 := (Zfr.ai fq30 tqw_2 (by decide)).trans e257
            have e297 := (Zfr.gr fq30 t_x0 (by decide)).trans e258
            have e298 := (Zfr.ai fq30 tv18 (by decide)).trans e259
            have e299 := (Zfr.gr fq30 t_x0 (by decide)).trans e262
            have e300 := (Zfr.ai fq30 tv24 (by decide)).trans gc26
            have F301 := Zfr.tr F269 fq30 (by decide)
            obtain ⟨bf2q30, bt2q30, bd2q30, bksq30, bklq30, bkwq30, bnaq30, blbq30, bnwq30, bvnq30, bkgq30, bg2q30, bcd2q30, h0ZVeq30, h1ZVeq30, h2ZVeq30, h3ZVeq30, h4ZVeq30, h5ZVeq30, h6ZVeq30, h7ZVeq30, h8ZVeq30, h9ZVeq30, h10ZVeq30, h11ZVeq30, h12ZVeq30, h13ZVeq30, tksq30, tklq30, tkwq30, tkgq30, r0ZVeq30, r1ZVeq30, r2ZVeq30, r3ZVeq30, r4ZVeq30, r5ZVeq30, r6ZVeq30, r7ZVeq30, r8ZVeq30, r9ZVeq30, r10ZVeq30, r11ZVeq30, r12ZVeq30, r13ZVeq30, r14ZVeq30, r15ZVeq30, r16ZVeq30, r17ZVeq30, r18ZVeq30, r19ZVeq30, r20ZVeq30, r21ZVeq30, r22ZVeq30, r23ZVeq30, k0ZVeq30, k1ZVeq30, k2ZVeq30, k3ZVeq30, k4ZVeq30, k5ZVeq30⟩ := pbZVeq30
            unfold f_Mo_item_185
            exact ⟨_, rfl, Wq30, F301, ⟨bf2q30, bt2q30, bd2q30, bksq30, bklq30, bkwq30, bnaq30, blbq30, bnwq30, bvnq30, bkgq30, bg2q30, bcd2q30, ki, (it + 1), h0ZVeq30, h1ZVeq30, h2ZVeq30, h3ZVeq30, h4ZVeq30, h5ZVeq30, h6ZVeq30, h7ZVeq30, h8ZVeq30, h9ZVeq30, h10ZVeq30, h11ZVeq30, h12ZVeq30, h13ZVeq30, e292, e296, tksq30, tklq30, tkwq30, tkgq30, tqw_2, by (try dsimp only); omega, by (try dsimp only); omega, by (try dsimp only); omega, by (try dsimp only); omega, by (try dsimp only); omega, by (try dsimp only); omega, by (try dsimp only); omega, by (try dsimp only); omega, by (try dsimp only); omega, by (try dsimp only); omega, by (try dsimp only); omega, by (try dsimp only); omega, by (try dsimp only); omega, by (try dsimp only); omega, by (try dsimp only); omega, by (try dsimp only); omega, by (try dsimp only); omega, by (try dsimp only); omega, by (try dsimp only); omega, by (try dsimp only); omega, by (try dsimp only); omega, by (try dsimp only); omega, by (try dsimp only); omega, by (try dsimp only); omega, by (try dsimp only); omega, by (try dsimp only); omega, k0ZVeq30, k1ZVeq30, TbI_up k2ZVeq30 h0ZVeq30 (by omega) (by omega) (by omega) e297 e299 (by omega) e298 e300 h1ZVeq30 (.inr (.inr k5ZVeq30)), k3ZVeq30, k4ZVeq30⟩⟩
        · have hq270 := i_ne hq270
          unfold f_Mo_item_185
          exact ⟨_, rfl, Wc26, F269, ⟨bf2q32, bt2q32, dv, bks0, bkl0, bkw0, bna0, blb0, bnw0, bvn0, kg, gc, cd, ki, (it + 1), e244, e260, e261, e245, e250, e251, e252, e253, e254, e255, e256, e246, e247, e248, e249, e257, tks0, tkl0, tkw0, tqw_1, tqw_2, by (try dsimp only); omega, by (try dsimp only); omega, by (try dsimp only); omega, by (try dsimp only); omega, by (try dsimp only); omega, by (try dsimp only); omega, by (try dsimp only); omega, by (try dsimp only); omega, by (try dsimp only); omega, by (try dsimp only); omega, by (try dsimp only); omega, by (try dsimp only); omega, by (try dsimp only); omega, by (try dsimp only); omega, by (try dsimp only); omega, by (try dsimp only); omega, by (try dsimp only); omega, by (try dsimp only); omega, by (try dsimp only); omega, by (try dsimp only); omega, by (try dsimp only); omega, by (try dsimp only); omega, by (try dsimp only); omega, by (try dsimp only); omega, by (try dsimp only); omega, by (try dsimp only); omega, k263, k264, TbI_up k266 e244 (by omega) (by omega) (by omega) e258 e262 (by omega) e259 gc26 e260 (.inl (by omega)), k267, k268⟩⟩
    · have := li_109
      have := i_ge x1
      have := i_up x1
      have hq91 := i_nlt hq91
      refine wi (fun hq346 => ?_) (fun hq346 => ?_)
      · have := li_112
        have hq346 := i_lt hq346
        unfold f_Mo_item_142
        unfold f_Mo_item_143
        have := i_mull (a := 8) (b := pv) (n := 8) li_8 (by omega) (by omega)
        have := i_add (a := (8 * pv)) (b := it) (by omega) (by omega)
        obtain ⟨c20, ec20, Wc20, fc20, gc20⟩ := pa_97 Wc17 tv18 (i := ((8 * pv) + it)) (by omega) (by omega) (x := 0) (trivial)
        refine wb ec20 ?_
        have e347 := (Zfr.gi fc20 t_x0 (by decide)).trans e69
        have e348 := (Zfr.gi fc20 t_x0 (by decide)).trans e70
        have e349 := (Zfr.gi fc20 t_x0 (by decide)).trans e71
        have e350 := (Zfr.gr fc20 t_x0 (by decide)).trans e72
        have e351 := (Zfr.ai fc20 tqw_1 (by decide)).trans e73
        have e352 := (Zfr.gi fc20 t_x0 (by decide)).trans e74
        have e353 := (Zfr.gr fc20 t_x0 (by decide)).trans e75
        have e354 := (Zfr.gr fc20 t_x0 (by decide)).trans e76
        have e355 := (Zfr.gr fc20 t_x0 (by decide)).trans e77
        have e356 := (Zfr.gr fc20 t_x0 (by decide)).trans e78
        have e357 := (Zfr.ai fc20 tks0 (by decide)).trans e79
        have e358 := (Zfr.ai fc20 tkl0 (by decide)).trans e80
        have e359 := (Zfr.ai fc20 tkw0 (by decide)).trans e81
        have e360 := (Zfr.gi fc20 t_x0 (by decide)).trans e82
        have e361 := (Zfr.gi fc20 t_x0 (by decide)).trans e83
        have e362 := (Zfr.ai fc20 tqw_2 (by decide)).trans gc17
        have e363 := (Zfr.gr fc20 t_x0 (by decide)).trans ev18
        have k364 := GtP_w44 k84 Wc17 t_x0 fc20 e69 ev18 ec20 (by omega) (by omega) (by omega)
        have sc366 := Sc_fr fc20 t_x0 (by decide) (by decide) (by decide)
        have k365 := WyN_fr k85 fc20 t_x0 Wc17 (by decide) sc366
        have k367 := TbI_w44 k87 Wc17 t_x0 fc20 e69 ev18 ec20 (by omega) (by omega)
        have k368 := TbC_fr k88 fc20 t_x0 Wc17 (by decide) sc366
        have k369 := TkN_fr k89 fc20 t_x0 Wc17 (by decide)
        have F370 := Zfr.tr F90 fc20 (by decide)
        refine wb e363 ?_
        refine wb gc20 ?_
        refine wi (fun hq371 => ?_) (fun hq371 => ?_)
        · have := li_0
          have hq371 := i_le hq371
          unfold f_Mo_item_157
          obtain ⟨v24, ev24, tv24⟩ := gf_64_45 Wc20 t_x0
          refine wb ev24 ?_
          refine wb e352 ?_
          obtain ⟨c26, ec26, Wc26, fc26, gc26⟩ := pa_98 Wc20 tv24 (i := ((8 * pv) + it)) (by omega) (by omega) (x := cd) (rgi (by omega) (by omega))
          refine wb ec26 ?_
          have e372 := (Zfr.gi fc26 t_x0 (by decide)).trans e347
          have e373 := (Zfr.gi fc26 t_x0 (by decide)).trans e348
          have e374 := (Zfr.gi fc26 t_x0 (by decide)).trans e349
          have e375 := (Zfr.gr fc26 t_x0 (by decide)).trans e350
          have e376 := (Zfr.ai fc26 tqw_1 (by decide)).trans e351
          have e377 := (Zfr.gi fc26 t_x0 (by decide)).trans e352
          have e378 := (Zfr.gr fc26 t_x0 (by decide)).trans e353
          have e379 := (Zfr.gr fc26 t_x0 (by decide)).trans e354
          have e380 := (Zfr.gr fc26 t_x0 (by decide)).trans e355
          have e381 := (Zfr.gr fc26 t_x0 (by decide)).trans e356
          have e382 := (Zfr.ai fc26 tks0 (by decide)).trans e357
          have e383 := (Zfr.ai fc26 tkl0 (by decide)).trans e358
          have e384 := (Zfr.ai fc26 tkw0 (by decide)).trans e359
          have e385 := (Zfr.gi fc26 t_x0 (by decide)).trans e360
          have e386 := (Zfr.gi fc26 t_x0 (by decide)).trans e361
          have e387 := (Zfr.ai fc26 tqw_2 (by decide)).trans e362
          have e388 := (Zfr.gr fc26 t_x0 (by decide)).trans e363
          have e389 := (Zfr.ai fc26 tv18 (by decide)).trans gc20
          have e390 := (Zfr.gr fc26 t_x0 (by decide)).trans ev24
          have k391 := GtP_w45 k364 Wc20 t_x0 fc26 e347 ev24 ec26 (by omega) (by omega) (by omega)
          have sc393 := Sc_fr fc26 t_x0 (by decide) (by decide) (by decide)
          have k392 := WyN_fr k365 fc26 t_x0 Wc20 (by decide) sc393
          have k394 := TbI_w45 k367 Wc20 t_x0 fc26 e347 ev24 ec26 (by omega) (by omega)
          have k395 := TbC_fr k368 fc26 t_x0 Wc20 (by decide) sc393
          have k396 := TkN_fr k369 fc26 t_x0 Wc20 (by decide)
          have F397 := Zfr.tr F370 fc26 (by decide)
          refine wb e386 ?_
          refine wi (fun hq398 => ?_) (fun hq398 => ?_)
          · have hq398 := i_eq hq398
            refine wi (fun hq399 => ?_) (fun hq399 => ?_)
            · have hq399 := i_eq hq399
              exfalso
              omega
            · have hq399 := i_ne hq399
              obtain ⟨w31, ew31⟩ := go_64 Wc26 t_x0
              refine wb ew31 ?_
              have := li_3
              obtain ⟨q30, eq30, Wq30, fq30, pbZVeq30⟩ := p_Mo_parse hn Wc26 (a1 := 3) (ni := ni) (bc := bc) t_x0 (by omega) (by omega) (by omega) (by omega) (by omega) (by omega) (by omega) (by omega) (by omega) (by omega) (by omega) (by omega) (by omega) (by omega) e372 e386 e373 e374 e375 e376 e377 (by omega) (by omega) ⟨bks0, bkl0, bkw0, bna0, blb0, bnw0, bvn0, e372, e386, e373, e374, e379, e380, e381, e382, e383, e384, e385, tks0, tkl0, tkw0, by (try dsimp only); omega, by (try dsimp only); omega, by (try dsimp only); omega, by (try dsimp only); omega, by (try dsimp only); omega, by (try dsimp only); omega, by (try dsimp only); omega, by (try dsimp only); omega, by (try dsimp only); omega, by (try dsimp only); omega, by (try dsimp only); omega, by (try dsimp only); omega, by (try dsimp only); omega, by (try dsimp only); omega, by (try dsimp only); omega, by (try dsimp only); omega, by (try dsimp only); omega, by (try dsimp only); omega, k391, k392, k394, k395, k396⟩
              refine wb eq30 ?_
              have e418 := (Zfr.gi fq30 t_x0 (by decide)).trans e372
              have e419 := (Zfr.gr fq30 t_x0 (by decide)).trans e375
              have e420 := (Zfr.gr fq30 t_x0 (by decide)).trans e378
              have e421 := (Zfr.gr fq30 t_x0 (by decide)).trans e379
              have e422 := (Zfr.gr fq30 t_x0 (by decide)).trans e380
              have e423 := (Zfr.gr fq30 t_x0 (by decide)).trans e381
              have e424 := (Zfr.ai fq30 tqw_2 (by decide)).trans e387
              have e425 := (Zfr.gr fq30 t_x0 (by decide)).trans e388
              have e426 := (Zfr.ai fq30 tv18 (by decide)).trans e389
              have e427 := (Zfr.gr fq30 t_x0 (by decide)).trans e390
              have e428 := (Zfr.ai fq30 tv24 (by decide)).trans gc26
              have F429 := Zfr.tr F397 fq30 (by decide)
              obtain ⟨bf2q30, bt2q30, bd2q30, bksq30, bklq30, bkwq30, bnaq30, blbq30, bnwq30, bvnq30, bkgq30, bg2q30, bcd2q30, h0ZVeq30, h1ZVeq30, h2ZVeq30, h3ZVeq30, h4ZVeq30, h5ZVeq30, h6ZVeq30, h7ZVeq30, h8ZVeq30, h9ZVeq30, h10ZVeq30, h11ZVeq30, h12ZVeq30, h13ZVeq30, tksq30, tklq30, tkwq30, tkgq30, r0ZVeq30, r1ZVeq30, r2ZVeq30, r3ZVeq30, r4ZVeq30, r5ZVeq30, r6ZVeq30, r7ZVeq30, r8ZVeq30, r9ZVeq30, r10ZVeq30, r11ZVeq30, r12ZVeq30, r13ZVeq30, r14ZVeq30, r15ZVeq30, r16ZVeq30, r17ZVeq30, r18ZVeq30, r19ZVeq30, r20ZVeq30, r21ZVeq30, r22ZVeq30, r23ZVeq30, k0ZVeq30, k1ZVeq30, k2ZVeq30, k3ZVeq30, k4ZVeq30, k5ZVeq30⟩ := pbZVeq30
              unfold f_Mo_item_185
              exact ⟨_, rfl, Wq30, F429, ⟨bf2q30, bt2q30, bd2q30, bksq30, bklq30, bkwq30, bnaq30, blbq30, bnwq30, bvnq30, bkgq30, bg2q30, bcd2q30, ki, (it + 1), h0ZVeq30, h1ZVeq30, h2ZVeq30, h3ZVeq30, h4ZVeq30, h5ZVeq30, h6ZVeq30, h7ZVeq30, h8ZVeq30, h9ZVeq30, h10ZVeq30, h11ZVeq30, h12ZVeq30, h13ZVeq30, e420, e424, tksq30, tklq30, tkwq30, tkgq30, tqw_2, by (try dsimp only); omega, by (try dsimp only); omega, by (try dsimp only); omega, by (try dsimp only); omega, by (try dsimp only); omega, by (try dsimp only); omega, by (try dsimp only); omega, by (try dsimp only); omega, by (try dsimp only); omega, by (try dsimp only); omega, by (try dsimp only); omega, by (try dsimp only); omega, by (try dsimp only); omega, by (try dsimp only); omega, by (try dsimp only); omega, by (try dsimp only); omega, by (try dsimp only); omega, by (try dsimp only); omega, by (try dsimp only); omega, by (try dsimp only); omega, by (try dsimp only); omega, by (try dsimp only); omega, by (try dsimp only); omega, by (try dsimp only); omega, by (try dsimp only); omega, by (try dsimp only); omega, k0ZVeq30, k1ZVeq30, TbI_up k2ZVeq30 h0ZVeq30 (by omega) (by omega) (by omega) e425 e427 (by omega) e426 e428 h1ZVeq30 (.inr (.inr k5ZVeq30)), k3ZVeq30, k4ZVeq30⟩⟩
          · have hq398 := i_ne hq398
            unfold f_Mo_item_185
            exact ⟨_, rfl, Wc26, F397, ⟨bf2q4, tv, dv, bks0, bkl0, bkw0, bna0, blb0, bnw0, bvn0, kg, gc, cd, ki, (it + 1), e372, e386, e373, e374, e379, e380, e381, e382, e383, e384, e385, e375, e376, e377, e378, e387, tks0, tkl0, tkw0, tqw_1, tqw_2, by (try dsimp only); omega, by (try dsimp only); omega, by (try dsimp only); omega, by (try dsimp only); omega, by (try dsimp only); omega, by (try dsimp only); omega, by (try dsimp only); omega, by (try dsimp only); omega, by (try dsimp only); omega, by (try dsimp only); omega, by (try dsimp only); omega, by (try dsimp only); omega, by (try dsimp only); omega, by (try dsimp only); omega, by (try dsimp only); omega, by (try dsimp only); omega, by (try dsimp only); omega, by (try dsimp only); omega, by (try dsimp only); omega, by (try dsimp only); omega, by (try dsimp only); omega, by (try dsimp only); omega, by (try dsimp only); omega, by (try dsimp only); omega, by (try dsimp only); omega, by (try dsimp only); omega, k391, k392, TbI_up k394 e372 (by omega) (by omega) (by omega) e388 e390 (by omega) e389 gc26 e386 (.inl (by omega)), k395, k396⟩⟩
        · have := li_0
          have hq371 := i_nle hq371
          obtain ⟨w33, ew33⟩ := go_64 Wc20 t_x0
          refine wb ew33 ?_
          obtain ⟨q32, eq32, Wq32, fq32, pbZSq32⟩ := p_Mo_pass hn Wc20  t_x0 (by omega) (by omega) (by omega) (by omega) e361 e348
          refine wb eq32 ?_
          have e476 := (Zfr.gi fq32 t_x0 (by decide)).trans e347
          have e477 := (Zfr.gi fq32 t_x0 (by decide)).trans e349
          have e478 := (Zfr.gr fq32 t_x0 (by decide)).trans e350
          have e479 := (Zfr.ai fq32 tqw_1 (by decide)).trans e351
          have e480 := (Zfr.gi fq32 t_x0 (by decide)).trans e352
          have e481 := (Zfr.gr fq32 t_x0 (by decide)).trans e353
          have e482 := (Zfr.gr fq32 t_x0 (by decide)).trans e354
          have e483 := (Zfr.gr fq32 t_x0 (by decide)).trans e355
          have e484 := (Zfr.gr fq32 t_x0 (by decide)).trans e356
          have e485 := (Zfr.ai fq32 tks0 (by decide)).trans e357
          have e486 := (Zfr.ai fq32 tkl0 (by decide)).trans e358
          have e487 := (Zfr.ai fq32 tkw0 (by decide)).trans e359
          have e488 := (Zfr.gi fq32 t_x0 (by decide)).trans e360
          have e489 := (Zfr.ai fq32 tqw_2 (by decide)).trans e362
          have e490 := (Zfr.gr fq32 t_x0 (by decide)).trans e363
          have e491 := (Zfr.ai fq32 tv18 (by decide)).trans gc20
          have k492 := GtP_fr k364 fq32 t_x0 Wc20 (by decide)
          have sc494 : Sc c20 q32 x0 (1) (0) := by
            obtain ⟨yf2, yt2, z0y, z1y, x0y, x1y, x2y, x3y, x4y, x5y⟩ := pbZSq32
            exact Sc_mk e361 z0y e348 z1y e349 ((Zfr.gi (ci := 12) fq32 t_x0 (by decide)).trans e349) (by omega)
          have k493 := WyN_fr k365 fq32 t_x0 Wc20 (by decide) sc494
          have k495 := TbI_fr k367 fq32 t_x0 Wc20 (by decide) sc494
          have k496 := TbC_fr k368 fq32 t_x0 Wc20 (by decide) sc494
          have k497 := TkN_fr k369 fq32 t_x0 Wc20 (by decide)
          have F498 := Zfr.tr F370 fq32 (by decide)
          obtain ⟨bf2q32, bt2q32, h0ZSq32, h1ZSq32, r0ZSq32, r1ZSq32, r2ZSq32, r3ZSq32, r4ZSq32, r5ZSq32⟩ := pbZSq32
          unfold f_Mo_item_157
          obtain ⟨v24, ev24, tv24⟩ := gf_64_45 Wq32 t_x0
          refine wb ev24 ?_
          refine wb e480 ?_
          obtain ⟨c26, ec26, Wc26, fc26, gc26⟩ := pa_98 Wq32 tv24 (i := ((8 * pv) + it)) (by omega) (by omega) (x := cd) (rgi (by omega) (by omega))
          refine wb ec26 ?_
          have e499 := (Zfr.gi fc26 t_x0 (by decide)).trans e476
          have e500 := (Zfr.gi fc26 t_x0 (by decide)).trans e477
          have e501 := (Zfr.gr fc26 t_x0 (by decide)).trans e478
          have e502 := (Zfr.ai fc26 tqw_1 (by decide)).trans e479
          have e503 := (Zfr.gi fc26 t_x0 (by decide)).trans e480
          have e504 := (Zfr.gr fc26 t_x0 (by decide)).trans e481
          have e505 := (Zfr.gr fc26 t_x0 (by decide)).trans e482
          have e506 := (Zfr.gr fc26 t_x0 (by decide)).trans e483
          have e507 := (Zfr.gr fc26 t_x0 (by decide)).trans e484
          have e508 := (Zfr.ai fc26 tks0 (by decide)).trans e485
          have e509 := (Zfr.ai fc26 tkl0 (by decide)).trans e486
          have e510 := (Zfr.ai fc26 tkw0 (by decide)).trans e487
          have e511 := (Zfr.gi fc26 t_x0 (by decide)).trans e488
          have e512 := (Zfr.ai fc26 tqw_2 (by decide)).trans e489
          have e513 := (Zfr.gr fc26 t_x0 (by decide)).trans e490
          have e514 := (Zfr.ai fc26 tv18 (by decide)).trans e491
          have e515 := (Zfr.gi fc26 t_x0 (by decide)).trans h0ZSq32
          have e516 := (Zfr.gi fc26 t_x0 (by decide)).trans h1ZSq32
          have e517 := (Zfr.gr fc26 t_x0 (by decide)).trans ev24
          have k518 := GtP_w45 k492 Wq32 t_x0 fc26 e476 ev24 ec26 (by omega) (by omega) (by omega)
          have sc520 := Sc_fr fc26 t_x0 (by decide) (by decide) (by decide)
          have k519 := WyN_fr k493 fc26 t_x0 Wq32 (by decide) sc520
          have k521 := TbI_w45 k495 Wq32 t_x0 fc26 e476 ev24 ec26 (by omega) (by omega)
          have k522 := TbC_fr k496 fc26 t_x0 Wq32 (by decide) sc520
          have k523 := TkN_fr k497 fc26 t_x0 Wq32 (by decide)
          have F524 := Zfr.tr F498 fc26 (by decide)
          refine wb e515 ?_
          refine wi (fun hq525 => ?_) (fun hq525 => ?_)
          · have hq525 := i_eq hq525
            refine wi (fun hq526 => ?_) (fun hq526 => ?_)
            · have hq526 := i_eq hq526
              exfalso
              omega
            · have hq526 := i_ne hq526
              obtain ⟨w31, ew31⟩ := go_64 Wc26 t_x0
              refine wb ew31 ?_
              have := li_3
              obtain ⟨q30, eq30, Wq30, fq30, pbZVeq30⟩ := p_Mo_parse hn Wc26 (a1 := 3) (ni := ni) (bc := bc) t_x0 (by omega) (by omega) (by omega) (by omega) (by omega) (by omega) (by omega) (by omega) (by omega) (by omega) (by omega) (by omega) (by omega) (by omega) e499 e515 e516 e500 e501 e502 e503 (by omega) (by omega) ⟨bks0, bkl0, bkw0, bna0, blb0, bnw0, bvn0, e499, e515, e516, e500, e505, e506, e507, e508, e509, e510, e511, tks0, tkl0, tkw0, by (try dsimp only); omega, by (try dsimp only); omega, by (try dsimp only); omega, by (try dsimp only); omega, by (try dsimp only); omega, by (try dsimp only); omega, by (try dsimp only); omega, by (try dsimp only); omega, by (try dsimp only); omega, by (try dsimp only); omega, by (try dsimp only); omega, by (try dsimp only); omega, by (try dsimp only); omega, by (try dsimp only); omega, by (try dsimp only); omega, by (try dsimp only); omega, by (try dsimp only); omega, by (try dsimp only); omega, k518, k519, k521, k522, k523⟩
              refine wb eq30 ?_
              have e545 := (Zfr.gi fq30 t_x0 (by decide)).trans e499
              have e546 := (Zfr.gr fq30 t_x0 (by decide)).trans e501
              have e547 := (Zfr.gr fq30 t_x0 (by decide)).trans e504
              have e548 := (Zfr.gr fq30 t_x0 (by decide)).trans e505
              have e549 := (Zfr.gr fq30 t_x0 (by decide)).trans e506
              have e550 := (Zfr.gr fq30 t_x0 (by decide)).trans e507
              have e551 := (Zfr.ai fq30 tqw_2 (by decide)).trans e512
              have e552 := (Zfr.gr fq30 t_x0 (by decide)).trans e513
              have e553 := (Zfr.ai fq30 tv18 (by decide)).trans e514
              have e554 := (Zfr.gr fq30 t_x0 (by decide)).trans e517
              have e555 := (Zfr.ai fq30 tv24 (by decide)).trans gc26
              have F556 := Zfr.tr F524 fq30 (by decide)
              obtain ⟨bf2q30, bt2q30, bd2q30, bksq30, bklq30, bkwq30, bnaq30, blbq30, bnwq30, bvnq30, bkgq30, bg2q30, bcd2q30, h0ZVeq30, h1ZVeq30, h2ZVeq30, h3ZVeq30, h4ZVeq30, h5ZVeq30, h6ZVeq30, h7ZVeq30, h8ZVeq30, h9ZVeq30, h10ZVeq30, h11ZVeq30, h12ZVeq30, h13ZVeq30, tksq30, tklq30, tkwq30, tkgq30, r0ZVeq30, r1ZVeq30, r2ZVeq30, r3ZVeq30, r4ZVeq30, r5ZVeq30, r6ZVeq30, r7ZVeq30, r8ZVeq30, r9ZVeq30, r10ZVeq30, r11ZVeq30, r12ZVeq30, r13ZVeq30, r14ZVeq30, r15ZVeq30, r16ZVeq30, r17ZVeq30, r18ZVeq30, r19ZVeq30, r20ZVeq30, r21ZVeq30, r22ZVeq30, r23ZVeq30, k0ZVeq30, k1ZVeq30, k2ZVeq30, k3ZVeq30, k4ZVeq30, k5ZVeq30⟩ := pbZVeq30
              unfold f_Mo_item_185
              exact ⟨_, rfl, Wq30, F556, ⟨bf2q30, bt2q30, bd2q30, bksq30, bklq30, bkwq30, bnaq30, blbq30, bnwq30, bvnq30, bkgq30, bg2q30, bcd2q30, ki, (it + 1), h0ZVeq30, h1ZVeq30, h2ZVeq30, h3ZVeq30, h4ZVeq30, h5ZVeq30, h6ZVeq30, h7ZVeq30, h8ZVeq30, h9ZVeq30, h10ZVeq30, h11ZVeq30, h12ZVeq30, h13ZVeq30, e547, e551, tksq30, tklq30, tkwq30, tkgq30, tqw_2, by (try dsimp only); omega, by (try dsimp only); omega, by (try dsimp only); omega, by (try dsimp only); omega, by (try dsimp only); omega, by (try dsimp only); omega, by (try dsimp only); omega, by (try dsimp only); omega, by (try dsimp only); omega, by (try dsimp only); omega, by (try dsimp only); omega, by (try dsimp only); omega, by (try dsimp only); omega, by (try dsimp only); omega, by (try dsimp only); omega, by (try dsimp only); omega, by (try dsimp only); omega, by (try dsimp only); omega, by (try dsimp only); omega, by (try dsimp only); omega, by (try dsimp only); omega, by (try dsimp only); omega, by (try dsimp only); omega, by (try dsimp only); omega, by (try dsimp only); omega, by (try dsimp only); omega, k0ZVeq30, k1ZVeq30, TbI_up k2ZVeq30 h0ZVeq30 (by omega) (by omega) (by omega) e552 e554 (by omega) e553 e555 h1ZVeq30 (.inr (.inr k5ZVeq30)), k3ZVeq30, k4ZVeq30⟩⟩
          · have hq525 := i_ne hq525
            unfold f_Mo_item_185
            exact ⟨_, rfl, Wc26, F524, ⟨bf2q32, bt2q32, dv, bks0, bkl0, bkw0, bna0, blb0, bnw0, bvn0, kg, gc, cd, ki, (it + 1), e499, e515, e516, e500, e505, e506, e507, e508, e509, e510, e511, e501, e502, e503, e504, e512, tks0, tkl0, tkw0, tqw_1, tqw_2, by (try dsimp only); omega, by (try dsimp only); omega, by (try dsimp only); omega, by (try dsimp only); omega, by (try dsimp only); omega, by (try dsimp only); omega, by (try dsimp only); omega, by (try dsimp only); omega, by (try dsimp only); omega, by (try dsimp only); omega, by (try dsimp only); omega, by (try dsimp only); omega, by (try dsimp only); omega, by (try dsimp only); omega, by (try dsimp only); omega, by (try dsimp only); omega, by (try dsimp only); omega, by (try dsimp only); omega, by (try dsimp only); omega, by (try dsimp only); omega, by (try dsimp only); omega, by (try dsimp only); omega, by (try dsimp only); omega, by (try dsimp only); omega, by (try dsimp only); omega, by (try dsimp only); omega, k518, k519, TbI_up k521 e499 (by omega) (by omega) (by omega) e513 e517 (by omega) e514 gc26 e515 (.inl (by omega)), k522, k523⟩⟩
      · have := li_112
        have hq346 := i_nlt hq346
        unfold f_Mo_item_143
        have := i_mull (a := 8) (b := pv) (n := 8) li_8 (by omega) (by omega)
        have := i_add (a := (8 * pv)) (b := it) (by omega) (by omega)
        obtain ⟨c20, ec20, Wc20, fc20, gc20⟩ := pa_97 Wc17 tv18 (i := ((8 * pv) + it)) (by omega) (by omega) (x := x1) (trivial)
        refine wb ec20 ?_
        have e601 := (Zfr.gi fc20 t_x0 (by decide)).trans e69
        have e602 := (Zfr.gi fc20 t_x0 (by decide)).trans e70
        have e603 := (Zfr.gi fc20 t_x0 (by decide)).trans e71
        have e604 := (Zfr.gr fc20 t_x0 (by decide)).trans e72
        have e605 := (Zfr.ai fc20 tqw_1 (by decide)).trans e73
        have e606 := (Zfr.gi fc20 t_x0 (by decide)).trans e74
        have e607 := (Zfr.gr fc20 t_x0 (by decide)).trans e75
        have e608 := (Zfr.gr fc20 t_x0 (by decide)).trans e76
        have e609 := (Zfr.gr fc20 t_x0 (by decide)).trans e77
        have e610 := (Zfr.gr fc20 t_x0 (by decide)).trans e78
        have e611 := (Zfr.ai fc20 tks0 (by decide)).trans e79
        have e612 := (Zfr.ai fc20 tkl0 (by decide)).trans e80
        have e613 := (Zfr.ai fc20 tkw0 (by decide)).trans e81
        have e614 := (Zfr.gi fc20 t_x0 (by decide)).trans e82
        have e615 := (Zfr.gi fc20 t_x0 (by decide)).trans e83
        have e616 := (Zfr.ai fc20 tqw_2 (by decide)).trans gc17
        have e617 := (Zfr.gr fc20 t_x0 (by decide)).trans ev18
        have k618 := GtP_w44 k84 Wc17 t_x0 fc20 e69 ev18 ec20 (by omega) (by omega) (by omega)
        have sc620 := Sc_fr fc20 t_x0 (by decide) (by decide) (by decide)
        have k619 := WyN_fr k85 fc20 t_x0 Wc17 (by decide) sc620
        have k621 := TbI_w44 k87 Wc17 t_x0 fc20 e69 ev18 ec20 (by omega) (by omega)
        have k622 := TbC_fr k88 fc20 t_x0 Wc17 (by decide) sc620
        have k623 := TkN_fr k89 fc20 t_x0 Wc17 (by decide)
        have F624 := Zfr.tr F90 fc20 (by decide)
        refine wb e617 ?_
        refine wb gc20 ?_
        refine wi (fun hq625 => ?_) (fun hq625 => ?_)
        · have := li_0
          have hq625 := i_le hq625
          exfalso
          omega
        · have := li_0
          have hq625 := i_nle hq625
          obtain ⟨w33, ew33⟩ := go_64 Wc20 t_x0
          refine wb ew33 ?_
          obtain ⟨q32, eq32, Wq32, fq32, pbZSq32⟩ := p_Mo_pass hn Wc20  t_x0 (by omega) (by omega) (by omega) (by omega) e615 e602
          refine wb eq32 ?_
          have e628 := (Zfr.gi fq32 t_x0 (by decide)).trans e601
          have e629 := (Zfr.gi fq32 t_x0 (by decide)).trans e603
          have e630 := (Zfr.gr fq32 t_x0 (by decide)).trans e604
          have e631 := (Zfr.ai fq32 tqw_1 (by decide)).trans e605
          have e632 := (Zfr.gi fq32 t_x0 (by decide)).trans e606
          have e633 := (Zfr.gr fq32 t_x0 (by decide)).trans e607
          have e634 := (Zfr.gr fq32 t_x0 (by decide)).trans e608
          have e635 := (Zfr.gr fq32 t_x0 (by decide)).trans e609
          have e636 := (Zfr.gr fq32 t_x0 (by decide)).trans e610
          have e637 := (Zfr.ai fq32 tks0 (by decide)).trans e611
          have e638 := (Zfr.ai fq32 tkl0 (by decide)).trans e612
          have e639 := (Zfr.ai fq32 tkw0 (by decide)).trans e613
          have e640 := (Zfr.gi fq32 t_x0 (by decide)).trans e614
          have e641 := (Zfr.ai fq32 tqw_2 (by decide)).trans e616
          have e642 := (Zfr.gr fq32 t_x0 (by decide)).trans e617
          have e643 := (Zfr.ai fq32 tv18 (by decide)).trans gc20
          have k644 := GtP_fr k618 fq32 t_x0 Wc20 (by decide)
          have sc646 : Sc c20 q32 x0 (1) (0) := by
            obtain ⟨yf2, yt2, z0y, z1y, x0y, x1y, x2y, x3y, x4y, x5y⟩ := pbZSq32
            exact Sc_mk e615 z0y e602 z1y e603 ((Zfr.gi (ci := 12) fq32 t_x0 (by decide)).trans e603) (by omega)
          have k645 := WyN_fr k619 fq32 t_x0 Wc20 (by decide) sc646
          have k647 := TbI_fr k621 fq32 t_x0 Wc20 (by decide) sc646
          have k648 := TbC_fr k622 fq32 t_x0 Wc20 (by decide) sc646
          have k649 := TkN_fr k623 fq32 t_x0 Wc20 (by decide)
          have F650 := Zfr.tr F624 fq32 (by decide)
          obtain ⟨bf2q32, bt2q32, h0ZSq32, h1ZSq32, r0ZSq32, r1ZSq32, r2ZSq32, r3ZSq32, r4ZSq32, r5ZSq32⟩ := pbZSq32
          unfold f_Mo_item_157
          obtain ⟨v24, ev24, tv24⟩ := gf_64_45 Wq32 t_x0
          refine wb ev24 ?_
          refine wb e632 ?_
          obtain ⟨c26, ec26, Wc26, fc26, gc26⟩ := pa_98 Wq32 tv24 (i := ((8 * pv) + it)) (by omega) (by omega) (x := cd) (rgi (by omega) (by omega))
          refine wb ec26 ?_
          have e651 := (Zfr.gi fc26 t_x0 (by decide)).trans e628
          have e652 := (Zfr.gi fc26 t_x0 (by decide)).trans e629
          have e653 := (Zfr.gr fc26 t_x0 (by decide)).trans e630
          have e654 := (Zfr.ai fc26 tqw_1 (by decide)).trans e631
          have e655 := (Zfr.gi fc26 t_x0 (by decide)).trans e632
          have e656 := (Zfr.gr fc26 t_x0 (by decide)).trans e633
          have e657 := (Zfr.gr fc26 t_x0 (by decide)).trans e634
          have e658 := (Zfr.gr fc26 t_x0 (by decide)).trans e635
          have e659 := (Zfr.gr fc26 t_x0 (by decide)).trans e636
          have e660 := (Zfr.ai fc26 tks0 (by decide)).trans e637
          have e661 := (Zfr.ai fc26 tkl0 (by decide)).trans e638
          have e662 := (Zfr.ai fc26 tkw0 (by decide)).trans e639
          have e663 := (Zfr.gi fc26 t_x0 (by decide)).trans e640
          have e664 := (Zfr.ai fc26 tqw_2 (by decide)).trans e641
          have e665 := (Zfr.gr fc26 t_x0 (by decide)).trans e642
          have e666 := (Zfr.ai fc26 tv18 (by decide)).trans e643
          have e667 := (Zfr.gi fc26 t_x0 (by decide)).trans h0ZSq32
          have e668 := (Zfr.gi fc26 t_x0 (by decide)).trans h1ZSq32
          have e669 := (Zfr.gr fc26 t_x0 (by decide)).trans ev24
          have k670 := GtP_w45 k644 Wq32 t_x0 fc26 e628 ev24 ec26 (by omega) (by omega) (by omega)
          have sc672 := Sc_fr fc26 t_x0 (by decide) (by decide) (by decide)
          have k671 := WyN_fr k645 fc26 t_x0 Wq32 (by decide) sc672
          have k673 := TbI_w45 k647 Wq32 t_x0 fc26 e628 ev24 ec26 (by omega) (by omega)
          have k674 := TbC_fr k648 fc26 t_x0 Wq32 (by decide) sc672
          have k675 := TkN_fr k649 fc26 t_x0 Wq32 (by decide)
          have F676 := Zfr.tr F650 fc26 (by decide)
          refine wb e667 ?_
          refine wi (fun hq677 => ?_) (fun hq677 => ?_)
          · have hq677 := i_eq hq677
            refine wi (fun hq678 => ?_) (fun hq678 => ?_)
            · have hq678 := i_eq hq678
              unfold f_Mo_item_185
              exact ⟨_, rfl, Wc26, F676, ⟨bf2q32, bt2q32, dv, bks0, bkl0, bkw0, bna0, blb0, bnw0, bvn0, kg, gc, cd, ki, (it + 1), e651, e667, e668, e652, e657, e658, e659, e660, e661, e662, e663, e653, e654, e655, e656, e664, tks0, tkl0, tkw0, tqw_1, tqw_2, by (try dsimp only); omega, by (try dsimp only); omega, by (try dsimp only); omega, by (try dsimp only); omega, by (try dsimp only); omega, by (try dsimp only); omega, by (try dsimp only); omega, by (try dsimp only); omega, by (try dsimp only); omega, by (try dsimp only); omega, by (try dsimp only); omega, by (try dsimp only); omega, by (try dsimp only); omega, by (try dsimp only); omega, by (try dsimp only); omega, by (try dsimp only); omega, by (try dsimp only); omega, by (try dsimp only); omega, by (try dsimp only); omega, by (try dsimp only); omega, by (try dsimp only); omega, by (try dsimp only); omega, by (try dsimp only); omega, by (try dsimp only); omega, by (try dsimp only); omega, by (try dsimp only); omega, k670, k671, TbI_up k673 e651 (by omega) (by omega) (by omega) e665 e669 (by omega) e666 gc26 e667 (.inr (.inl (by omega))), k674, k675⟩⟩
            · have hq678 := i_ne hq678
              obtain ⟨w31, ew31⟩ := go_64 Wc26 t_x0
              refine wb ew31 ?_
              have := li_3
              obtain ⟨q30, eq30, Wq30, fq30, pbZVeq30⟩ := p_Mo_parse hn Wc26 (a1 := 3) (ni := ni) (bc := bc) t_x0 (by omega) (by omega) (by omega) (by omega) (by omega) (by omega) (by omega) (by omega) (by omega) (by omega) (by omega) (by omega) (by omega) (by omega) e651 e667 e668 e652 e653 e654 e655 (by omega) (by omega) ⟨bks0, bkl0, bkw0, bna0, blb0, bnw0, bvn0, e651, e667, e668, e652, e657, e658, e659, e660, e661, e662, e663, tks0, tkl0, tkw0, by (try dsimp only); omega, by (try dsimp only); omega, by (try dsimp only); omega, by (try dsimp only); omega, by (try dsimp only); omega, by (try dsimp only); omega, by (try dsimp only); omega, by (try dsimp only); omega, by (try dsimp only); omega, by (try dsimp only); omega, by (try dsimp only); omega, by (try dsimp only); omega, by (try dsimp only); omega, by (try dsimp only); omega, by (try dsimp only); omega, by (try dsimp only); omega, by (try dsimp only); omega, by (try dsimp only); omega, k670, k671, k673, k674, k675⟩
              refine wb eq30 ?_
              have e719 := (Zfr.gi fq30 t_x0 (by decide)).trans e651
              have e720 := (Zfr.gr fq30 t_x0 (by decide)).trans e653
              have e721 := (Zfr.gr fq30 t_x0 (by decide)).trans e656
              have e722 := (Zfr.gr fq30 t_x0 (by decide)).trans e657
              have e723 := (Zfr.gr fq30 t_x0 (by decide)).trans e658
              have e724 := (Zfr.gr fq30 t_x0 (by decide)).trans e659
              have e725 := (Zfr.ai fq30 tqw_2 (by decide)).trans e664
              have e726 := (Zfr.gr fq30 t_x0 (by decide)).trans e665
              have e727 := (Zfr.ai fq30 tv18 (by decide)).trans e666
              have e728 := (Zfr.gr fq30 t_x0 (by decide)).trans e669
              have e729 := (Zfr.ai fq30 tv24 (by decide)).trans gc26
              have F730 := Zfr.tr F676 fq30 (by decide)
              obtain ⟨bf2q30, bt2q30, bd2q30, bksq30, bklq30, bkwq30, bnaq30, blbq30, bnwq30, bvnq30, bkgq30, bg2q30, bcd2q30, h0ZVeq30, h1ZVeq30, h2ZVeq30, h3ZVeq30, h4ZVeq30, h5ZVeq30, h6ZVeq30, h7ZVeq30, h8ZVeq30, h9ZVeq30, h10ZVeq30, h11ZVeq30, h12ZVeq30, h13ZVeq30, tksq30, tklq30, tkwq30, tkgq30, r0ZVeq30, r1ZVeq30, r2ZVeq30, r3ZVeq30, r4ZVeq30, r5ZVeq30, r6ZVeq30, r7ZVeq30, r8ZVeq30, r9ZVeq30, r10ZVeq30, r11ZVeq30, r12ZVeq30, r13ZVeq30, r14ZVeq30, r15ZVeq30, r16ZVeq30, r17ZVeq30, r18ZVeq30, r19ZVeq30, r20ZVeq30, r21ZVeq30, r22ZVeq30, r23ZVeq30, k0ZVeq30, k1ZVeq30, k2ZVeq30, k3ZVeq30, k4ZVeq30, k5ZVeq30⟩ := pbZVeq30
              unfold f_Mo_item_185
              exact ⟨_, rfl, Wq30, F730, ⟨bf2q30, bt2q30, bd2q30, bksq30, bklq30, bkwq30, bnaq30, blbq30, bnwq30, bvnq30, bkgq30, bg2q30, bcd2q30, ki, (it + 1), h0ZVeq30, h1ZVeq30, h2ZVeq30, h3ZVeq30, h4ZVeq30, h5ZVeq30, h6ZVeq30, h7ZVeq30, h8ZVeq30, h9ZVeq30, h10ZVeq30, h11ZVeq30, h12ZVeq30, h13ZVeq30, e721, e725, tksq30, tklq30, tkwq30, tkgq30, tqw_2, by (try dsimp only); omega, by (try dsimp only); omega, by (try dsimp only); omega, by (try dsimp only); omega, by (try dsimp only); omega, by (try dsimp only); omega, by (try dsimp only); omega, by (try dsimp only); omega, by (try dsimp only); omega, by (try dsimp only); omega, by (try dsimp only); omega, by (try dsimp only); omega, by (try dsimp only); omega, by (try dsimp only); omega, by (try dsimp only); omega, by (try dsimp only); omega, by (try dsimp only); omega, by (try dsimp only); omega, by (try dsimp only); omega, by (try dsimp only); omega, by (try dsimp only); omega, by (try dsimp only); omega, by (try dsimp only); omega, by (try dsimp only); omega, by (try dsimp only); omega, by (try dsimp only); omega, k0ZVeq30, k1ZVeq30, TbI_up k2ZVeq30 h0ZVeq30 (by omega) (by omega) (by omega) e726 e728 (by omega) e727 e729 h1ZVeq30 (.inr (.inr k5ZVeq30)), k3ZVeq30, k4ZVeq30⟩⟩
          · have hq677 := i_ne hq677
            unfold f_Mo_item_185
            exact ⟨_, rfl, Wc26, F676, ⟨bf2q32, bt2q32, dv, bks0, bkl0, bkw0, bna0, blb0, bnw0, bvn0, kg, gc, cd, ki, (it + 1), e651, e667, e668, e652, e657, e658, e659, e660, e661, e662, e663, e653, e654, e655, e656, e664, tks0, tkl0, tkw0, tqw_1, tqw_2, by (try dsimp only); omega, by (try dsimp only); omega, by (try dsimp only); omega, by (try dsimp only); omega, by (try dsimp only); omega, by (try dsimp only); omega, by (try dsimp only); omega, by (try dsimp only); omega, by (try dsimp only); omega, by (try dsimp only); omega, by (try dsimp only); omega, by (try dsimp only); omega, by (try dsimp only); omega, by (try dsimp only); omega, by (try dsimp only); omega, by (try dsimp only); omega, by (try dsimp only); omega, by (try dsimp only); omega, by (try dsimp only); omega, by (try dsimp only); omega, by (try dsimp only); omega, by (try dsimp only); omega, by (try dsimp only); omega, by (try dsimp only); omega, by (try dsimp only); omega, by (try dsimp only); omega, k670, k671, TbI_up k673 e651 (by omega) (by omega) (by omega) e665 e669 (by omega) e666 gc26 e667 (.inl (by omega)), k674, k675⟩⟩

abbrev M_Mo_item : List (Nat × Nat) := [(64, 18), (64, 19), (64, 20), (64, 52), (64, 53), (64, 56), (64, 57), (64, 65), (64, 69), (79, 0), (80, 0), (81, 0), (82, 0), (83, 0), (84, 0), (85, 0), (86, 0), (87, 0), (88, 0), (89, 0), (90, 0), (91, 0), (92, 0), (93, 0), (94, 0), (95, 0), (96, 0), (97, 0), (98, 0), (103, 0), (104, 0), (105, 0), (106, 0), (107, 0), (108, 0), (109, 0), (110, 0), (111, 0), (112, 0), (113, 0), (114, 0), (115, 0), (116, 0), (134, 0)]
set_option maxRecDepth 100000 in
set_option maxHeartbeats 4000000 in
theorem p_Mo_item {nf : Nat} (hn : 8589934592 ≤ nf) {G : List Nat} {c : Zc} (W : Zwt zty G c) {a0 : Nat} {ni : Int32} {bc : Int32} {pv : Int32} {fv : Int32} {tv : Int32} {dv : Int32} {kg : Nat} {gc : Int32} {cd : Int32} {ki : Nat} {it : Int32} (t_a0 : G[a0]? = some 64) (pl_pv : 0 ≤ pv.toInt) (pu_pv : pv.toInt ≤ 8) (pl_fv : 0 ≤ fv.toInt) (pu_fv : fv.toInt ≤ 0) (pl_tv : 0 ≤ tv.toInt) (pu_tv : tv.toInt ≤ 200) (pl_dv : 0 ≤ dv.toInt) (pu_dv : dv.toInt ≤ 11) (pl_gc : 0 ≤ gc.toInt) (pu_gc : gc.toInt ≤ 79) (pl_cd : 0 ≤ cd.toInt) (pu_cd : cd.toInt ≤ 400) (pl_it : 0 ≤ it.toInt) (pu_it : it.toInt ≤ 8) (eh_pv : zgi c a0 12 25 = some pv) (eh_fv : zgi c a0 12 19 = some fv) (eh_tv : zgi c a0 12 18 = some tv) (eh_dv : zgi c a0 12 53 = some dv) (eh_kg : zgr c a0 12 28 = some kg) (eh_gc : zai c kg 0 pv = some gc) (eh_cd : zgi c a0 12 52 = some cd) (eh_ki : zgr c a0 12 43 = some ki) (eh_it : zai c ki 0 pv = some it) (pp_7 : it.toInt = ni.toInt) (pp_8 : 3 * gc.toInt ≤ tv.toInt) (pp_9 : cd.toInt + 1 ≤ tv.toInt) (hb_ZV : ZV G c a0 pv fv tv dv ni bc) : ∃ q, f_Mo_item nf a0 c = some q ∧ Zwt zty G q ∧ Zfr G M_Mo_item c q ∧ ZVi G q a0 pv fv tv dv ni bc := by
  have F0 : Zfr G M_Mo_item c c := Zfr.rf
  unfold f_Mo_item
  obtain ⟨xq, xe, tqw_1⟩ := gf_64_28 W t_a0
  rw [eh_kg] at xe; cases xe
  obtain ⟨xq, xe, tqw_2⟩ := gf_64_43 W t_a0
  rw [eh_ki] at xe; cases xe
  obtain ⟨bks0, bkl0, bkw0, bna0, blb0, bnw0, bvn0, h0ZV0, h1ZV0, h2ZV0, h3ZV0, h4ZV0, h5ZV0, h6ZV0, h7ZV0, h8ZV0, h9ZV0, h10ZV0, tks0, tkl0, tkw0, r0ZV0, r1ZV0, r2ZV0, r3ZV0, r4ZV0, r5ZV0, r6ZV0, r7ZV0, r8ZV0, r9ZV0, r10ZV0, r11ZV0, r12ZV0, r13ZV0, r14ZV0, r15ZV0, r16ZV0, r17ZV0, k0ZV0, k1ZV0, k2ZV0, k3ZV0, k4ZV0⟩ := hb_ZV
  obtain ⟨w2, ew2⟩ := go_64 W t_a0
  refine wb ew2 ?_
  obtain ⟨q1, eq1, Wq1, fq1, pbZScq1, pbZkdq1⟩ := p_Mo_kind hn W  t_a0 (by omega) (by omega) (by omega) (by omega) h1ZV0 h2ZV0
  refine wb eq1 ?_
  have e5 := (Zfr.gi fq1 t_a0 (by decide)).trans h0ZV0
  have e6 := (Zfr.gi fq1 t_a0 (by decide)).trans h2ZV0
  have e7 := (Zfr.gi fq1 t_a0 (by decide)).trans h3ZV0
  have e8 := (Zfr.gr fq1 t_a0 (by decide)).trans eh_kg
  have e9 := (Zfr.ai fq1 tqw_1 (by decide)).trans eh_gc
  have e10 := (Zfr.gi fq1 t_a0 (by decide)).trans eh_cd
  have e11 := (Zfr.gr fq1 t_a0 (by decide)).trans eh_ki
  have e12 := (Zfr.ai fq1 tqw_2 (by decide)).trans eh_it
  have e13 := (Zfr.gr fq1 t_a0 (by decide)).trans h4ZV0
  have e14 := (Zfr.gr fq1 t_a0 (by decide)).trans h5ZV0
  have e15 := (Zfr.gr fq1 t_a0 (by decide)).trans h6ZV0
  have e16 := (Zfr.ai fq1 tks0 (by decide)).trans h7ZV0
  have e17 := (Zfr.ai fq1 tkl0 (by decide)).trans h8ZV0
  have e18 := (Zfr.ai fq1 tkw0 (by decide)).trans h9ZV0
  have e19 := (Zfr.gi fq1 t_a0 (by decide)).trans h10ZV0
  have k20 := GtP_fr k0ZV0 fq1 t_a0 W (by decide)
  have sc22 : Sc c q1.2 a0 (0) (0) := by
    obtain ⟨yf2, z0y, x0y, x1y, x2y, x3y⟩ := pbZScq1
    exact Sc_mk h1ZV0 z0y h2ZV0 ((Zfr.gi (ci := 12) fq1 t_a0 (by decide)).trans h2ZV0) h3ZV0 ((Zfr.gi (ci := 12) fq1 t_a0 (by decide)).trans h3ZV0) (by omega)
  have k21 := WyN_fr k1ZV0 fq1 t_a0 W (by decide) sc22
  have k23 := TbI_fr k2ZV0 fq1 t_a0 W (by decide) sc22
  have k24 := TbC_fr k3ZV0 fq1 t_a0 W (by decide) sc22
  have k25 := TkN_fr k4ZV0 fq1 t_a0 W (by decide)
  have F26 := Zfr.tr F0 fq1 (by decide)
  obtain ⟨bf2q1, h0ZScq1, r0ZScq1, r1ZScq1, r2ZScq1, r3ZScq1⟩ := pbZScq1
  obtain ⟨bkkq1, h0Zkdq1, h1Zkdq1, tkkq1⟩ := pbZkdq1
  refine wi (fun hq27 => ?_) (fun hq27 => ?_)
  · have := li_109
    have := i_ge q1.1
    have := i_up q1.1
    have hq27 := i_eq hq27
    obtain ⟨qt28, eqt28, Wqt28, fqt28, pbZViqt28⟩ := p_Mo_item_57 hn Wq1 (x1 := q1.1) (ni := ni) (bc := bc) t_a0 (by omega) (by omega) (by omega) (by omega) (by omega) (by omega) (by omega) (by omega) (by omega) (by omega) (by omega) (by omega) (by omega) (by omega) e5 h0ZScq1 e6 e7 e8 e9 e10 e11 e12 (by omega) (by omega) (by omega) ⟨bks0, bkl0, bkw0, bna0, blb0, bnw0, bvn0, e5, h0ZScq1, e6, e7, e13, e14, e15, e16, e17, e18, e19, tks0, tkl0, tkw0, by (try dsimp only); omega, by (try dsimp only); omega, by (try dsimp only); omega, by (try dsimp only); omega, by (try dsimp only); omega, by (try dsimp only); omega, by (try dsimp only); omega, by (try dsimp only); omega, by (try dsimp only); omega, by (try dsimp only); omega, by (try dsimp only); omega, by (try dsimp only); omega, by (try dsimp only); omega, by (try dsimp only); omega, by (try dsimp only); omega, by (try dsimp only); omega, by (try dsimp only); omega, by (try dsimp only); omega, k20, k21, k23, k24, k25⟩
    have e49 := (Zfr.gi fqt28 t_a0 (by decide)).trans e5
    have e50 := (Zfr.gr fqt28 t_a0 (by decide)).trans e8
    have e51 := (Zfr.gr fqt28 t_a0 (by decide)).trans e11
    have e52 := (Zfr.gr fqt28 t_a0 (by decide)).trans e13
    have e53 := (Zfr.gr fqt28 t_a0 (by decide)).trans e14
    have e54 := (Zfr.gr fqt28 t_a0 (by decide)).trans e15
    have e55 := (Zfr.gr fqt28 t_a0 (by decide)).trans h0Zkdq1
    have e56 := (Zfr.ai fqt28 tkkq1 (by decide)).trans h1Zkdq1
    have F57 := Zfr.tr F26 fqt28 (by decide)
    obtain ⟨bf2qt28, bt2qt28, bd2qt28, bksqt28, bklqt28, bkwqt28, bnaqt28, blbqt28, bnwqt28, bvnqt28, bkgqt28, bg2qt28, bcd2qt28, bkiqt28, bi2qt28, h0ZViqt28, h1ZViqt28, h2ZViqt28, h3ZViqt28, h4ZViqt28, h5ZViqt28, h6ZViqt28, h7ZViqt28, h8ZViqt28, h9ZViqt28, h10ZViqt28, h11ZViqt28, h12ZViqt28, h13ZViqt28, h14ZViqt28, h15ZViqt28, tksqt28, tklqt28, tkwqt28, tkgqt28, tkiqt28, r0ZViqt28, r1ZViqt28, r2ZViqt28, r3ZViqt28, r4ZViqt28, r5ZViqt28, r6ZViqt28, r7ZViqt28, r8ZViqt28, r9ZViqt28, r10ZViqt28, r11ZViqt28, r12ZViqt28, r13ZViqt28, r14ZViqt28, r15ZViqt28, r16ZViqt28, r17ZViqt28, r18ZViqt28, r19ZViqt28, r20ZViqt28, r21ZViqt28, r22ZViqt28, r23ZViqt28, r24ZViqt28, r25ZViqt28, k0ZViqt28, k1ZViqt28, k2ZViqt28, k3ZViqt28, k4ZViqt28⟩ := pbZViqt28
    exact ⟨_, eqt28, Wqt28, F57, ⟨bf2qt28, bt2qt28, bd2qt28, bksqt28, bklqt28, bkwqt28, bnaqt28, blbqt28, bnwqt28, bvnqt28, bkgqt28, bg2qt28, bcd2qt28, bkiqt28, bi2qt28, h0ZViqt28, h1ZViqt28, h2ZViqt28, h3ZViqt28, h4ZViqt28, h5ZViqt28, h6ZViqt28, h7ZViqt28, h8ZViqt28, h9ZViqt28, h10ZViqt28, h11ZViqt28, h12ZViqt28, h13ZViqt28, h14ZViqt28, h15ZViqt28, tksqt28, tklqt28, tkwqt28, tkgqt28, tkiqt28, by (try dsimp only); omega, by (try dsimp only); omega, by (try dsimp only); omega, by (try dsimp only); omega, by (try dsimp only); omega, by (try dsimp only); omega, by (try dsimp only); omega, by (try dsimp only); omega, by (try dsimp only); omega, by (try dsimp only); omega, by (try dsimp only); omega, by (try dsimp only); omega, by (try dsimp only); omega, by (try dsimp only); omega, by (try dsimp only); omega, by (try dsimp only); omega, by (try dsimp only); omega, by (try dsimp only); omega, by (try dsimp only); omega, by (try dsimp only); omega, by (try dsimp only); omega, by (try dsimp only); omega, by (try dsimp only); omega, by (try dsimp only); omega, by (try dsimp only); omega, by (try dsimp only); omega, k0ZViqt28, k1ZViqt28, k2ZViqt28, k3ZViqt28, k4ZViqt28⟩⟩
  · have := li_109
    have := i_ge q1.1
    have := i_up q1.1
    have hq27 := i_ne hq27
    refine wi (fun hq74 => ?_) (fun hq74 => ?_)
    · have := li_110
      have hq74 := i_eq hq74
      obtain ⟨qt75, eqt75, Wqt75, fqt75, pbZViqt75⟩ := p_Mo_item_57 hn Wq1 (x1 := q1.1) (ni := ni) (bc := bc) t_a0 (by omega) (by omega) (by omega) (by omega) (by omega) (by omega) (by omega) (by omega) (by omega) (by omega) (by omega) (by omega) (by omega) (by omega) e5 h0ZScq1 e6 e7 e8 e9 e10 e11 e12 (by omega) (by omega) (by omega) ⟨bks0, bkl0, bkw0, bna0, blb0, bnw0, bvn0, e5, h0ZScq1, e6, e7, e13, e14, e15, e16, e17, e18, e19, tks0, tkl0, tkw0, by (try dsimp only); omega, by (try dsimp only); omega, by (try dsimp only); omega, by (try dsimp only); omega, by (try dsimp only); omega, by (try dsimp only); omega, by (try dsimp only); omega, by (try dsimp only); omega, by (try dsimp only); omega, by (try dsimp only); omega, by (try dsimp only); omega, by (try dsimp only); omega, by (try dsimp only); omega, by (try dsimp only); omega, by (try dsimp only); omega, by (try dsimp only); omega, by (try dsimp only); omega, by (try dsimp only); omega, k20, k21, k23, k24, k25⟩
      have e96 := (Zfr.gi fqt75 t_a0 (by decide)).trans e5
      have e97 := (Zfr.gr fqt75 t_a0 (by decide)).trans e8
      have e98 := (Zfr.gr fqt75 t_a0 (by decide)).trans e11
      have e99 := (Zfr.gr fqt75 t_a0 (by decide)).trans e13
      have e100 := (Zfr.gr fqt75 t_a0 (by decide)).trans e14
      have e101 := (Zfr.gr fqt75 t_a0 (by decide)).trans e15
      have e102 := (Zfr.gr fqt75 t_a0 (by decide)).trans h0Zkdq1
      have e103 := (Zfr.ai fqt75 tkkq1 (by decide)).trans h1Zkdq1
      have F104 := Zfr.tr F26 fqt75 (by decide)
      obtain ⟨bf2qt75, bt2qt75, bd2qt75, bksqt75, bklqt75, bkwqt75, bnaqt75, blbqt75, bnwqt75, bvnqt75, bkgqt75, bg2qt75, bcd2qt75, bkiqt75, bi2qt75, h0ZViqt75, h1ZViqt75, h2ZViqt75, h3ZViqt75, h4ZViqt75, h5ZViqt75, h6ZViqt75, h7ZViqt75, h8ZViqt75, h9ZViqt75, h10ZViqt75, h11ZViqt75, h12ZViqt75, h13ZViqt75, h14ZViqt75, h15ZViqt75, tksqt75, tklqt75, tkwqt75, tkgqt75, tkiqt75, r0ZViqt75, r1ZViqt75, r2ZViqt75, r3ZViqt75, r4ZViqt75, r5ZViqt75, r6ZViqt75, r7ZViqt75, r8ZViqt75, r9ZViqt75, r10ZViqt75, r11ZViqt75, r12ZViqt75, r13ZViqt75, r14ZViqt75, r15ZViqt75, r16ZViqt75, r17ZViqt75, r18ZViqt75, r19ZViqt75, r20ZViqt75, r21ZViqt75, r22ZViqt75, r23ZViqt75, r24ZViqt75, r25ZViqt75, k0ZViqt75, k1ZViqt75, k2ZViqt75, k3ZViqt75, k4ZViqt75⟩ := pbZViqt75
      exact ⟨_, eqt75, Wqt75, F104, ⟨bf2qt75, bt2qt75, bd2qt75, bksqt75, bklqt75, bkwqt75, bnaqt75, blbqt75, bnwqt75, bvnqt75, bkgqt75, bg2qt75, bcd2qt75, bkiqt75, bi2qt75, h0ZViqt75, h1ZViqt75, h2ZViqt75, h3ZViqt75, h4ZViqt75, h5ZViqt75, h6ZViqt75, h7ZViqt75, h8ZViqt75, h9ZViqt75, h10ZViqt75, h11ZViqt75, h12ZViqt75, h13ZViqt75, h14ZViqt75, h15ZViqt75, tksqt75, tklqt75, tkwqt75, tkgqt75, tkiqt75, by (try dsimp only); omega, by (try dsimp only); omega, by (try dsimp only); omega, by (try dsimp only); omega, by (try dsimp only); omega, by (try dsimp only); omega, by (try dsimp only); omega, by (try dsimp only); omega, by (try dsimp only); omega, by (try dsimp only); omega, by (try dsimp only); omega, by (try dsimp only); omega, by (try dsimp only); omega, by (try dsimp only); omega, by (try dsimp only); omega, by (try dsimp only); omega, by (try dsimp only); omega, by (try dsimp only); omega, by (try dsimp only); omega, by (try dsimp only); omega, by (try dsimp only); omega, by (try dsimp only); omega, by (try dsimp only); omega, by (try dsimp only); omega, by (try dsimp only); omega, by (try dsimp only); omega, k0ZViqt75, k1ZViqt75, k2ZViqt75, k3ZViqt75, k4ZViqt75⟩⟩
    · have := li_110
      have hq74 := i_ne hq74
      refine wi (fun hq121 => ?_) (fun hq121 => ?_)
      · have := li_111
        have hq121 := i_eq hq121
        obtain ⟨qt122, eqt122, Wqt122, fqt122, pbZViqt122⟩ := p_Mo_item_57 hn Wq1 (x1 := q1.1) (ni := ni) (bc := bc) t_a0 (by omega) (by omega) (by omega) (by omega) (by omega) (by omega) (by omega) (by omega) (by omega) (by omega) (by omega) (by omega) (by omega) (by omega) e5 h0ZScq1 e6 e7 e8 e9 e10 e11 e12 (by omega) (by omega) (by omega) ⟨bks0, bkl0, bkw0, bna0, blb0, bnw0, bvn0, e5, h0ZScq1, e6, e7, e13, e14, e15, e16, e17, e18, e19, tks0, tkl0, tkw0, by (try dsimp only); omega, by (try dsimp only); omega, by (try dsimp only); omega, by (try dsimp only); omega, by (try dsimp only); omega, by (try dsimp only); omega, by (try dsimp only); omega, by (try dsimp only); omega, by (try dsimp only); omega, by (try dsimp only); omega, by (try dsimp only); omega, by (try dsimp only); omega, by (try dsimp only); omega, by (try dsimp only); omega, by (try dsimp only); omega, by (try dsimp only); omega, by (try dsimp only); omega, by (try dsimp only); omega, k20, k21, k23, k24, k25⟩
        have e143 := (Zfr.gi fqt122 t_a0 (by decide)).trans e5
        have e144 := (Zfr.gr fqt122 t_a0 (by decide)).trans e8
        have e145 := (Zfr.gr fqt122 t_a0 (by decide)).trans e11
        have e146 := (Zfr.gr fqt122 t_a0 (by decide)).trans e13
        have e147 := (Zfr.gr fqt122 t_a0 (by decide)).trans e14
        have e148 := (Zfr.gr fqt122 t_a0 (by decide)).trans e15
        have e149 := (Zfr.gr fqt122 t_a0 (by decide)).trans h0Zkdq1
        have e150 := (Zfr.ai fqt122 tkkq1 (by decide)).trans h1Zkdq1
        have F151 := Zfr.tr F26 fqt122 (by decide)
        obtain ⟨bf2qt122, bt2qt122, bd2qt122, bksqt122, bklqt122, bkwqt122, bnaqt122, blbqt122, bnwqt122, bvnqt122, bkgqt122, bg2qt122, bcd2qt122, bkiqt122, bi2qt122, h0ZViqt122, h1ZViqt122, h2ZViqt122, h3ZViqt122, h4ZViqt122, h5ZViqt122, h6ZViqt122, h7ZViqt122, h8ZViqt122, h9ZViqt122, h10ZViqt122, h11ZViqt122, h12ZViqt122, h13ZViqt122, h14ZViqt122, h15ZViqt122, tksqt122, tklqt122, tkwqt122, tkgqt122, tkiqt122, r0ZViqt122, r1ZViqt122, r2ZViqt122, r3ZViqt122, r4ZViqt122, r5ZViqt122, r6ZViqt122, r7ZViqt122, r8ZViqt122, r9ZViqt122, r10ZViqt122, r11ZViqt122, r12ZViqt122, r13ZViqt122, r14ZViqt122, r15ZViqt122, r16ZViqt122, r17ZViqt122, r18ZViqt122, r19ZViqt122, r20ZViqt122, r21ZViqt122, r22ZViqt122, r23ZViqt122, r24ZViqt122, r25ZViqt122, k0ZViqt122, k1ZViqt122, k2ZViqt122, k3ZViqt122, k4ZViqt122⟩ := pbZViqt122
        exact ⟨_, eqt122, Wqt122, F151, ⟨bf2qt122, bt2qt122, bd2qt122, bksqt122, bklqt122, bkwqt122, bnaqt122, blbqt122, bnwqt122, bvnqt122, bkgqt122, bg2qt122, bcd2qt122, bkiqt122, bi2qt122, h0ZViqt122, h1ZViqt122, h2ZViqt122, h3ZViqt122, h4ZViqt122, h5ZViqt122, h6ZViqt122, h7ZViqt122, h8ZViqt122, h9ZViqt122, h10ZViqt122, h11ZViqt122, h12ZViqt122, h13ZViqt122, h14ZViqt122, h15ZViqt122, tksqt122, tklqt122, tkwqt122, tkgqt122, tkiqt122, by (try dsimp only); omega, by (try dsimp only); omega, by (try dsimp only); omega, by (try dsimp only); omega, by (try dsimp only); omega, by (try dsimp only); omega, by (try dsimp only); omega, by (try dsimp only); omega, by (try dsimp only); omega, by (try dsimp only); omega, by (try dsimp only); omega, by (try dsimp only); omega, by (try dsimp only); omega, by (try dsimp only); omega, by (try dsimp only); omega, by (try dsimp only); omega, by (try dsimp only); omega, by (try dsimp only); omega, by (try dsimp only); omega, by (try dsimp only); omega, by (try dsimp only); omega, by (try dsimp only); omega, by (try dsimp only); omega, by (try dsimp only); omega, by (try dsimp only); omega, by (try dsimp only); omega, k0ZViqt122, k1ZViqt122, k2ZViqt122, k3ZViqt122, k4ZViqt122⟩⟩
      · have := li_111
        have hq121 := i_ne hq121
        refine wi (fun hq168 => ?_) (fun hq168 => ?_)
        · have := li_112
          have hq168 := i_eq hq168
          obtain ⟨qt169, eqt169, Wqt169, fqt169, pbZViqt169⟩ := p_Mo_item_57 hn Wq1 (x1 := q1.1) (ni := ni) (bc := bc) t_a0 (by omega) (by omega) (by omega) (by omega) (by omega) (by omega) (by omega) (by omega) (by omega) (by omega) (by omega) (by omega) (by omega) (by omega) e5 h0ZScq1 e6 e7 e8 e9 e10 e11 e12 (by omega) (by omega) (by omega) ⟨bks0, bkl0, bkw0, bna0, blb0, bnw0, bvn0, e5, h0ZScq1, e6, e7, e13, e14, e15, e16, e17, e18, e19, tks0, tkl0, tkw0, by (try dsimp only); omega, by (try dsimp only); omega, by (try dsimp only); omega, by (try dsimp only); omega, by (try dsimp only); omega, by (try dsimp only); omega, by (try dsimp only); omega, by (try dsimp only); omega, by (try dsimp only); omega, by (try dsimp only); omega, by (try dsimp only); omega, by (try dsimp only); omega, by (try dsimp only); omega, by (try dsimp only); omega, by (try dsimp only); omega, by (try dsimp only); omega, by (try dsimp only); omega, by (try dsimp only); omega, k20, k21, k23, k24, k25⟩
          have e190 := (Zfr.gi fqt169 t_a0 (by decide)).trans e5
          have e191 := (Zfr.gr fqt169 t_a0 (by decide)).trans e8
          have e192 := (Zfr.gr fqt169 t_a0 (by decide)).trans e11
          have e193 := (Zfr.gr fqt169 t_a0 (by decide)).trans e13
          have e194 := (Zfr.gr fqt169 t_a0 (by decide)).trans e14
          have e195 := (Zfr.gr fqt169 t_a0 (by decide)).trans e15
          have e196 := (Zfr.gr fqt169 t_a0 (by decide)).trans h0Zkdq1
          have e197 := (Zfr.ai fqt169 tkkq1 (by decide)).trans h1Zkdq1
          have F198 := Zfr.tr F26 fqt169 (by decide)
          obtain ⟨bf2qt169, bt2qt169, bd2qt169, bksqt169, bklqt169, bkwqt169, bnaqt169, blbqt169, bnwqt169, bvnqt169, bkgqt169, bg2qt169, bcd2qt169, bkiqt169, bi2qt169, h0ZViqt169, h1ZViqt169, h2ZViqt169, h3ZViqt169, h4ZViqt169, h5ZViqt169, h6ZViqt169, h7ZViqt169, h8ZViqt169, h9ZViqt169, h10ZViqt169, h11ZViqt169, h12ZViqt169, h13ZViqt169, h14ZViqt169, h15ZViqt169, tksqt169, tklqt169, tkwqt169, tkgqt169, tkiqt169, r0ZViqt169, r1ZViqt169, r2ZViqt169, r3ZViqt169, r4ZViqt169, r5ZViqt169, r6ZViqt169, r7ZViqt169, r8ZViqt169, r9ZViqt169, r10ZViqt169, r11ZViqt169, r12ZViqt169, r13ZViqt169, r14ZViqt169, r15ZViqt169, r16ZViqt169, r17ZViqt169, r18ZViqt169, r19ZViqt169, r20ZViqt169, r21ZViqt169, r22ZViqt169, r23ZViqt169, r24ZViqt169, r25ZViqt169, k0ZViqt169, k1ZViqt169, k2ZViqt169, k3ZViqt169, k4ZViqt169⟩ := pbZViqt169
          exact ⟨_, eqt169, Wqt169, F198, ⟨bf2qt169, bt2qt169, bd2qt169, bksqt169, bklqt169, bkwqt169, bnaqt169, blbqt169, bnwqt169, bvnqt169, bkgqt169, bg2qt169, bcd2qt169, bkiqt169, bi2qt169, h0ZViqt169, h1ZViqt169, h2ZViqt169, h3ZViqt169, h4ZViqt169, h5ZViqt169, h6ZViqt169, h7ZViqt169, h8ZViqt169, h9ZViqt169, h10ZViqt169, h11ZViqt169, h12ZViqt169, h13ZViqt169, h14ZViqt169, h15ZViqt169, tksqt169, tklqt169, tkwqt169, tkgqt169, tkiqt169, by (try dsimp only); omega, by (try dsimp only); omega, by (try dsimp only); omega, by (try dsimp only); omega, by (try dsimp only); omega, by (try dsimp only); omega, by (try dsimp only); omega, by (try dsimp only); omega, by (try dsimp only); omega, by (try dsimp only); omega, by (try dsimp only); omega, by (try dsimp only); omega, by (try dsimp only); omega, by (try dsimp only); omega, by (try dsimp only); omega, by (try dsimp only); omega, by (try dsimp only); omega, by (try dsimp only); omega, by (try dsimp only); omega, by (try dsimp only); omega, by (try dsimp only); omega, by (try dsimp only); omega, by (try dsimp only); omega, by (try dsimp only); omega, by (try dsimp only); omega, by (try dsimp only); omega, k0ZViqt169, k1ZViqt169, k2ZViqt169, k3ZViqt169, k4ZViqt169⟩⟩
        · have := li_112
          have hq168 := i_ne hq168
          refine wi (fun hq215 => ?_) (fun hq215 => ?_)
          · have := li_45
            have hq215 := i_eq hq215
            obtain ⟨qt216, eqt216, Wqt216, fqt216, pbZViqt216⟩ := p_Mo_item_57 hn Wq1 (x1 := q1.1) (ni := ni) (bc := bc) t_a0 (by omega) (by omega) (by omega) (by omega) (by omega) (by omega) (by omega) (by omega) (by omega) (by omega) (by omega) (by omega) (by omega) (by omega) e5 h0ZScq1 e6 e7 e8 e9 e10 e11 e12 (by omega) (by omega) (by omega) ⟨bks0, bkl0, bkw0, bna0, blb0, bnw0, bvn0, e5, h0ZScq1, e6, e7, e13, e14, e15, e16, e17, e18, e19, tks0, tkl0, tkw0, by (try dsimp only); omega, by (try dsimp only); omega, by (try dsimp only); omega, by (try dsimp only); omega, by (try dsimp only); omega, by (try dsimp only); omega, by (try dsimp only); omega, by (try dsimp only); omega, by (try dsimp only); omega, by (try dsimp only); omega, by (try dsimp only); omega, by (try dsimp only); omega, by (try dsimp only); omega, by (try dsimp only); omega, by (try dsimp only); omega, by (try dsimp only); omega, by (try dsimp only); omega, by (try dsimp only); omega, k20, k21, k23, k24, k25⟩
            have e237 := (Zfr.gi fqt216 t_a0 (by decide)).trans e5
            have e238 := (Zfr.gr fqt216 t_a0 (by decide)).trans e8
            have e239 := (Zfr.gr fqt216 t_a0 (by decide)).trans e11
            have e240 := (Zfr.gr fqt216 t_a0 (by decide)).trans e13
            have e241 := (Zfr.gr fqt216 t_a0 (by decide)).trans e14
            have e242 := (Zfr.gr fqt216 t_a0 (by decide)).trans e15
            have e243 := (Zfr.gr fqt216 t_a0 (by decide)).trans h0Zkdq1
            have e244 := (Zfr.ai fqt216 tkkq1 (by decide)).trans h1Zkdq1
            have F245 := Zfr.tr F26 fqt216 (by decide)
            obtain ⟨bf2qt216, bt2qt216, bd2qt216, bksqt216, bklqt216, bkwqt216, bnaqt216, blbqt216, bnwqt216, bvnqt216, bkgqt216, bg2qt216, bcd2qt216, bkiqt216, bi2qt216, h0ZViqt216, h1ZViqt216, h2ZViqt216, h3ZViqt216, h4ZViqt216, h5ZViqt216, h6ZViqt216, h7ZViqt216, h8ZViqt216, h9ZViqt216, h10ZViqt216, h11ZViqt216, h12ZViqt216, h13ZViqt216, h14ZViqt216, h15ZViqt216, tksqt216, tklqt216, tkwqt216, tkgqt216, tkiqt216, r0ZViqt216, r1ZViqt216, r2ZViqt216, r3ZViqt216, r4ZViqt216, r5ZViqt216, r6ZViqt216, r7ZViqt216, r8ZViqt216, r9ZViqt216, r10ZViqt216, r11ZViqt216, r12ZViqt216, r13ZViqt216, r14ZViqt216, r15ZViqt216, r16ZViqt216, r17ZViqt216, r18ZViqt216, r19ZViqt216, r20ZViqt216, r21ZViqt216, r22ZViqt216, r23ZViqt216, r24ZViqt216, r25ZViqt216, k0ZViqt216, k1ZViqt216, k2ZViqt216, k3ZViqt216, k4ZViqt216⟩ := pbZViqt216
            exact ⟨_, eqt216, Wqt216, F245, ⟨bf2qt216, bt2qt216, bd2qt216, bksqt216, bklqt216, bkwqt216, bnaqt216, blbqt216, bnwqt216, bvnqt216, bkgqt216, bg2qt216, bcd2qt216, bkiqt216, bi2qt216, h0ZViqt216, h1ZViqt216, h2ZViqt216, h3ZViqt216, h4ZViqt216, h5ZViqt216, h6ZViqt216, h7ZViqt216, h8ZViqt216, h9ZViqt216, h10ZViqt216, h11ZViqt216, h12ZViqt216, h13ZViqt216, h14ZViqt216, h15ZViqt216, tksqt216, tklqt216, tkwqt216, tkgqt216, tkiqt216, by (try dsimp only); omega, by (try dsimp only); omega, by (try dsimp only); omega, by (try dsimp only); omega, by (try dsimp only); omega, by (try dsimp only); omega, by (try dsimp only); omega, by (try dsimp only); omega, by (try dsimp only); omega, by (try dsimp only); omega, by (try dsimp only); omega, by (try dsimp only); omega, by (try dsimp only); omega, by (try dsimp only); omega, by (try dsimp only); omega, by (try dsimp only); omega, by (try dsimp only); omega, by (try dsimp only); omega, by (try dsimp only); omega, by (try dsimp only); omega, by (try dsimp only); omega, by (try dsimp only); omega, by (try dsimp only); omega, by (try dsimp only); omega, by (try dsimp only); omega, by (try dsimp only); omega, k0ZViqt216, k1ZViqt216, k2ZViqt216, k3ZViqt216, k4ZViqt216⟩⟩
          · have := li_45
            have hq215 := i_ne hq215
            refine wi (fun hq262 => ?_) (fun hq262 => ?_)
            · have := li_40
              have hq262 := i_eq hq262
              obtain ⟨qt263, eqt263, Wqt263, fqt263, pbZViqt263⟩ := p_Mo_item_57 hn Wq1 (x1 := q1.1) (ni := ni) (bc := bc) t_a0 (by omega) (by omega) (by omega) (by omega) (by omega) (by omega) (by omega) (by omega) (by omega) (by omega) (by omega) (by omega) (by omega) (by omega) e5 h0ZScq1 e6 e7 e8 e9 e10 e11 e12 (by omega) (by omega) (by omega) ⟨bks0, bkl0, bkw0, bna0, blb0, bnw0, bvn0, e5, h0ZScq1, e6, e7, e13, e14, e15, e16, e17, e18, e19, tks0, tkl0, tkw0, by (try dsimp only); omega, by (try dsimp only); omega, by (try dsimp only); omega, by (try dsimp only); omega, by (try dsimp only); omega, by (try dsimp only); omega, by (try dsimp only); omega, by (try dsimp only); omega, by (try dsimp only); omega, by (try dsimp only); omega, by (try dsimp only); omega, by (try dsimp only); omega, by (try dsimp only); omega, by (try dsimp only); omega, by (try dsimp only); omega, by (try dsimp only); omega, by (try dsimp only); omega, by (try dsimp only); omega, k20, k21, k23, k24, k25⟩
              have e284 := (Zfr.gi fqt263 t_a0 (by decide)).trans e5
              have e285 := (Zfr.gr fqt263 t_a0 (by decide)).trans e8
              have e286 := (Zfr.gr fqt263 t_a0 (by decide)).trans e11
              have e287 := (Zfr.gr fqt263 t_a0 (by decide)).trans e13
              have e288 := (Zfr.gr fqt263 t_a0 (by decide)).trans e14
              have e289 := (Zfr.gr fqt263 t_a0 (by decide)).trans e15
              have e290 := (Zfr.gr fqt263 t_a0 (by decide)).trans h0Zkdq1
              have e291 := (Zfr.ai fqt263 tkkq1 (by decide)).trans h1Zkdq1
              have F292 := Zfr.tr F26 fqt263 (by decide)
              obtain ⟨bf2qt263, bt2qt263, bd2qt263, bksqt263, bklqt263, bkwqt263, bnaqt263, blbqt263, bnwqt263, bvnqt263, bkgqt263, bg2qt263, bcd2qt263, bkiqt263, bi2qt263, h0ZViqt263, h1ZViqt263, h2ZViqt263, h3ZViqt263, h4ZViqt263, h5ZViqt263, h6ZViqt263, h7ZViqt263, h8ZViqt263, h9ZViqt263, h10ZViqt263, h11ZViqt263, h12ZViqt263, h13ZViqt263, h14ZViqt263, h15ZViqt263, tksqt263, tklqt263, tkwqt263, tkgqt263, tkiqt263, r0ZViqt263, r1ZViqt263, r2ZViqt263, r3ZViqt263, r4ZViqt263, r5ZViqt263, r6ZViqt263, r7ZViqt263, r8ZViqt263, r9ZViqt263, r10ZViqt263, r11ZViqt263, r12ZViqt263, r13ZViqt263, r14ZViqt263, r15ZViqt263, r16ZViqt263, r17ZViqt263, r18ZViqt263, r19ZViqt263, r20ZViqt263, r21ZViqt263, r22ZViqt263, r23ZViqt263, r24ZViqt263, r25ZViqt263, k0ZViqt263, k1ZViqt263, k2ZViqt263, k3ZViqt263, k4ZViqt263⟩ := pbZViqt263
              exact ⟨_, eqt263, Wqt263, F292, ⟨bf2qt263, bt2qt263, bd2qt263, bksqt263, bklqt263, bkwqt263, bnaqt263, blbqt263, bnwqt263, bvnqt263, bkgqt263, bg2qt263, bcd2qt263, bkiqt263, bi2qt263, h0ZViqt263, h1ZViqt263, h2ZViqt263, h3ZViqt263, h4ZViqt263, h5ZViqt263, h6ZViqt263, h7ZViqt263, h8ZViqt263, h9ZViqt263, h10ZViqt263, h11ZViqt263, h12ZViqt263, h13ZViqt263, h14ZViqt263, h15ZViqt263, tksqt263, tklqt263, tkwqt263, tkgqt263, tkiqt263, by (try dsimp only); omega, by (try dsimp only); omega, by (try dsimp only); omega, by (try dsimp only); omega, by (try dsimp only); omega, by (try dsimp only); omega, by (try dsimp only); omega, by (try dsimp only); omega, by (try dsimp only); omega, by (try dsimp only); omega, by (try dsimp only); omega, by (try dsimp only); omega, by (try dsimp only); omega, by (try dsimp only); omega, by (try dsimp only); omega, by (try dsimp only); omega, by (try dsimp only); omega, by (try dsimp only); omega, by (try dsimp only); omega, by (try dsimp only); omega, by (try dsimp only); omega, by (try dsimp only); omega, by (try dsimp only); omega, by (try dsimp only); omega, by (try dsimp only); omega, by (try dsimp only); omega, k0ZViqt263, k1ZViqt263, k2ZViqt263, k3ZViqt263, k4ZViqt263⟩⟩
            · have := li_40
              have hq262 := i_ne hq262
              refine wi (fun hq309 => ?_) (fun hq309 => ?_)
              · have := li_6
                have hq309 := i_eq hq309
                obtain ⟨qt310, eqt310, Wqt310, fqt310, pbZViqt310⟩ := p_Mo_item_57 hn Wq1 (x1 := q1.1) (ni := ni) (bc := bc) t_a0 (by omega) (by omega) (by omega) (by omega) (by omega) (by omega) (by omega) (by omega) (by omega) (by omega) (by omega) (by omega) (by omega) (by omega) e5 h0ZScq1 e6 e7 e8 e9 e10 e11 e12 (by omega) (by omega) (by omega) ⟨bks0, bkl0, bkw0, bna0, blb0, bnw0, bvn0, e5, h0ZScq1, e6, e7, e13, e14, e15, e16, e17, e18, e19, tks0, tkl0, tkw0, by (try dsimp only); omega, by (try dsimp only); omega, by (try dsimp only); omega, by (try dsimp only); omega, by (try dsimp only); omega, by (try dsimp only); omega, by (try dsimp only); omega, by (try dsimp only); omega, by (try dsimp only); omega, by (try dsimp only); omega, by (try dsimp only); omega, by (try dsimp only); omega, by (try dsimp only); omega, by (try dsimp only); omega, by (try dsimp only); omega, by (try dsimp only); omega, by (try dsimp only); omega, by (try dsimp only); omega, k20, k21, k23, k24, k25⟩
                have e331 := (Zfr.gi fqt310 t_a0 (by decide)).trans e5
                have e332 := (Zfr.gr fqt310 t_a0 (by decide)).trans e8
                have e333 := (Zfr.gr fqt310 t_a0 (by decide)).trans e11
                have e334 := (Zfr.gr fqt310 t_a0 (by decide)).trans e13
                have e335 := (Zfr.gr fqt310 t_a0 (by decide)).trans e14
                have e336 := (Zfr.gr fqt310 t_a0 (by decide)).trans e15
                have e337 := (Zfr.gr fqt310 t_a0 (by decide)).trans h0Zkdq1
                have e338 := (Zfr.ai fqt310 tkkq1 (by decide)).trans h1Zkdq1
                have F339 := Zfr.tr F26 fqt310 (by decide)
                obtain ⟨bf2qt310, bt2qt310, bd2qt310, bksqt310, bklqt310, bkwqt310, bnaqt310, blbqt310, bnwqt310, bvnqt310, bkgqt310, bg2qt310, bcd2qt310, bkiqt310, bi2qt310, h0ZViqt310, h1ZViqt310, h2ZViqt310, h3ZViqt310, h4ZViqt310, h5ZViqt310, h6ZViqt310, h7ZViqt310, h8ZViqt310, h9ZViqt310, h10ZViqt310, h11ZViqt310, h12ZViqt310, h13ZViqt310, h14ZViqt310, h15ZViqt310, tksqt310, tklqt310, tkwqt310, tkgqt310, tkiqt310, r0ZViqt310, r1ZViqt310, r2ZViqt310, r3ZViqt310, r4ZViqt310, r5ZViqt310, r6ZViqt310, r7ZViqt310, r8ZViqt310, r9ZViqt310, r10ZViqt310, r11ZViqt310, r12ZViqt310, r13ZViqt310, r14ZViqt310, r15ZViqt310, r16ZViqt310, r17ZViqt310, r18ZViqt310, r19ZViqt310, r20ZViqt310, r21ZViqt310, r22ZViqt310, r23ZViqt310, r24ZViqt310, r25ZViqt310, k0ZViqt310, k1ZViqt310, k2ZViqt310, k3ZViqt310, k4ZViqt310⟩ := pbZViqt310
                exact ⟨_, eqt310, Wqt310, F339, ⟨bf2qt310, bt2qt310, bd2qt310, bksqt310, bklqt310, bkwqt310, bnaqt310, blbqt310, bnwqt310, bvnqt310, bkgqt310, bg2qt310, bcd2qt310, bkiqt310, bi2qt310, h0ZViqt310, h1ZViqt310, h2ZViqt310, h3ZViqt310, h4ZViqt310, h5ZViqt310, h6ZViqt310, h7ZViqt310, h8ZViqt310, h9ZViqt310, h10ZViqt310, h11ZViqt310, h12ZViqt310, h13ZViqt310, h14ZViqt310, h15ZViqt310, tksqt310, tklqt310, tkwqt310, tkgqt310, tkiqt310, by (try dsimp only); omega, by (try dsimp only); omega, by (try dsimp only); omega, by (try dsimp only); omega, by (try dsimp only); omega, by (try dsimp only); omega, by (try dsimp only); omega, by (try dsimp only); omega, by (try dsimp only); omega, by (try dsimp only); omega, by (try dsimp only); omega, by (try dsimp only); omega, by (try dsimp only); omega, by (try dsimp only); omega, by (try dsimp only); omega, by (try dsimp only); omega, by (try dsimp only); omega, by (try dsimp only); omega, by (try dsimp only); omega, by (try dsimp only); omega, by (try dsimp only); omega, by (try dsimp only); omega, by (try dsimp only); omega, by (try dsimp only); omega, by (try dsimp only); omega, by (try dsimp only); omega, k0ZViqt310, k1ZViqt310, k2ZViqt310, k3ZViqt310, k4ZViqt310⟩⟩
              · have := li_6
                have hq309 := i_ne hq309
                refine wi (fun hq356 => ?_) (fun hq356 => ?_)
                · have := li_2
                  have hq356 := i_eq hq356
                  obtain ⟨qt357, eqt357, Wqt357, fqt357, pbZViqt357⟩ := p_Mo_item_57 hn Wq1 (x1 := q1.1) (ni := ni) (bc := bc) t_a0 (by omega) (by omega) (by omega) (by omega) (by omega) (by omega) (by omega) (by omega) (by omega) (by omega) (by omega) (by omega) (by omega) (by omega) e5 h0ZScq1 e6 e7 e8 e9 e10 e11 e12 (by omega) (by omega) (by omega) ⟨bks0, bkl0, bkw0, bna0, blb0, bnw0, bvn0, e5, h0ZScq1, e6, e7, e13, e14, e15, e16, e17, e18, e19, tks0, tkl0, tkw0, by (try dsimp only); omega, by (try dsimp only); omega, by (try dsimp only); omega, by (try dsimp only); omega, by (try dsimp only); omega, by (try dsimp only); omega, by (try dsimp only); omega, by (try dsimp only); omega, by (try dsimp only); omega, by (try dsimp only); omega, by (try dsimp only); omega, by (try dsimp only); omega, by (try dsimp only); omega, by (try dsimp only); omega, by (try dsimp only); omega, by (try dsimp only); omega, by (try dsimp only); omega, by (try dsimp only); omega, k20, k21, k23, k24, k25⟩
                  have e378 := (Zfr.gi fqt357 t_a0 (by decide)).trans e5
                  have e379 := (Zfr.gr fqt357 t_a0 (by decide)).trans e8
                  have e380 := (Zfr.gr fqt357 t_a0 (by decide)).trans e11
                  have e381 := (Zfr.gr fqt357 t_a0 (by decide)).trans e13
                  have e382 := (Zfr.gr fqt357 t_a0 (by decide)).trans e14
                  have e383 := (Zfr.gr fqt357 t_a0 (by decide)).trans e15
                  have e384 := (Zfr.gr fqt357 t_a0 (by decide)).trans h0Zkdq1
                  have e385 := (Zfr.ai fqt357 tkkq1 (by decide)).trans h1Zkdq1
                  have F386 := Zfr.tr F26 fqt357 (by decide)
                  obtain ⟨bf2qt357, bt2qt357, bd2qt357, bksqt357, bklqt357, bkwqt357, bnaqt357, blbqt357, bnwqt357, bvnqt357, bkgqt357, bg2qt357, bcd2qt357, bkiqt357, bi2qt357, h0ZViqt357, h1ZViqt357, h2ZViqt357, h3ZViqt357, h4ZViqt357, h5ZViqt357, h6ZViqt357, h7ZViqt357, h8ZViqt357, h9ZViqt357, h10ZViqt357, h11ZViqt357, h12ZViqt357, h13ZViqt357, h14ZViqt357, h15ZViqt357, tksqt357, tklqt357, tkwqt357, tkgqt357, tkiqt357, r0ZViqt357, r1ZViqt357, r2ZViqt357, r3ZViqt357, r4ZViqt357, r5ZViqt357, r6ZViqt357, r7ZViqt357, r8ZViqt357, r9ZViqt357, r10ZViqt357, r11ZViqt357, r12ZViqt357, r13ZViqt357, r14ZViqt357, r15ZViqt357, r16ZViqt357, r17ZViqt357, r18ZViqt357, r19ZViqt357, r20ZViqt357, r21ZViqt357, r22ZViqt357, r23ZViqt357, r24ZViqt357, r25ZViqt357, k0ZViqt357, k1ZViqt357, k2ZViqt357, k3ZViqt357, k4ZViqt357⟩ := pbZViqt357
                  exact ⟨_, eqt357, Wqt357, F386, ⟨bf2qt357, bt2qt357, bd2qt357, bksqt357, bklqt357, bkwqt357, bnaqt357, blbqt357, bnwqt357, bvnqt357, bkgqt357, bg2qt357, bcd2qt357, bkiqt357, bi2qt357, h0ZViqt357, h1ZViqt357, h2ZViqt357, h3ZViqt357, h4ZViqt357, h5ZViqt357, h6ZViqt357, h7ZViqt357, h8ZViqt357, h9ZViqt357, h10ZViqt357, h11ZViqt357, h12ZViqt357, h13ZViqt357, h14ZViqt357, h15ZViqt357, tksqt357, tklqt357, tkwqt357, tkgqt357, tkiqt357, by (try dsimp only); omega, by (try dsimp only); omega, by (try dsimp only); omega, by (try dsimp only); omega, by (try dsimp only); omega, by (try dsimp only); omega, by (try dsimp only); omega, by (try dsimp only); omega, by (try dsimp only); omega, by (try dsimp only); omega, by (try dsimp only); omega, by (try dsimp only); omega, by (try dsimp only); omega, by (try dsimp only); omega, by (try dsimp only); omega, by (try dsimp only); omega, by (try dsimp only); omega, by (try dsimp only); omega, by (try dsimp only); omega, by (try dsimp only); omega, by (try dsimp only); omega, by (try dsimp only); omega, by (try dsimp only); omega, by (try dsimp only); omega, by (try dsimp only); omega, by (try dsimp only); omega, k0ZViqt357, k1ZViqt357, k2ZViqt357, k3ZViqt357, k4ZViqt357⟩⟩
                · have := li_2
                  have hq356 := i_ne hq356
                  obtain ⟨w48, ew48⟩ := go_64 Wq1 t_a0
                  refine wb ew48 ?_
                  obtain ⟨q47, eq47, Wq47, fq47, pbZSfq47⟩ := p_Mo_wrong hn Wq1  t_a0 (by omega) (by omega) (by omega) (by omega) h0ZScq1 e6
                  refine wb eq47 ?_
                  have e405 := (Zfr.gi fq47 t_a0 (by decide)).trans e5
                  have e406 := (Zfr.gi fq47 t_a0 (by decide)).trans e6
                  have e407 := (Zfr.gi fq47 t_a0 (by decide)).trans e7
                  have e408 := (Zfr.gr fq47 t_a0 (by decide)).trans e8
                  have e409 := (Zfr.ai fq47 tqw_1 (by decide)).trans e9
                  have e410 := (Zfr.gi fq47 t_a0 (by decide)).trans e10
                  have e411 := (Zfr.gr fq47 t_a0 (by decide)).trans e11
                  have e412 := (Zfr.ai fq47 tqw_2 (by decide)).trans e12
                  have e413 := (Zfr.gr fq47 t_a0 (by decide)).trans e13
                  have e414 := (Zfr.gr fq47 t_a0 (by decide)).trans e14
                  have e415 := (Zfr.gr fq47 t_a0 (by decide)).trans e15
                  have e416 := (Zfr.ai fq47 tks0 (by decide)).trans e16
                  have e417 := (Zfr.ai fq47 tkl0 (by decide)).trans e17
                  have e418 := (Zfr.ai fq47 tkw0 (by decide)).trans e18
                  have e419 := (Zfr.gi fq47 t_a0 (by decide)).trans e19
                  have e420 := (Zfr.gr fq47 t_a0 (by decide)).trans h0Zkdq1
                  have e421 := (Zfr.ai fq47 tkkq1 (by decide)).trans h1Zkdq1
                  have k422 := GtP_fr k20 fq47 t_a0 Wq1 (by decide)
                  have sc424 : Sc q1.2 q47 a0 (0) (0) := by
                    obtain ⟨yf2, z0y, x0y, x1y⟩ := pbZSfq47
                    exact Sc_mk h0ZScq1 z0y e6 ((Zfr.gi (ci := 12) fq47 t_a0 (by decide)).trans e6) e7 ((Zfr.gi (ci := 12) fq47 t_a0 (by decide)).trans e7) (by omega)
                  have k423 := WyN_fr k21 fq47 t_a0 Wq1 (by decide) sc424
                  have k425 := TbI_fr k23 fq47 t_a0 Wq1 (by decide) sc424
                  have k426 := TbC_fr k24 fq47 t_a0 Wq1 (by decide) sc424
                  have k427 := TkN_fr k25 fq47 t_a0 Wq1 (by decide)
                  have F428 := Zfr.tr F26 fq47 (by decide)
                  obtain ⟨bf2q47, h0ZSfq47, r0ZSfq47, r1ZSfq47⟩ := pbZSfq47
                  exact ⟨_, rfl, Wq47, F428, ⟨bf2q47, tv, dv, bks0, bkl0, bkw0, bna0, blb0, bnw0, bvn0, kg, gc, cd, ki, it, e405, h0ZSfq47, e406, e407, e413, e414, e415, e416, e417, e418, e419, e408, e409, e410, e411, e412, tks0, tkl0, tkw0, tqw_1, tqw_2, by (try dsimp only); omega, by (try dsimp only); omega, by (try dsimp only); omega, by (try dsimp only); omega, by (try dsimp only); omega, by (try dsimp only); omega, by (try dsimp only); omega, by (try dsimp only); omega, by (try dsimp only); omega, by (try dsimp only); omega, by (try dsimp only); omega, by (try dsimp only); omega, by (try dsimp only); omega, by (try dsimp only); omega, by (try dsimp only); omega, by (try dsimp only); omega, by (try dsimp only); omega, by (try dsimp only); omega, by (try dsimp only); omega, by (try dsimp only); omega, by (try dsimp only); omega, by (try dsimp only); omega, by (try dsimp only); omega, by (try dsimp only); omega, by (try dsimp only); omega, by (try dsimp only); omega, k422, k423, TbI_m k425 (by omega), k426, k427⟩⟩

end ZzT
