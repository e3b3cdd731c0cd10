section ZzT
abbrev M_Mo_joined : List (Nat × Nat) := [(64, 18), (64, 19), (64, 20), (64, 52), (64, 69), (103, 0), (104, 0), (114, 0), (115, 0), (116, 0)]
set_option maxRecDepth 100000 in
set_option maxHeartbeats 4000000 in
theorem p_Mo_joined {nf : Nat} (hn : 8589934592 ≤ nf) {G : List Nat} {c : Zc} (W : Zwt zty G c) {a0 : Nat} {a1 : Int32} {a2 : Int32} {a3 : Int32} {a4 : Int32} {ni : Int32} {bc : Int32} {s0 : Nat} {μ : Int} {pv : Int32} {fv : Int32} {tv : Int32} {dv : Int32} {fr : Int32} {ksr : Nat} {sv : Int32} (t_a0 : G[a0]? = some 64) (pl_pv : 0 ≤ pv.toInt) (pu_pv : pv.toInt ≤ 8) (pl_fv : 0 ≤ fv.toInt) (pu_fv : fv.toInt ≤ 0) (pl_tv : 0 ≤ tv.toInt) (pu_tv : tv.toInt ≤ 200) (pl_dv : 0 ≤ dv.toInt) (pu_dv : dv.toInt ≤ 11) (pl_fr : 1 ≤ fr.toInt) (pu_fr : fr.toInt ≤ 1000) (pl_a1 : 0 ≤ a1.toInt) (pu_a1 : a1.toInt ≤ 999) (pl_sv : 0 ≤ sv.toInt) (pu_sv : sv.toInt ≤ 1) (pl_a2 : 1 ≤ a2.toInt) (pu_a2 : a2.toInt ≤ 2) (pl_a4 : 16 ≤ a4.toInt) (pu_a4 : a4.toInt ≤ 17) (eh_pv : zgi c a0 12 25 = some pv) (eh_fv : zgi c a0 12 19 = some fv) (eh_tv : zgi c a0 12 18 = some tv) (eh_dv : zgi c a0 12 53 = some dv) (eh_fr : zgi c a0 12 69 = some fr) (eh_ksr : zgr c a0 12 66 = some ksr) (eh_sv : zai c ksr 0 a1 = some sv) (pp_7 : a1.toInt = fr.toInt - 1) (pp_10 : a2.toInt = sv.toInt + 1) (hb_ZV : ZV G c a0 pv fv tv dv ni bc) (hb_Zpi : Zpi G c a0 s0 μ) : ∃ q, f_Mo_joined nf a0 a1 a2 a3 a4 c = some q ∧ Zwt zty G q ∧ Zfr G M_Mo_joined c q ∧ ZVp G q a0 pv fv tv dv ni bc ∧ Zpi G q a0 s0 (μ - 1) := by
  have F0 : Zfr G M_Mo_joined c c := Zfr.rf
  unfold f_Mo_joined
  obtain ⟨xq, xe, tqw_1⟩ := gf_64_66 W t_a0
  rw [eh_ksr] at xe; cases xe
  obtain ⟨bks0, bkl0, bkw0, bna0, blb0, bnw0, bvn0, h0ZV0, h1ZV0, h2ZV0, h3ZV0, h4ZV0, h5ZV0, h6ZV0, h7ZV0, h8ZV0, h9ZV0, h10ZV0, tks0, tkl0, tkw0, r0ZV0, r1ZV0, r2ZV0, r3ZV0, r4ZV0, r5ZV0, r6ZV0, r7ZV0, r8ZV0, r9ZV0, r10ZV0, r11ZV0, r12ZV0, r13ZV0, r14ZV0, r15ZV0, r16ZV0, r17ZV0, k0ZV0, k1ZV0, k2ZV0, k3ZV0, k4ZV0⟩ := hb_ZV
  have k0Zpi0 := hb_Zpi
  obtain ⟨w_2, ew_2, tw_2⟩ := gf_64_67 W t_a0
  obtain ⟨w_3, ew_3, tw_3⟩ := gf_64_68 W t_a0
  obtain ⟨w_4, ew_4, _⟩ := ga_115 W tw_2 (i := a1) (by omega) (by omega)
  obtain ⟨w_5, ew_5, _⟩ := ga_116 W tw_3 (i := a1) (by omega) (by omega)
  obtain ⟨okh, pbh, tph⟩ := PI_open k0Zpi0 eh_fv (by omega) eh_fr (by omega) (by omega) eh_ksr eh_sv ew_2 ew_4 ew_3 ew_5
  have tvv := vfi_e eh_tv
  have okn := okh.1
  have okm := okh.2.1
  have okt := okh.2.2
  clear okh
  have wu := w_J (s := sv) (f := w_4) (by omega) (by omega) (by omega)
  have := PB_dp pbh eh_fv eh_dv
  refine wb ew_2 ?_
  refine wb ew_4 ?_
  refine wi (fun hq6 => ?_) (fun hq6 => ?_)
  · have := li_2
    have hq6 := i_eq hq6
    obtain ⟨w25, ew25⟩ := go_64 W t_a0
    refine wb ew25 ?_
    obtain ⟨w_8, ew_8, lw_8, uw_8⟩ := gf_64_52 W t_a0
    have := PB_nm pbh h1ZV0 ew_8 h2ZV0
    have := li_0
    obtain ⟨q24, eq24, Wq24, fq24, po0q24⟩ := p_Mo_code hn W (a1 := a4) (a2 := 0) t_a0 h1ZV0 ew_8 (by omega)
    refine wb eq24 ?_
    have e12 := (Zfr.gi fq24 t_a0 (by decide)).trans h0ZV0
    have e13 := (Zfr.gi fq24 t_a0 (by decide)).trans h1ZV0
    have e14 := (Zfr.gi fq24 t_a0 (by decide)).trans h2ZV0
    have e15 := (Zfr.gi fq24 t_a0 (by decide)).trans h3ZV0
    have e16 := (Zfr.gi fq24 t_a0 (by decide)).trans eh_fr
    have e17 := (Zfr.gr fq24 t_a0 (by decide)).trans eh_ksr
    have e18 := (Zfr.ai fq24 tqw_1 (by decide)).trans eh_sv
    have e19 := (Zfr.gr fq24 t_a0 (by decide)).trans h4ZV0
    have e20 := (Zfr.gr fq24 t_a0 (by decide)).trans h5ZV0
    have e21 := (Zfr.gr fq24 t_a0 (by decide)).trans h6ZV0
    have e22 := (Zfr.ai fq24 tks0 (by decide)).trans h7ZV0
    have e23 := (Zfr.ai fq24 tkl0 (by decide)).trans h8ZV0
    have e24 := (Zfr.ai fq24 tkw0 (by decide)).trans h9ZV0
    have e25 := (Zfr.gi fq24 t_a0 (by decide)).trans h10ZV0
    have e26 := (Zfr.gr fq24 t_a0 (by decide)).trans ew_2
    have e27 := (Zfr.gr fq24 t_a0 (by decide)).trans ew_3
    have e28 := (Zfr.ai fq24 tw_2 (by decide)).trans ew_4
    have e29 := (Zfr.ai fq24 tw_3 (by decide)).trans ew_5
    have k30 := GtP_cd k0ZV0 fq24 t_a0 W po0q24
    have sc32 := Sc_fr fq24 t_a0 (by decide) (by decide) (by decide)
    have k31 := WyN_fr k1ZV0 fq24 t_a0 W (by decide) sc32
    have k33 := TbI_cd k2ZV0 fq24 t_a0 W po0q24
    have k34 := TbC_cd k3ZV0 fq24 t_a0 W po0q24
    have k35 := TkN_fr k4ZV0 fq24 t_a0 W (by decide)
    have k36 := PB_two pbh fq24 t_a0 W po0q24 (two_i (by omega)) (by omega)
    have k37 := TpK_fr tph fq24 t_a0 W (by decide)
    have F38 := Zfr.tr F0 fq24 (by decide)
    unfold f_Mo_joined_17
    refine wb e26 ?_
    refine wb e28 ?_
    refine wi (fun hq39 => ?_) (fun hq39 => ?_)
    · have hq39 := i_eq hq39
      exfalso
      omega
    · have hq39 := i_ne hq39
      obtain ⟨w20, ew20⟩ := go_64 Wq24 t_a0
      refine wb ew20 ?_
      obtain ⟨q19, eq19, Wq19, fq19, pl0q19, pu0q19, pbZSkq19⟩ := p_Mo_takes hn Wq24 (a1 := a3) t_a0 (by omega) (by omega) (by omega) (by omega) e13 e14
      refine wb eq19 ?_
      have e42 := (Zfr.gi fq19 t_a0 (by decide)).trans e12
      have e43 := (Zfr.gi fq19 t_a0 (by decide)).trans e15
      have e44 := (Zfr.gi fq19 t_a0 (by decide)).trans e16
      have e45 := (Zfr.gr fq19 t_a0 (by decide)).trans e17
      have e46 := (Zfr.ai fq19 tqw_1 (by decide)).trans e18
      have e47 := (Zfr.gr fq19 t_a0 (by decide)).trans e19
      have e48 := (Zfr.gr fq19 t_a0 (by decide)).trans e20
      have e49 := (Zfr.gr fq19 t_a0 (by decide)).trans e21
      have e50 := (Zfr.ai fq19 tks0 (by decide)).trans e22
      have e51 := (Zfr.ai fq19 tkl0 (by decide)).trans e23
      have e52 := (Zfr.ai fq19 tkw0 (by decide)).trans e24
      have e53 := (Zfr.gi fq19 t_a0 (by decide)).trans e25
      have e54 := (Zfr.gr fq19 t_a0 (by decide)).trans e26
      have e55 := (Zfr.gr fq19 t_a0 (by decide)).trans e27
      have e56 := (Zfr.ai fq19 tw_2 (by decide)).trans e28
      have e57 := (Zfr.ai fq19 tw_3 (by decide)).trans e29
      have k58 := GtP_fr k30 fq19 t_a0 Wq24 (by decide)
      have sc60 : Sc q24 q19.2 a0 (q19.1.toInt) (0) := by
        obtain ⟨yf2, yt2, z0y, z1y, x0y, x1y, x2y, x3y, x4y, x5y, x6y⟩ := pbZSkq19
        exact Sc_mk e13 z0y e14 z1y e15 ((Zfr.gi (ci := 12) fq19 t_a0 (by decide)).trans e15) (by omega)
      have k59 := WyN_fr k31 fq19 t_a0 Wq24 (by decide) sc60
      have k61 := TbI_fr k33 fq19 t_a0 Wq24 (by decide) sc60
      have k62 := TbC_fr k34 fq19 t_a0 Wq24 (by decide) sc60
      have k63 := TkN_fr k35 fq19 t_a0 Wq24 (by decide)
      have k64 := PB_sc k36 fq19 t_a0 Wq24 (by decide) sc60 (by omega)
      have k65 := TpK_fr k37 fq19 t_a0 Wq24 (by decide)
      have F66 := Zfr.tr F38 fq19 (by decide)
      obtain ⟨bf2q19, bt2q19, h0ZSkq19, h1ZSkq19, r0ZSkq19, r1ZSkq19, r2ZSkq19, r3ZSkq19, r4ZSkq19, r5ZSkq19, r6ZSkq19⟩ := pbZSkq19
      refine wi (fun hq67 => ?_) (fun hq67 => ?_)
      · have hq67 := i_eq hq67
        refine wb e44 ?_
        have := li_1
        have := i_sub (a := fr) (b := 1) (by omega) (by omega)
        obtain ⟨c23, ec23, Wc23, fc23, gc23⟩ := pf_64_69 Wq19 t_a0 (x := (fr - 1)) (rgi (by omega) (by omega))
        refine wb ec23 ?_
        have e68 := (Zfr.gi fc23 t_a0 (by decide)).trans e42
        have e69 := (Zfr.gi fc23 t_a0 (by decide)).trans e43
        have e70 := (Zfr.gr fc23 t_a0 (by decide)).trans e45
        have e71 := (Zfr.ai fc23 tqw_1 (by decide)).trans e46
        have e72 := (Zfr.gr fc23 t_a0 (by decide)).trans e47
        have e73 := (Zfr.gr fc23 t_a0 (by decide)).trans e48
        have e74 := (Zfr.gr fc23 t_a0 (by decide)).trans e49
        have e75 := (Zfr.ai fc23 tks0 (by decide)).trans e50
        have e76 := (Zfr.ai fc23 tkl0 (by decide)).trans e51
        have e77 := (Zfr.ai fc23 tkw0 (by decide)).trans e52
        have e78 := (Zfr.gi fc23 t_a0 (by decide)).trans e53
        have e79 := (Zfr.gr fc23 t_a0 (by decide)).trans e54
        have e80 := (Zfr.gr fc23 t_a0 (by decide)).trans e55
        have e81 := (Zfr.ai fc23 tw_2 (by decide)).trans e56
        have e82 := (Zfr.ai fc23 tw_3 (by decide)).trans e57
        have e83 := (Zfr.gi fc23 t_a0 (by decide)).trans h0ZSkq19
        have e84 := (Zfr.gi fc23 t_a0 (by decide)).trans h1ZSkq19
        have k85 := GtP_fr k58 fc23 t_a0 Wq19 (by decide)
        have sc87 := Sc_fr fc23 t_a0 (by decide) (by decide) (by decide)
        have k86 := WyN_fr k59 fc23 t_a0 Wq19 (by decide) sc87
        have k88 := TbI_fr k61 fc23 t_a0 Wq19 (by decide) sc87
        have k89 := TbC_fr k62 fc23 t_a0 Wq19 (by decide) sc87
        have k90 := TkN_fr k63 fc23 t_a0 Wq19 (by decide)
        have k91 := PB_s0 k64 fc23 t_a0 Wq19 (by decide) sc87
        have k92 := TpK_fr k65 fc23 t_a0 Wq19 (by decide)
        have F93 := Zfr.tr F66 fc23 (by decide)
        unfold f_Mo_joined_88
        exact ⟨_, rfl, Wc23, F93, ⟨bf2q19, bt2q19, dv, bks0, bkl0, bkw0, bna0, blb0, bnw0, bvn0, e68, e83, e84, e69, e72, e73, e74, e75, e76, e77, e78, tks0, tkl0, tkw0, by (try dsimp only); omega, by (try dsimp only); omega, by (try dsimp only); omega, by (try dsimp only); omega, by (try dsimp only); omega, by (try dsimp only); omega, by (try dsimp only); omega, by (try dsimp only); omega, by (try dsimp only); omega, by (try dsimp only); omega, by (try dsimp only); omega, by (try dsimp only); omega, by (try dsimp only); omega, by (try dsimp only); omega, by (try dsimp only); omega, by (try dsimp only); omega, by (try dsimp only); omega, by (try dsimp only); omega, by (try dsimp only); omega, by (try dsimp only); omega, k85, k86, k88, k89, k90⟩, PI_pop k91 (by omega) (by omega) (by omega) (by omega) gc23 (by omega) (by omega)⟩
      · have hq67 := i_ne hq67
        unfold f_Mo_joined_34
        refine wb e54 ?_
        refine wb e56 ?_
        obtain ⟨c9, ec9, Wc9, fc9, gc9⟩ := pa_115 Wq19 tw_2 (i := a1) (by omega) (by omega) (x := (w_4 + 1)) (trivial)
        refine wb ec9 ?_
        have e107 := (Zfr.gi fc9 t_a0 (by decide)).trans e42
        have e108 := (Zfr.gi fc9 t_a0 (by decide)).trans e43
        have e109 := (Zfr.gi fc9 t_a0 (by decide)).trans e44
        have e110 := (Zfr.gr fc9 t_a0 (by decide)).trans e45
        have e111 := (Zfr.ai fc9 tqw_1 (by decide)).trans e46
        have e112 := (Zfr.gr fc9 t_a0 (by decide)).trans e47
        have e113 := (Zfr.gr fc9 t_a0 (by decide)).trans e48
        have e114 := (Zfr.gr fc9 t_a0 (by decide)).trans e49
        have e115 := (Zfr.ai fc9 tks0 (by decide)).trans e50
        have e116 := (Zfr.ai fc9 tkl0 (by decide)).trans e51
        have e117 := (Zfr.ai fc9 tkw0 (by decide)).trans e52
        have e118 := (Zfr.gi fc9 t_a0 (by decide)).trans e53
        have e119 := (Zfr.gr fc9 t_a0 (by decide)).trans e54
        have e120 := (Zfr.gr fc9 t_a0 (by decide)).trans e55
        have e121 := (Zfr.ai fc9 tw_3 (by decide)).trans e57
        have e122 := (Zfr.gi fc9 t_a0 (by decide)).trans h0ZSkq19
        have e123 := (Zfr.gi fc9 t_a0 (by decide)).trans h1ZSkq19
        have k124 := GtP_fr k58 fc9 t_a0 Wq19 (by decide)
        have sc126 := Sc_fr fc9 t_a0 (by decide) (by decide) (by decide)
        have k125 := WyN_fr k59 fc9 t_a0 Wq19 (by decide) sc126
        have k127 := TbI_fr k61 fc9 t_a0 Wq19 (by decide) sc126
        have k128 := TbC_fr k62 fc9 t_a0 Wq19 (by decide) sc126
        have k129 := TkN_fr k63 fc9 t_a0 Wq19 (by decide)
        have k130 := PB_w67 k64 Wq19 t_a0 fc9 e54 ec9 rfl
        have k131 := TpK_w67 k65 Wq19 t_a0 fc9 e54 ec9 rfl
        have F132 := Zfr.tr F66 fc9 (by decide)
        refine wb e119 ?_
        refine wb e119 ?_
        refine wb gc9 ?_
        refine wi (fun hq133 => ?_) (fun hq133 => ?_)
        · have := li_1
          have := i_add (a := w_4) (b := 1) (by omega) (by omega)
          have hq133 := i_le hq133
          exfalso
          omega
        · have := li_1
          have := i_add (a := w_4) (b := 1) (by omega) (by omega)
          have hq133 := i_nle hq133
          unfold f_Mo_joined_69
          obtain ⟨c16, ec16, Wc16, fc16, gc16⟩ := pa_115 Wc9 tw_2 (i := a1) (by omega) (by omega) (x := 2) (trivial)
          refine wb ec16 ?_
          have e134 := (Zfr.gi fc16 t_a0 (by decide)).trans e107
          have e135 := (Zfr.gi fc16 t_a0 (by decide)).trans e108
          have e136 := (Zfr.gi fc16 t_a0 (by decide)).trans e109
          have e137 := (Zfr.gr fc16 t_a0 (by decide)).trans e110
          have e138 := (Zfr.ai fc16 tqw_1 (by decide)).trans e111
          have e139 := (Zfr.gr fc16 t_a0 (by decide)).trans e112
          have e140 := (Zfr.gr fc16 t_a0 (by decide)).trans e113
          have e141 := (Zfr.gr fc16 t_a0 (by decide)).trans e114
          have e142 := (Zfr.ai fc16 tks0 (by decide)).trans e115
          have e143 := (Zfr.ai fc16 tkl0 (by decide)).trans e116
          have e144 := (Zfr.ai fc16 tkw0 (by decide)).trans e117
          have e145 := (Zfr.gi fc16 t_a0 (by decide)).trans e118
          have e146 := (Zfr.gr fc16 t_a0 (by decide)).trans e119
          have e147 := (Zfr.gr fc16 t_a0 (by decide)).trans e120
          have e148 := (Zfr.ai fc16 tw_3 (by decide)).trans e121
          have e149 := (Zfr.gi fc16 t_a0 (by decide)).trans e122
          have e150 := (Zfr.gi fc16 t_a0 (by decide)).trans e123
          have k151 := GtP_fr k124 fc16 t_a0 Wc9 (by decide)
          have sc153 := Sc_fr fc16 t_a0 (by decide) (by decide) (by decide)
          have k152 := WyN_fr k125 fc16 t_a0 Wc9 (by decide) sc153
          have k154 := TbI_fr k127 fc16 t_a0 Wc9 (by decide) sc153
          have k155 := TbC_fr k128 fc16 t_a0 Wc9 (by decide) sc153
          have k156 := TkN_fr k129 fc16 t_a0 Wc9 (by decide)
          have k157 := PB_w67 k130 Wc9 t_a0 fc16 e119 ec16 rfl
          have k158 := TpK_w67 k131 Wc9 t_a0 fc16 e119 ec16 rfl
          have F159 := Zfr.tr F132 fc16 (by decide)
          obtain ⟨w18, ew18⟩ := go_64 Wc16 t_a0
          refine wb ew18 ?_
          obtain ⟨q17, eq17, Wq17, fq17, po0q17⟩ := p_Mo_frame hn Wc16 (a1 := a2) t_a0 (by omega) (by omega) e136
          refine wb eq17 ?_
          have e161 := (Zfr.gi fq17 t_a0 (by decide)).trans e134
          have e162 := (Zfr.gi fq17 t_a0 (by decide)).trans e135
          have e163 := (Zfr.gr fq17 t_a0 (by decide)).trans e137
          have e164 := (Zfr.gr fq17 t_a0 (by decide)).trans e139
          have e165 := (Zfr.gr fq17 t_a0 (by decide)).trans e140
          have e166 := (Zfr.gr fq17 t_a0 (by decide)).trans e141
          have e167 := (Zfr.ai fq17 tks0 (by decide)).trans e142
          have e168 := (Zfr.ai fq17 tkl0 (by decide)).trans e143
          have e169 := (Zfr.ai fq17 tkw0 (by decide)).trans e144
          have e170 := (Zfr.gi fq17 t_a0 (by decide)).trans e145
          have e171 := (Zfr.gr fq17 t_a0 (by decide)).trans e146
          have e172 := (Zfr.gr fq17 t_a0 (by decide)).trans e147
          have e173 := (Zfr.gi fq17 t_a0 (by decide)).trans e149
          have e174 := (Zfr.gi fq17 t_a0 (by decide)).trans e150
          have k175 := GtP_fr k151 fq17 t_a0 Wc16 (by decide)
          have sc177 := Sc_fr fq17 t_a0 (by decide) (by decide) (by decide)
          have k176 := WyN_fr k152 fq17 t_a0 Wc16 (by decide) sc177
          have k178 := TbI_fr k154 fq17 t_a0 Wc16 (by decide) sc177
          have k179 := TbC_fr k155 fq17 t_a0 Wc16 (by decide) sc177
          have k180 := TkN_fr k156 fq17 t_a0 Wc16 (by decide)
          have k181 := PI_push k157 k158 (psJ (by omega) (by omega) (by omega) (by omega) (by omega)) (by omega) (by omega) (fun y_ => okt (by omega)) e149 e150 (by omega) fq17 t_a0 Wc16 po0q17 e136 (by omega)
          have F183 := Zfr.tr F159 fq17 (by decide)
          unfold f_Mo_joined_88
          exact ⟨_, rfl, Wq17, F183, ⟨bf2q19, bt2q19, dv, bks0, bkl0, bkw0, bna0, blb0, bnw0, bvn0, e161, e173, e174, e162, e164, e165, e166, e167, e168, e169, e170, tks0, tkl0, tkw0, by (try dsimp only); omega, by (try dsimp only); omega, by (try dsimp only); omega, by (try dsimp only); omega, by (try dsimp only); omega, by (try dsimp only); omega, by (try dsimp only); omega, by (try dsimp only); omega, by (try dsimp only); omega, by (try dsimp only); omega, by (try dsimp only); omega, by (try dsimp only); omega, by (try dsimp only); omega, by (try dsimp only); omega, by (try dsimp only); omega, by (try dsimp only); omega, by (try dsimp only); omega, by (try dsimp only); omega, by (try dsimp only); omega, by (try dsimp only); omega, k175, k176, k178, k179, k180⟩, k181⟩
  · have := li_2
    have hq6 := i_ne hq6
    unfold f_Mo_joined_17
    refine wb ew_2 ?_
    refine wb ew_4 ?_
    refine wi (fun hq195 => ?_) (fun hq195 => ?_)
    · have := li_0
      have hq195 := i_eq hq195
      unfold f_Mo_joined_34
      refine wb ew_2 ?_
      refine wb ew_4 ?_
      obtain ⟨c9, ec9, Wc9, fc9, gc9⟩ := pa_115 W tw_2 (i := a1) (by omega) (by omega) (x := (w_4 + 1)) (trivial)
      refine wb ec9 ?_
      have e196 := (Zfr.gi fc9 t_a0 (by decide)).trans h0ZV0
      have e197 := (Zfr.gi fc9 t_a0 (by decide)).trans h1ZV0
      have e198 := (Zfr.gi fc9 t_a0 (by decide)).trans h2ZV0
      have e199 := (Zfr.gi fc9 t_a0 (by decide)).trans h3ZV0
      have e200 := (Zfr.gi fc9 t_a0 (by decide)).trans eh_fr
      have e201 := (Zfr.gr fc9 t_a0 (by decide)).trans eh_ksr
      have e202 := (Zfr.ai fc9 tqw_1 (by decide)).trans eh_sv
      have e203 := (Zfr.gr fc9 t_a0 (by decide)).trans h4ZV0
      have e204 := (Zfr.gr fc9 t_a0 (by decide)).trans h5ZV0
      have e205 := (Zfr.gr fc9 t_a0 (by decide)).trans h6ZV0
      have e206 := (Zfr.ai fc9 tks0 (by decide)).trans h7ZV0
      have e207 := (Zfr.ai fc9 tkl0 (by decide)).trans h8ZV0
      have e208 := (Zfr.ai fc9 tkw0 (by decide)).trans h9ZV0
      have e209 := (Zfr.gi fc9 t_a0 (by decide)).trans h10ZV0
      have e210 := (Zfr.gr fc9 t_a0 (by decide)).trans ew_2
      have e211 := (Zfr.gr fc9 t_a0 (by decide)).trans ew_3
      have e212 := (Zfr.ai fc9 tw_3 (by decide)).trans ew_5
      have k213 := GtP_fr k0ZV0 fc9 t_a0 W (by decide)
      have sc215 := Sc_fr fc9 t_a0 (by decide) (by decide) (by decide)
      have k214 := WyN_fr k1ZV0 fc9 t_a0 W (by decide) sc215
      have k216 := TbI_fr k2ZV0 fc9 t_a0 W (by decide) sc215
      have k217 := TbC_fr k3ZV0 fc9 t_a0 W (by decide) sc215
      have k218 := TkN_fr k4ZV0 fc9 t_a0 W (by decide)
      have k219 := PB_w67 pbh W t_a0 fc9 ew_2 ec9 rfl
      have k220 := TpK_w67 tph W t_a0 fc9 ew_2 ec9 rfl
      have F221 := Zfr.tr F0 fc9 (by decide)
      refine wb e210 ?_
      refine wb e210 ?_
      refine wb gc9 ?_
      refine wi (fun hq222 => ?_) (fun hq222 => ?_)
      · have := li_1
        have := i_add (a := w_4) (b := 1) (by omega) (by omega)
        have hq222 := i_le hq222
        refine wb e210 ?_
        refine wb gc9 ?_
        unfold f_Mo_joined_69
        obtain ⟨c16, ec16, Wc16, fc16, gc16⟩ := pa_115 Wc9 tw_2 (i := a1) (by omega) (by omega) (x := (w_4 + 1)) (trivial)
        refine wb ec16 ?_
        have e223 := (Zfr.gi fc16 t_a0 (by decide)).trans e196
        have e224 := (Zfr.gi fc16 t_a0 (by decide)).trans e197
        have e225 := (Zfr.gi fc16 t_a0 (by decide)).trans e198
        have e226 := (Zfr.gi fc16 t_a0 (by decide)).trans e199
        have e227 := (Zfr.gi fc16 t_a0 (by decide)).trans e200
        have e228 := (Zfr.gr fc16 t_a0 (by decide)).trans e201
        have e229 := (Zfr.ai fc16 tqw_1 (by decide)).trans e202
        have e230 := (Zfr.gr fc16 t_a0 (by decide)).trans e203
        have e231 := (Zfr.gr fc16 t_a0 (by decide)).trans e204
        have e232 := (Zfr.gr fc16 t_a0 (by decide)).trans e205
        have e233 := (Zfr.ai fc16 tks0 (by decide)).trans e206
        have e234 := (Zfr.ai fc16 tkl0 (by decide)).trans e207
        have e235 := (Zfr.ai fc16 tkw0 (by decide)).trans e208
        have e236 := (Zfr.gi fc16 t_a0 (by decide)).trans e209
        have e237 := (Zfr.gr fc16 t_a0 (by decide)).trans e210
        have e238 := (Zfr.gr fc16 t_a0 (by decide)).trans e211
        have e239 := (Zfr.ai fc16 tw_3 (by decide)).trans e212
        have k240 := GtP_fr k213 fc16 t_a0 Wc9 (by decide)
        have sc242 := Sc_fr fc16 t_a0 (by decide) (by decide) (by decide)
        have k241 := WyN_fr k214 fc16 t_a0 Wc9 (by decide) sc242
        have k243 := TbI_fr k216 fc16 t_a0 Wc9 (by decide) sc242
        have k244 := TbC_fr k217 fc16 t_a0 Wc9 (by decide) sc242
        have k245 := TkN_fr k218 fc16 t_a0 Wc9 (by decide)
        have k246 := PB_w67 k219 Wc9 t_a0 fc16 e210 ec16 rfl
        have k247 := TpK_w67 k220 Wc9 t_a0 fc16 e210 ec16 rfl
        have F248 := Zfr.tr F221 fc16 (by decide)
        obtain ⟨w18, ew18⟩ := go_64 Wc16 t_a0
        refine wb ew18 ?_
        obtain ⟨q17, eq17, Wq17, fq17, po0q17⟩ := p_Mo_frame hn Wc16 (a1 := a2) t_a0 (by omega) (by omega) e227
        refine wb eq17 ?_
        have e250 := (Zfr.gi fq17 t_a0 (by decide)).trans e223
        have e251 := (Zfr.gi fq17 t_a0 (by decide)).trans e224
        have e252 := (Zfr.gi fq17 t_a0 (by decide)).trans e225
        have e253 := (Zfr.gi fq17 t_a0 (by decide)).trans e226
        have e254 := (Zfr.gr fq17 t_a0 (by decide)).trans e228
        have e255 := (Zfr.gr fq17 t_a0 (by decide)).trans e230
        have e256 := (Zfr.gr fq17 t_a0 (by decide)).trans e231
        have e257 := (Zfr.gr fq17 t_a0 (by decide)).trans e232
        have e258 := (Zfr.ai fq17 tks0 (by decide)).trans e233
        have e259 := (Zfr.ai fq17 tkl0 (by decide)).trans e234
        have e260 := (Zfr.ai fq17 tkw0 (by decide)).trans e235
        have e261 := (Zfr.gi fq17 t_a0 (by decide)).trans e236
        have e262 := (Zfr.gr fq17 t_a0 (by decide)).trans e237
        have e263 := (Zfr.gr fq17 t_a0 (by decide)).trans e238
        have k264 := GtP_fr k240 fq17 t_a0 Wc16 (by decide)
        have sc266 := Sc_fr fq17 t_a0 (by decide) (by decide) (by decide)
        have k265 := WyN_fr k241 fq17 t_a0 Wc16 (by decide) sc266
        have k267 := TbI_fr k243 fq17 t_a0 Wc16 (by decide) sc266
        have k268 := TbC_fr k244 fq17 t_a0 Wc16 (by decide) sc266
        have k269 := TkN_fr k245 fq17 t_a0 Wc16 (by decide)
        have k270 := PI_push k246 k247 (psJ (by omega) (by omega) (by omega) (by omega) (by omega)) (by omega) (by omega) (fun y_ => okt (by omega)) e224 e225 (by omega) fq17 t_a0 Wc16 po0q17 e227 (by omega)
        have F272 := Zfr.tr F248 fq17 (by decide)
        unfold f_Mo_joined_88
        exact ⟨_, rfl, Wq17, F272, ⟨fv, tv, dv, bks0, bkl0, bkw0, bna0, blb0, bnw0, bvn0, e250, e251, e252, e253, e255, e256, e257, e258, e259, e260, e261, tks0, tkl0, tkw0, by (try dsimp only); omega, by (try dsimp only); omega, by (try dsimp only); omega, by (try dsimp only); omega, by (try dsimp only); omega, by (try dsimp only); omega, by (try dsimp only); omega, by (try dsimp only); omega, by (try dsimp only); omega, by (try dsimp only); omega, by (try dsimp only); omega, by (try dsimp only); omega, by (try dsimp only); omega, by (try dsimp only); omega, by (try dsimp only); omega, by (try dsimp only); omega, by (try dsimp only); omega, by (try dsimp only); omega, by (try dsimp only); omega, by (try dsimp only); omega, k264, k265, k267, k268, k269⟩, k270⟩
      · have := li_1
        have := i_add (a := w_4) (b := 1) (by omega) (by omega)
        have hq222 := i_nle hq222
        exfalso
        omega
    · have := li_0
      have hq195 := i_ne hq195
      obtain ⟨w20, ew20⟩ := go_64 W t_a0
      refine wb ew20 ?_
      obtain ⟨q19, eq19, Wq19, fq19, pl0q19, pu0q19, pbZSkq19⟩ := p_Mo_takes hn W (a1 := a3) t_a0 (by omega) (by omega) (by omega) (by omega) h1ZV0 h2ZV0
      refine wb eq19 ?_
      have e286 := (Zfr.gi fq19 t_a0 (by decide)).trans h0ZV0
      have e287 := (Zfr.gi fq19 t_a0 (by decide)).trans h3ZV0
      have e288 := (Zfr.gi fq19 t_a0 (by decide)).trans eh_fr
      have e289 := (Zfr.gr fq19 t_a0 (by decide)).trans eh_ksr
      have e290 := (Zfr.ai fq19 tqw_1 (by decide)).trans eh_sv
      have e291 := (Zfr.gr fq19 t_a0 (by decide)).trans h4ZV0
      have e292 := (Zfr.gr fq19 t_a0 (by decide)).trans h5ZV0
      have e293 := (Zfr.gr fq19 t_a0 (by decide)).trans h6ZV0
      have e294 := (Zfr.ai fq19 tks0 (by decide)).trans h7ZV0
      have e295 := (Zfr.ai fq19 tkl0 (by decide)).trans h8ZV0
      have e296 := (Zfr.ai fq19 tkw0 (by decide)).trans h9ZV0
      have e297 := (Zfr.gi fq19 t_a0 (by decide)).trans h10ZV0
      have e298 := (Zfr.gr fq19 t_a0 (by decide)).trans ew_2
      have e299 := (Zfr.gr fq19 t_a0 (by decide)).trans ew_3
      have e300 := (Zfr.ai fq19 tw_2 (by decide)).trans ew_4
      have e301 := (Zfr.ai fq19 tw_3 (by decide)).trans ew_5
      have k302 := GtP_fr k0ZV0 fq19 t_a0 W (by decide)
      have sc304 : Sc c q19.2 a0 (q19.1.toInt) (0) := by
        obtain ⟨yf2, yt2, z0y, z1y, x0y, x1y, x2y, x3y, x4y, x5y, x6y⟩ := pbZSkq19
        exact Sc_mk h1ZV0 z0y h2ZV0 z1y h3ZV0 ((Zfr.gi (ci := 12) fq19 t_a0 (by decide)).trans h3ZV0) (by omega)
      have k303 := WyN_fr k1ZV0 fq19 t_a0 W (by decide) sc304
      have k305 := TbI_fr k2ZV0 fq19 t_a0 W (by decide) sc304
      have k306 := TbC_fr k3ZV0 fq19 t_a0 W (by decide) sc304
      have k307 := TkN_fr k4ZV0 fq19 t_a0 W (by decide)
      have k308 := PB_sc pbh fq19 t_a0 W (by decide) sc304 (by omega)
      have k309 := TpK_fr tph fq19 t_a0 W (by decide)
      have F310 := Zfr.tr F0 fq19 (by decide)
      obtain ⟨bf2q19, bt2q19, h0ZSkq19, h1ZSkq19, r0ZSkq19, r1ZSkq19, r2ZSkq19, r3ZSkq19, r4ZSkq19, r5ZSkq19, r6ZSkq19⟩ := pbZSkq19
      refine wi (fun hq311 => ?_) (fun hq311 => ?_)
      · have hq311 := i_eq hq311
        refine wb e288 ?_
        have := li_1
        have := i_sub (a := fr) (b := 1) (by omega) (by omega)
        obtain ⟨c23, ec23, Wc23, fc23, gc23⟩ := pf_64_69 Wq19 t_a0 (x := (fr - 1)) (rgi (by omega) (by omega))
        refine wb ec23 ?_
        have e312 := (Zfr.gi fc23 t_a0 (by decide)).trans e286
        have e313 := (Zfr.gi fc23 t_a0 (by decide)).trans e287
        have e314 := (Zfr.gr fc23 t_a0 (by decide)).trans e289
        have e315 := (Zfr.ai fc23 tqw_1 (by decide)).trans e290
        have e316 := (Zfr.gr fc23 t_a0 (by decide)).trans e291
        have e317 := (Zfr.gr fc23 t_a0 (by decide)).trans e292
        have e318 := (Zfr.gr fc23 t_a0 (by decide)).trans e293
        have e319 := (Zfr.ai fc23 tks0 (by decide)).trans e294
        have e320 := (Zfr.ai fc23 tkl0 (by decide)).trans e295
        have e321 := (Zfr.ai fc23 tkw0 (by decide)).trans e296
        have e322 := (Zfr.gi fc23 t_a0 (by decide)).trans e297
        have e323 := (Zfr.gr fc23 t_a0 (by decide)).trans e298
        have e324 := (Zfr.gr fc23 t_a0 (by decide)).trans e299
        have e325 := (Zfr.ai fc23 tw_2 (by decide)).trans e300
        have e326 := (Zfr.ai fc23 tw_3 (by decide)).trans e301
        have e327 := (Zfr.gi fc23 t_a0 (by decide)).trans h0ZSkq19
        have e328 := (Zfr.gi fc23 t_a0 (by decide)).trans h1ZSkq19
        have k329 := GtP_fr k302 fc23 t_a0 Wq19 (by decide)
        have sc331 := Sc_fr fc23 t_a0 (by decide) (by decide) (by decide)
        have k330 := WyN_fr k303 fc23 t_a0 Wq19 (by decide) sc331
        have k332 := TbI_fr k305 fc23 t_a0 Wq19 (by decide) sc331
        have k333 := TbC_fr k306 fc23 t_a0 Wq19 (by decide) sc331
        have k334 := TkN_fr k307 fc23 t_a0 Wq19 (by decide)
        have k335 := PB_s0 k308 fc23 t_a0 Wq19 (by decide) sc331
        have k336 := TpK_fr k309 fc23 t_a0 Wq19 (by decide)
        have F337 := Zfr.tr F310 fc23 (by decide)
        unfold f_Mo_joined_88
        exact ⟨_, rfl, Wc23, F337, ⟨bf2q19, bt2q19, dv, bks0, bkl0, bkw0, bna0, blb0, bnw0, bvn0, e312, e327, e328, e313, e316, e317, e318, e319, e320, e321, e322, tks0, tkl0, tkw0, by (try dsimp only); omega, by (try dsimp only); omega, by (try dsimp only); omega, by (try dsimp only); omega, by (try dsimp only); omega, by (try dsimp only); omega, by (try dsimp only); omega, by (try dsimp only); omega, by (try dsimp only); omega, by (try dsimp only); omega, by (try dsimp only); omega, by (try dsimp only); omega, by (try dsimp only); omega, by (try dsimp only); omega, by (try dsimp only); omega, by (try dsimp only); omega, by (try dsimp only); omega, by (try dsimp only); omega, by (try dsimp only); omega, by (try dsimp only); omega, k329, k330, k332, k333, k334⟩, PI_pop k335 (by omega) (by omega) (by omega) (by omega) gc23 (by omega) (by omega)⟩
      · have hq311 := i_ne hq311
        unfold f_Mo_joined_34
        refine wb e298 ?_
        refine wb e300 ?_
        obtain ⟨c9, ec9, Wc9, fc9, gc9⟩ := pa_115 Wq19 tw_2 (i := a1) (by omega) (by omega) (x := (w_4 + 1)) (trivial)
        refine wb ec9 ?_
        have e351 := (Zfr.gi fc9 t_a0 (by decide)).trans e286
        have e352 := (Zfr.gi fc9 t_a0 (by decide)).trans e287
        have e353 := (Zfr.gi fc9 t_a0 (by decide)).trans e288
        have e354 := (Zfr.gr fc9 t_a0 (by decide)).trans e289
        have e355 := (Zfr.ai fc9 tqw_1 (by decide)).trans e290
        have e356 := (Zfr.gr fc9 t_a0 (by decide)).trans e291
        have e357 := (Zfr.gr fc9 t_a0 (by decide)).trans e292
        have e358 := (Zfr.gr fc9 t_a0 (by decide)).trans e293
        have e359 := (Zfr.ai fc9 tks0 (by decide)).trans e294
        have e360 := (Zfr.ai fc9 tkl0 (by decide)).trans e295
        have e361 := (Zfr.ai fc9 tkw0 (by decide)).trans e296
        have e362 := (Zfr.gi fc9 t_a0 (by decide)).trans e297
        have e363 := (Zfr.gr fc9 t_a0 (by decide)).trans e298
        have e364 := (Zfr.gr fc9 t_a0 (by decide)).trans e299
        have e365 := (Zfr.ai fc9 tw_3 (by decide)).trans e301
        have e366 := (Zfr.gi fc9 t_a0 (by decide)).trans h0ZSkq19
        have e367 := (Zfr.gi fc9 t_a0 (by decide)).trans h1ZSkq19
        have k368 := GtP_fr k302 fc9 t_a0 Wq19 (by decide)
        have sc370 := Sc_fr fc9 t_a0 (by decide) (by decide) (by decide)
        have k369 := WyN_fr k303 fc9 t_a0 Wq19 (by decide) sc370
        have k371 := TbI_fr k305 fc9 t_a0 Wq19 (by decide) sc370
        have k372 := TbC_fr k306 fc9 t_a0 Wq19 (by decide) sc370
        have k373 := TkN_fr k307 fc9 t_a0 Wq19 (by decide)
        have k374 := PB_w67 k308 Wq19 t_a0 fc9 e298 ec9 rfl
        have k375 := TpK_w67 k309 Wq19 t_a0 fc9 e298 ec9 rfl
        have F376 := Zfr.tr F310 fc9 (by decide)
        refine wb e363 ?_
        refine wb e363 ?_
        refine wb gc9 ?_
        refine wi (fun hq377 => ?_) (fun hq377 => ?_)
        · have := li_1
          have := i_add (a := w_4) (b := 1) (by omega) (by omega)
          have hq377 := i_le hq377
          refine wb e363 ?_
          refine wb gc9 ?_
          unfold f_Mo_joined_69
          obtain ⟨c16, ec16, Wc16, fc16, gc16⟩ := pa_115 Wc9 tw_2 (i := a1) (by omega) (by omega) (x := (w_4 + 1)) (trivial)
          refine wb ec16 ?_
          have e378 := (Zfr.gi fc16 t_a0 (by decide)).trans e351
          have e379 := (Zfr.gi fc16 t_a0 (by decide)).trans e352
          have e380 := (Zfr.gi fc16 t_a0 (by decide)).trans e353
          have e381 := (Zfr.gr fc16 t_a0 (by decide)).trans e354
          have e382 := (Zfr.ai fc16 tqw_1 (by decide)).trans e355
          have e383 := (Zfr.gr fc16 t_a0 (by decide)).trans e356
          have e384 := (Zfr.gr fc16 t_a0 (by decide)).trans e357
          have e385 := (Zfr.gr fc16 t_a0 (by decide)).trans e358
          have e386 := (Zfr.ai fc16 tks0 (by decide)).trans e359
          have e387 := (Zfr.ai fc16 tkl0 (by decide)).trans e360
          have e388 := (Zfr.ai fc16 tkw0 (by decide)).trans e361
          have e389 := (Zfr.gi fc16 t_a0 (by decide)).trans e362
          have e390 := (Zfr.gr fc16 t_a0 (by decide)).trans e363
          have e391 := (Zfr.gr fc16 t_a0 (by decide)).trans e364
          have e392 := (Zfr.ai fc16 tw_3 (by decide)).trans e365
          have e393 := (Zfr.gi fc16 t_a0 (by decide)).trans e366
          have e394 := (Zfr.gi fc16 t_a0 (by decide)).trans e367
          have k395 := GtP_fr k368 fc16 t_a0 Wc9 (by decide)
          have sc397 := Sc_fr fc16 t_a0 (by decide) (by decide) (by decide)
          have k396 := WyN_fr k369 fc16 t_a0 Wc9 (by decide) sc397
          have k398 := TbI_fr k371 fc16 t_a0 Wc9 (by decide) sc397
          have k399 := TbC_fr k372 fc16 t_a0 Wc9 (by decide) sc397
          have k400 := TkN_fr k373 fc16 t_a0 Wc9 (by decide)
          have k401 := PB_w67 k374 Wc9 t_a0 fc16 e363 ec16 rfl
          have k402 := TpK_w67 k375 Wc9 t_a0 fc16 e363 ec16 rfl
          have F403 := Zfr.tr F376 fc16 (by decide)
          obtain ⟨w18, ew18⟩ := go_64 Wc16 t_a0
          refine wb ew18 ?_
          obtain ⟨q17, eq17, Wq17, fq17, po0q17⟩ := p_Mo_frame hn Wc16 (a1 := a2) t_a0 (by omega) (by omega) e380
          refine wb eq17 ?_
          have e405 := (Zfr.gi fq17 t_a0 (by decide)).trans e378
          have e406 := (Zfr.gi fq17 t_a0 (by decide)).trans e379
          have e407 := (Zfr.gr fq17 t_a0 (by decide)).trans e381
          have e408 := (Zfr.gr fq17 t_a0 (by decide)).trans e383
          have e409 := (Zfr.gr fq17 t_a0 (by decide)).trans e384
          have e410 := (Zfr.gr fq17 t_a0 (by decide)).trans e385
          have e411 := (Zfr.ai fq17 tks0 (by decide)).trans e386
          have e412 := (Zfr.ai fq17 tkl0 (by decide)).trans e387
          have e413 := (Zfr.ai fq17 tkw0 (by decide)).trans e388
          have e414 := (Zfr.gi fq17 t_a0 (by decide)).trans e389
          have e415 := (Zfr.gr fq17 t_a0 (by decide)).trans e390
          have e416 := (Zfr.gr fq17 t_a0 (by decide)).trans e391
          have e417 := (Zfr.gi fq17 t_a0 (by decide)).trans e393
          have e418 := (Zfr.gi fq17 t_a0 (by decide)).trans e394
          have k419 := GtP_fr k395 fq17 t_a0 Wc16 (by decide)
          have sc421 := Sc_fr fq17 t_a0 (by decide) (by decide) (by decide)
          have k420 := WyN_fr k396 fq17 t_a0 Wc16 (by decide) sc421
          have k422 := TbI_fr k398 fq17 t_a0 Wc16 (by decide) sc421
          have k423 := TbC_fr k399 fq17 t_a0 Wc16 (by decide) sc421
          have k424 := TkN_fr k400 fq17 t_a0 Wc16 (by decide)
          have k425 := PI_push k401 k402 (psJ (by omega) (by omega) (by omega) (by omega) (by omega)) (by omega) (by omega) (fun y_ => okt (by omega)) e393 e394 (by omega) fq17 t_a0 Wc16 po0q17 e380 (by omega)
          have F427 := Zfr.tr F403 fq17 (by decide)
          unfold f_Mo_joined_88
          exact ⟨_, rfl, Wq17, F427, ⟨bf2q19, bt2q19, dv, bks0, bkl0, bkw0, bna0, blb0, bnw0, bvn0, e405, e417, e418, e406, e408, e409, e410, e411, e412, e413, e414, tks0, tkl0, tkw0, by (try dsimp only); omega, by (try dsimp only); omega, by (try dsimp only); omega, by (try dsimp only); omega, by (try dsimp only); omega, by (try dsimp only); omega, by (try dsimp only); omega, by (try dsimp only); omega, by (try dsimp only); omega, by (try dsimp only); omega, by (try dsimp only); omega, by (try dsimp only); omega, by (try dsimp only); omega, by (try dsimp only); omega, by (try dsimp only); omega, by (try dsimp only); omega, by (try dsimp only); omega, by (try dsimp only); omega, by (try dsimp only); omega, by (try dsimp only); omega, k419, k420, k422, k423, k424⟩, k425⟩
        · have := li_1
          have := i_add (a := w_4) (b := 1) (by omega) (by omega)
          have hq377 := i_nle hq377
          exfalso
          omega

abbrev M_Mo_reckoned : List (Nat × Nat) := [(64, 18), (64, 19), (64, 20), (64, 52), (64, 69), (103, 0), (104, 0), (114, 0), (115, 0), (116, 0)]
set_option maxRecDepth 100000 in
set_option maxHeartbeats 4000000 in
theorem p_Mo_reckoned {nf : Nat} (hn : 8589934592 ≤ nf) {G : List Nat} {c : Zc} (W : Zwt zty G c) {a0 : Nat} {a1 : Int32} {ni : Int32} {bc : Int32} {s0 : Nat} {μ : Int} {pv : Int32} {fv : Int32} {tv : Int32} {dv : Int32} {fr : Int32} {ksr : Nat} {sv : Int32} (t_a0 : G[a0]? = some 64) (pl_pv : 0 ≤ pv.toInt) (pu_pv : pv.toInt ≤ 8) (pl_fv : 0 ≤ fv.toInt) (pu_fv : fv.toInt ≤ 0) (pl_tv : 0 ≤ tv.toInt) (pu_tv : tv.toInt ≤ 200) (pl_dv : 0 ≤ dv.toInt) (pu_dv : dv.toInt ≤ 11) (pl_fr : 1 ≤ fr.toInt) (pu_fr : fr.toInt ≤ 1000) (pl_a1 : 0 ≤ a1.toInt) (pu_a1 : a1.toInt ≤ 999) (pl_sv : 3 ≤ sv.toInt) (pu_sv : sv.toInt ≤ 4) (eh_pv : zgi c a0 12 25 = some pv) (eh_fv : zgi c a0 12 19 = some fv) (eh_tv : zgi c a0 12 18 = some tv) (eh_dv : zgi c a0 12 53 = some dv) (eh_fr : zgi c a0 12 69 = some fr) (eh_ksr : zgr c a0 12 66 = some ksr) (eh_sv : zai c ksr 0 a1 = some sv) (pp_7 : a1.toInt = fr.toInt - 1) (hb_ZV : ZV G c a0 pv fv tv dv ni bc) (hb_Zpi : Zpi G c a0 s0 μ) : ∃ q, f_Mo_reckoned nf a0 a1 c = some q ∧ Zwt zty G q ∧ Zfr G M_Mo_reckoned c q ∧ ZVp G q a0 pv fv tv dv ni bc ∧ Zpi G q a0 s0 (μ - 1) := by
  have F0 : Zfr G M_Mo_reckoned c c := Zfr.rf
  unfold f_Mo_reckoned
  obtain ⟨xq, xe, tqw_1⟩ := gf_64_66 W t_a0
  rw [eh_ksr] at xe; cases xe
  obtain ⟨bks0, bkl0, bkw0, bna0, blb0, bnw0, bvn0, h0ZV0, h1ZV0, h2ZV0, h3ZV0, h4ZV0, h5ZV0, h6ZV0, h7ZV0, h8ZV0, h9ZV0, h10ZV0, tks0, tkl0, tkw0, r0ZV0, r1ZV0, r2ZV0, r3ZV0, r4ZV0, r5ZV0, r6ZV0, r7ZV0, r8ZV0, r9ZV0, r10ZV0, r11ZV0, r12ZV0, r13ZV0, r14ZV0, r15ZV0, r16ZV0, r17ZV0, k0ZV0, k1ZV0, k2ZV0, k3ZV0, k4ZV0⟩ := hb_ZV
  have k0Zpi0 := hb_Zpi
  obtain ⟨w_2, ew_2, tw_2⟩ := gf_64_67 W t_a0
  obtain ⟨w_3, ew_3, tw_3⟩ := gf_64_68 W t_a0
  obtain ⟨w_4, ew_4, _⟩ := ga_115 W tw_2 (i := a1) (by omega) (by omega)
  obtain ⟨w_5, ew_5, _⟩ := ga_116 W tw_3 (i := a1) (by omega) (by omega)
  obtain ⟨okh, pbh, tph⟩ := PI_open k0Zpi0 eh_fv (by omega) eh_fr (by omega) (by omega) eh_ksr eh_sv ew_2 ew_4 ew_3 ew_5
  have tvv := vfi_e eh_tv
  have okn := okh.1
  have okm := okh.2.1
  have okt := okh.2.2
  clear okh
  have wu := w_J (s := sv) (f := w_4) (by omega) (by omega) (by omega)
  have := PB_dp pbh eh_fv eh_dv
  refine wb eh_ksr ?_
  refine wb eh_sv ?_
  refine wi (fun hq6 => ?_) (fun hq6 => ?_)
  · have := li_3
    have hq6 := i_eq hq6
    unfold f_Mo_reckoned_15
    refine wb ew_2 ?_
    refine wb ew_4 ?_
    refine wi (fun hq7 => ?_) (fun hq7 => ?_)
    · have := li_0
      have hq7 := i_eq hq7
      refine wb ew_2 ?_
      obtain ⟨c33, ec33, Wc33, fc33, gc33⟩ := pa_115 W tw_2 (i := a1) (by omega) (by omega) (x := 1) (trivial)
      refine wb ec33 ?_
      have e8 := (Zfr.gi fc33 t_a0 (by decide)).trans h0ZV0
      have e9 := (Zfr.gi fc33 t_a0 (by decide)).trans h1ZV0
      have e10 := (Zfr.gi fc33 t_a0 (by decide)).trans h2ZV0
      have e11 := (Zfr.gi fc33 t_a0 (by decide)).trans h3ZV0
      have e12 := (Zfr.gi fc33 t_a0 (by decide)).trans eh_fr
      have e13 := (Zfr.gr fc33 t_a0 (by decide)).trans eh_ksr
      have e14 := (Zfr.ai fc33 tqw_1 (by decide)).trans eh_sv
      have e15 := (Zfr.gr fc33 t_a0 (by decide)).trans h4ZV0
      have e16 := (Zfr.gr fc33 t_a0 (by decide)).trans h5ZV0
      have e17 := (Zfr.gr fc33 t_a0 (by decide)).trans h6ZV0
      have e18 := (Zfr.ai fc33 tks0 (by decide)).trans h7ZV0
      have e19 := (Zfr.ai fc33 tkl0 (by decide)).trans h8ZV0
      have e20 := (Zfr.ai fc33 tkw0 (by decide)).trans h9ZV0
      have e21 := (Zfr.gi fc33 t_a0 (by decide)).trans h10ZV0
      have e22 := (Zfr.gr fc33 t_a0 (by decide)).trans ew_2
      have e23 := (Zfr.gr fc33 t_a0 (by decide)).trans ew_3
      have e24 := (Zfr.ai fc33 tw_3 (by decide)).trans ew_5
      have k25 := GtP_fr k0ZV0 fc33 t_a0 W (by decide)
      have sc27 := Sc_fr fc33 t_a0 (by decide) (by decide) (by decide)
      have k26 := WyN_fr k1ZV0 fc33 t_a0 W (by decide) sc27
      have k28 := TbI_fr k2ZV0 fc33 t_a0 W (by decide) sc27
      have k29 := TbC_fr k3ZV0 fc33 t_a0 W (by decide) sc27
      have k30 := TkN_fr k4ZV0 fc33 t_a0 W (by decide)
      have k31 := PB_w67 pbh W t_a0 fc33 ew_2 ec33 rfl
      have k32 := TpK_w67 tph W t_a0 fc33 ew_2 ec33 rfl
      have F33 := Zfr.tr F0 fc33 (by decide)
      refine wi (fun hq34 => ?_) (fun hq34 => ?_)
      · have := li_1
        have hq34 := i_eq hq34
        unfold f_Mo_reckoned_42
        obtain ⟨w36, ew36⟩ := go_64 Wc33 t_a0
        refine wb ew36 ?_
        have := li_5
        obtain ⟨q35, eq35, Wq35, fq35, po0q35⟩ := p_Mo_frame hn Wc33 (a1 := 5) t_a0 (by omega) (by omega) e12
        refine wb eq35 ?_
        have e36 := (Zfr.gi fq35 t_a0 (by decide)).trans e8
        have e37 := (Zfr.gi fq35 t_a0 (by decide)).trans e9
        have e38 := (Zfr.gi fq35 t_a0 (by decide)).trans e10
        have e39 := (Zfr.gi fq35 t_a0 (by decide)).trans e11
        have e40 := (Zfr.gr fq35 t_a0 (by decide)).trans e13
        have e41 := (Zfr.gr fq35 t_a0 (by decide)).trans e15
        have e42 := (Zfr.gr fq35 t_a0 (by decide)).trans e16
        have e43 := (Zfr.gr fq35 t_a0 (by decide)).trans e17
        have e44 := (Zfr.ai fq35 tks0 (by decide)).trans e18
        have e45 := (Zfr.ai fq35 tkl0 (by decide)).trans e19
        have e46 := (Zfr.ai fq35 tkw0 (by decide)).trans e20
        have e47 := (Zfr.gi fq35 t_a0 (by decide)).trans e21
        have e48 := (Zfr.gr fq35 t_a0 (by decide)).trans e22
        have e49 := (Zfr.gr fq35 t_a0 (by decide)).trans e23
        have k50 := GtP_fr k25 fq35 t_a0 Wc33 (by decide)
        have sc52 := Sc_fr fq35 t_a0 (by decide) (by decide) (by decide)
        have k51 := WyN_fr k26 fq35 t_a0 Wc33 (by decide) sc52
        have k53 := TbI_fr k28 fq35 t_a0 Wc33 (by decide) sc52
        have k54 := TbC_fr k29 fq35 t_a0 Wc33 (by decide) sc52
        have k55 := TkN_fr k30 fq35 t_a0 Wc33 (by decide)
        have k56 := PI_push k31 k32 (psJ (by omega) (by omega) (by omega) (by omega) (by omega)) (by omega) (by omega) (fun y_ => okt (by omega)) e9 e10 (by omega) fq35 t_a0 Wc33 po0q35 e12 (by omega)
        have F58 := Zfr.tr F33 fq35 (by decide)
        exact ⟨_, rfl, Wq35, F58, ⟨fv, tv, dv, bks0, bkl0, bkw0, bna0, blb0, bnw0, bvn0, e36, e37, e38, e39, e41, e42, e43, e44, e45, e46, e47, tks0, tkl0, tkw0, by (try dsimp only); omega, by (try dsimp only); omega, by (try dsimp only); omega, by (try dsimp only); omega, by (try dsimp only); omega, by (try dsimp only); omega, by (try dsimp only); omega, by (try dsimp only); omega, by (try dsimp only); omega, by (try dsimp only); omega, by (try dsimp only); omega, by (try dsimp only); omega, by (try dsimp only); omega, by (try dsimp only); omega, by (try dsimp only); omega, by (try dsimp only); omega, by (try dsimp only); omega, by (try dsimp only); omega, by (try dsimp only); omega, by (try dsimp only); omega, k50, k51, k53, k54, k55⟩, k56⟩
      · have := li_1
        have hq34 := i_ne hq34
        unfold f_Mo_reckoned_42
        obtain ⟨w36, ew36⟩ := go_64 Wc33 t_a0
        refine wb ew36 ?_
        have := li_4
        obtain ⟨q35, eq35, Wq35, fq35, po0q35⟩ := p_Mo_frame hn Wc33 (a1 := 4) t_a0 (by omega) (by omega) e12
        refine wb eq35 ?_
        have e71 := (Zfr.gi fq35 t_a0 (by decide)).trans e8
        have e72 := (Zfr.gi fq35 t_a0 (by decide)).trans e9
        have e73 := (Zfr.gi fq35 t_a0 (by decide)).trans e10
        have e74 := (Zfr.gi fq35 t_a0 (by decide)).trans e11
        have e75 := (Zfr.gr fq35 t_a0 (by decide)).trans e13
        have e76 := (Zfr.gr fq35 t_a0 (by decide)).trans e15
        have e77 := (Zfr.gr fq35 t_a0 (by decide)).trans e16
        have e78 := (Zfr.gr fq35 t_a0 (by decide)).trans e17
        have e79 := (Zfr.ai fq35 tks0 (by decide)).trans e18
        have e80 := (Zfr.ai fq35 tkl0 (by decide)).trans e19
        have e81 := (Zfr.ai fq35 tkw0 (by decide)).trans e20
        have e82 := (Zfr.gi fq35 t_a0 (by decide)).trans e21
        have e83 := (Zfr.gr fq35 t_a0 (by decide)).trans e22
        have e84 := (Zfr.gr fq35 t_a0 (by decide)).trans e23
        have k85 := GtP_fr k25 fq35 t_a0 Wc33 (by decide)
        have sc87 := Sc_fr fq35 t_a0 (by decide) (by decide) (by decide)
        have k86 := WyN_fr k26 fq35 t_a0 Wc33 (by decide) sc87
        have k88 := TbI_fr k28 fq35 t_a0 Wc33 (by decide) sc87
        have k89 := TbC_fr k29 fq35 t_a0 Wc33 (by decide) sc87
        have k90 := TkN_fr k30 fq35 t_a0 Wc33 (by decide)
        have k91 := PI_push k31 k32 (psJ (by omega) (by omega) (by omega) (by omega) (by omega)) (by omega) (by omega) (fun y_ => okt (by omega)) e9 e10 (by omega) fq35 t_a0 Wc33 po0q35 e12 (by omega)
        have F93 := Zfr.tr F33 fq35 (by decide)
        exact ⟨_, rfl, Wq35, F93, ⟨fv, tv, dv, bks0, bkl0, bkw0, bna0, blb0, bnw0, bvn0, e71, e72, e73, e74, e76, e77, e78, e79, e80, e81, e82, tks0, tkl0, tkw0, by (try dsimp only); omega, by (try dsimp only); omega, by (try dsimp only); omega, by (try dsimp only); omega, by (try dsimp only); omega, by (try dsimp only); omega, by (try dsimp only); omega, by (try dsimp only); omega, by (try dsimp only); omega, by (try dsimp only); omega, by (try dsimp only); omega, by (try dsimp only); omega, by (try dsimp only); omega, by (try dsimp only); omega, by (try dsimp only); omega, by (try dsimp only); omega, by (try dsimp only); omega, by (try dsimp only); omega, by (try dsimp only); omega, by (try dsimp only); omega, k85, k86, k88, k89, k90⟩, k91⟩
    · have := li_0
      have hq7 := i_ne hq7
      refine wb ew_2 ?_
      refine wb ew_4 ?_
      refine wi (fun hq105 => ?_) (fun hq105 => ?_)
      · have := li_2
        have hq105 := i_eq hq105
        refine wb ew_3 ?_
        refine wb ew_5 ?_
        obtain ⟨w31, ew31⟩ := go_64 W t_a0
        refine wb ew31 ?_
        obtain ⟨w_107, ew_107, lw_107, uw_107⟩ := gf_64_52 W t_a0
        have := PB_nm pbh h1ZV0 ew_107 h2ZV0
        obtain ⟨q30, eq30, Wq30, fq30, po0q30⟩ := p_Mo_code hn W (a1 := w_5) (a2 := 0) t_a0 h1ZV0 ew_107 (by omega)
        refine wb eq30 ?_
        have e111 := (Zfr.gi fq30 t_a0 (by decide)).trans h0ZV0
        have e112 := (Zfr.gi fq30 t_a0 (by decide)).trans h1ZV0
        have e113 := (Zfr.gi fq30 t_a0 (by decide)).trans h2ZV0
        have e114 := (Zfr.gi fq30 t_a0 (by decide)).trans h3ZV0
        have e115 := (Zfr.gi fq30 t_a0 (by decide)).trans eh_fr
        have e116 := (Zfr.gr fq30 t_a0 (by decide)).trans eh_ksr
        have e117 := (Zfr.ai fq30 tqw_1 (by decide)).trans eh_sv
        have e118 := (Zfr.gr fq30 t_a0 (by decide)).trans h4ZV0
        have e119 := (Zfr.gr fq30 t_a0 (by decide)).trans h5ZV0
        have e120 := (Zfr.gr fq30 t_a0 (by decide)).trans h6ZV0
        have e121 := (Zfr.ai fq30 tks0 (by decide)).trans h7ZV0
        have e122 := (Zfr.ai fq30 tkl0 (by decide)).trans h8ZV0
        have e123 := (Zfr.ai fq30 tkw0 (by decide)).trans h9ZV0
        have e124 := (Zfr.gi fq30 t_a0 (by decide)).trans h10ZV0
        have e125 := (Zfr.gr fq30 t_a0 (by decide)).trans ew_2
        have e126 := (Zfr.gr fq30 t_a0 (by decide)).trans ew_3
        have e127 := (Zfr.ai fq30 tw_2 (by decide)).trans ew_4
        have e128 := (Zfr.ai fq30 tw_3 (by decide)).trans ew_5
        have k129 := GtP_cd k0ZV0 fq30 t_a0 W po0q30
        have sc131 := Sc_fr fq30 t_a0 (by decide) (by decide) (by decide)
        have k130 := WyN_fr k1ZV0 fq30 t_a0 W (by decide) sc131
        have k132 := TbI_cd k2ZV0 fq30 t_a0 W po0q30
        have k133 := TbC_cd k3ZV0 fq30 t_a0 W po0q30
        have k134 := TkN_fr k4ZV0 fq30 t_a0 W (by decide)
        have k135 := PB_two pbh fq30 t_a0 W po0q30 (okt (by omega)) (by omega)
        have k136 := TpK_fr tph fq30 t_a0 W (by decide)
        have F137 := Zfr.tr F0 fq30 (by decide)
        unfold f_Mo_reckoned_67
        obtain ⟨w11, ew11⟩ := go_64 Wq30 t_a0
        refine wb ew11 ?_
        obtain ⟨q10, eq10, Wq10, fq10, pbZScq10, pbZkdq10⟩ := p_Mo_kind hn Wq30  t_a0 (by omega) (by omega) (by omega) (by omega) e112 e113
        refine wb eq10 ?_
        have e140 := (Zfr.gi fq10 t_a0 (by decide)).trans e111
        have e141 := (Zfr.gi fq10 t_a0 (by decide)).trans e113
        have e142 := (Zfr.gi fq10 t_a0 (by decide)).trans e114
        have e143 := (Zfr.gi fq10 t_a0 (by decide)).trans e115
        have e144 := (Zfr.gr fq10 t_a0 (by decide)).trans e116
        have e145 := (Zfr.ai fq10 tqw_1 (by decide)).trans e117
        have e146 := (Zfr.gr fq10 t_a0 (by decide)).trans e118
        have e147 := (Zfr.gr fq10 t_a0 (by decide)).trans e119
        have e148 := (Zfr.gr fq10 t_a0 (by decide)).trans e120
        have e149 := (Zfr.ai fq10 tks0 (by decide)).trans e121
        have e150 := (Zfr.ai fq10 tkl0 (by decide)).trans e122
        have e151 := (Zfr.ai fq10 tkw0 (by decide)).trans e123
        have e152 := (Zfr.gi fq10 t_a0 (by decide)).trans e124
        have e153 := (Zfr.gr fq10 t_a0 (by decide)).trans e125
        have e154 := (Zfr.gr fq10 t_a0 (by decide)).trans e126
        have e155 := (Zfr.ai fq10 tw_2 (by decide)).trans e127
        have e156 := (Zfr.ai fq10 tw_3 (by decide)).trans e128
        have k157 := GtP_fr k129 fq10 t_a0 Wq30 (by decide)
        have sc159 : Sc q30 q10.2 a0 (0) (0) := by
          obtain ⟨yf2, z0y, x0y, x1y, x2y, x3y⟩ := pbZScq10
          exact Sc_mk e112 z0y e113 ((Zfr.gi (ci := 12) fq10 t_a0 (by decide)).trans e113) e114 ((Zfr.gi (ci := 12) fq10 t_a0 (by decide)).trans e114) (by omega)
        have k158 := WyN_fr k130 fq10 t_a0 Wq30 (by decide) sc159
        have k160 := TbI_fr k132 fq10 t_a0 Wq30 (by decide) sc159
        have k161 := TbC_fr k133 fq10 t_a0 Wq30 (by decide) sc159
        have k162 := TkN_fr k134 fq10 t_a0 Wq30 (by decide)
        have k163 := PB_s0 k135 fq10 t_a0 Wq30 (by decide) sc159
        have k164 := TpK_fr k136 fq10 t_a0 Wq30 (by decide)
        have F165 := Zfr.tr F137 fq10 (by decide)
        obtain ⟨bf2q10, h0ZScq10, r0ZScq10, r1ZScq10, r2ZScq10, r3ZScq10⟩ := pbZScq10
        obtain ⟨bkkq10, h0Zkdq10, h1Zkdq10, tkkq10⟩ := pbZkdq10
        refine wi (fun hq166 => ?_) (fun hq166 => ?_)
        · have := li_1
          have hq166 := i_eq hq166
          refine wi (fun hq167 => ?_) (fun hq167 => ?_)
          · have := li_42
            have := i_ge q10.1
            have := i_up q10.1
            have hq167 := i_eq hq167
            unfold f_Mo_reckoned_112
            refine wi (fun hq168 => ?_) (fun hq168 => ?_)
            · have := li_6
              have hq168 := i_le hq168
              obtain ⟨w16, ew16⟩ := go_64 Wq10 t_a0
              refine wb ew16 ?_
              obtain ⟨q15, eq15, Wq15, fq15, pbZSq15⟩ := p_Mo_pass hn Wq10  t_a0 (by omega) (by omega) (by omega) (by omega) h0ZScq10 e141
              refine wb eq15 ?_
              have e171 := (Zfr.gi fq15 t_a0 (by decide)).trans e140
              have e172 := (Zfr.gi fq15 t_a0 (by decide)).trans e142
              have e173 := (Zfr.gi fq15 t_a0 (by decide)).trans e143
              have e174 := (Zfr.gr fq15 t_a0 (by decide)).trans e144
              have e175 := (Zfr.ai fq15 tqw_1 (by decide)).trans e145
              have e176 := (Zfr.gr fq15 t_a0 (by decide)).trans e146
              have e177 := (Zfr.gr fq15 t_a0 (by decide)).trans e147
              have e178 := (Zfr.gr fq15 t_a0 (by decide)).trans e148
              have e179 := (Zfr.ai fq15 tks0 (by decide)).trans e149
              have e180 := (Zfr.ai fq15 tkl0 (by decide)).trans e150
              have e181 := (Zfr.ai fq15 tkw0 (by decide)).trans e151
              have e182 := (Zfr.gi fq15 t_a0 (by decide)).trans e152
              have e183 := (Zfr.gr fq15 t_a0 (by decide)).trans e153
              have e184 := (Zfr.gr fq15 t_a0 (by decide)).trans e154
              have e185 := (Zfr.ai fq15 tw_2 (by decide)).trans e155
              have e186 := (Zfr.ai fq15 tw_3 (by decide)).trans e156
              have e187 := (Zfr.gr fq15 t_a0 (by decide)).trans h0Zkdq10
              have e188 := (Zfr.ai fq15 tkkq10 (by decide)).trans h1Zkdq10
              have k189 := GtP_fr k157 fq15 t_a0 Wq10 (by decide)
              have sc191 : Sc q10.2 q15 a0 (1) (0) := by
                obtain ⟨yf2, yt2, z0y, z1y, x0y, x1y, x2y, x3y, x4y, x5y⟩ := pbZSq15
                exact Sc_mk h0ZScq10 z0y e141 z1y e142 ((Zfr.gi (ci := 12) fq15 t_a0 (by decide)).trans e142) (by omega)
              have k190 := WyN_fr k158 fq15 t_a0 Wq10 (by decide) sc191
              have k192 := TbI_fr k160 fq15 t_a0 Wq10 (by decide) sc191
              have k193 := TbC_fr k161 fq15 t_a0 Wq10 (by decide) sc191
              have k194 := TkN_fr k162 fq15 t_a0 Wq10 (by decide)
              have k195 := PB_sc k163 fq15 t_a0 Wq10 (by decide) sc191 (by omega)
              have k196 := TpK_fr k164 fq15 t_a0 Wq10 (by decide)
              have F197 := Zfr.tr F165 fq15 (by decide)
              obtain ⟨bf2q15, bt2q15, h0ZSq15, h1ZSq15, r0ZSq15, r1ZSq15, r2ZSq15, r3ZSq15, r4ZSq15, r5ZSq15⟩ := pbZSq15
              refine wb e184 ?_
              obtain ⟨c18, ec18, Wc18, fc18, gc18⟩ := pa_116 Wq15 tw_3 (i := a1) (by omega) (by omega) (x := 6) (trivial)
              refine wb ec18 ?_
              have e198 := (Zfr.gi fc18 t_a0 (by decide)).trans e171
              have e199 := (Zfr.gi fc18 t_a0 (by decide)).trans e172
              have e200 := (Zfr.gi fc18 t_a0 (by decide)).trans e173
              have e201 := (Zfr.gr fc18 t_a0 (by decide)).trans e174
              have e202 := (Zfr.ai fc18 tqw_1 (by decide)).trans e175
              have e203 := (Zfr.gr fc18 t_a0 (by decide)).trans e176
              have e204 := (Zfr.gr fc18 t_a0 (by decide)).trans e177
              have e205 := (Zfr.gr fc18 t_a0 (by decide)).trans e178
              have e206 := (Zfr.ai fc18 tks0 (by decide)).trans e179
              have e207 := (Zfr.ai fc18 tkl0 (by decide)).trans e180
              have e208 := (Zfr.ai fc18 tkw0 (by decide)).trans e181
              have e209 := (Zfr.gi fc18 t_a0 (by decide)).trans e182
              have e210 := (Zfr.gr fc18 t_a0 (by decide)).trans e183
              have e211 := (Zfr.gr fc18 t_a0 (by decide)).trans e184
              have e212 := (Zfr.ai fc18 tw_2 (by decide)).trans e185
              have e213 := (Zfr.gr fc18 t_a0 (by decide)).trans e187
              have e214 := (Zfr.ai fc18 tkkq10 (by decide)).trans e188
              have e215 := (Zfr.gi fc18 t_a0 (by decide)).trans h0ZSq15
              have e216 := (Zfr.gi fc18 t_a0 (by decide)).trans h1ZSq15
              have k217 := GtP_fr k189 fc18 t_a0 Wq15 (by decide)
              have sc219 := Sc_fr fc18 t_a0 (by decide) (by decide) (by decide)
              have k218 := WyN_fr k190 fc18 t_a0 Wq15 (by decide) sc219
              have k220 := TbI_fr k192 fc18 t_a0 Wq15 (by decide) sc219
              have k221 := TbC_fr k193 fc18 t_a0 Wq15 (by decide) sc219
              have k222 := TkN_fr k194 fc18 t_a0 Wq15 (by decide)
              have k223 := PB_w68 k195 Wq15 t_a0 fc18 e184 ec18 rfl
              have k224 := TpK_w68 k196 Wq15 t_a0 fc18 e184 ec18 rfl
              have F225 := Zfr.tr F197 fc18 (by decide)
              refine wb e210 ?_
              obtain ⟨c20, ec20, Wc20, fc20, gc20⟩ := pa_115 Wc18 tw_2 (i := a1) (by omega) (by omega) (x := 2) (trivial)
              refine wb ec20 ?_
              have e226 := (Zfr.gi fc20 t_a0 (by decide)).trans e198
              have e227 := (Zfr.gi fc20 t_a0 (by decide)).trans e199
              have e228 := (Zfr.gi fc20 t_a0 (by decide)).trans e200
              have e229 := (Zfr.gr fc20 t_a0 (by decide)).trans e201
              have e230 := (Zfr.ai fc20 tqw_1 (by decide)).trans e202
              have e231 := (Zfr.gr fc20 t_a0 (by decide)).trans e203
              have e232 := (Zfr.gr fc20 t_a0 (by decide)).trans e204
              have e233 := (Zfr.gr fc20 t_a0 (by decide)).trans e205
              have e234 := (Zfr.ai fc20 tks0 (by decide)).trans e206
              have e235 := (Zfr.ai fc20 tkl0 (by decide)).trans e207
              have e236 := (Zfr.ai fc20 tkw0 (by decide)).trans e208
              have e237 := (Zfr.gi fc20 t_a0 (by decide)).trans e209
              have e238 := (Zfr.gr fc20 t_a0 (by decide)).trans e210
              have e239 := (Zfr.gr fc20 t_a0 (by decide)).trans e211
              have e240 := (Zfr.gr fc20 t_a0 (by decide)).trans e213
              have e241 := (Zfr.ai fc20 tkkq10 (by decide)).trans e214
              have e242 := (Zfr.gi fc20 t_a0 (by decide)).trans e215
              have e243 := (Zfr.gi fc20 t_a0 (by decide)).trans e216
              have e244 := (Zfr.ai fc20 tw_3 (by decide)).trans gc18
              have k245 := GtP_fr k217 fc20 t_a0 Wc18 (by decide)
              have sc247 := Sc_fr fc20 t_a0 (by decide) (by decide) (by decide)
              have k246 := WyN_fr k218 fc20 t_a0 Wc18 (by decide) sc247
              have k248 := TbI_fr k220 fc20 t_a0 Wc18 (by decide) sc247
              have k249 := TbC_fr k221 fc20 t_a0 Wc18 (by decide) sc247
              have k250 := TkN_fr k222 fc20 t_a0 Wc18 (by decide)
              have k251 := PB_w67 k223 Wc18 t_a0 fc20 e210 ec20 rfl
              have k252 := TpK_w67 k224 Wc18 t_a0 fc20 e210 ec20 rfl
              have F253 := Zfr.tr F225 fc20 (by decide)
              refine wi (fun hq254 => ?_) (fun hq254 => ?_)
              · have hq254 := i_eq hq254
                unfold f_Mo_reckoned_159
                obtain ⟨w23, ew23⟩ := go_64 Wc20 t_a0
                refine wb ew23 ?_
                have := li_5
                obtain ⟨q22, eq22, Wq22, fq22, po0q22⟩ := p_Mo_frame hn Wc20 (a1 := 5) t_a0 (by omega) (by omega) e228
                refine wb eq22 ?_
                have e256 := (Zfr.gi fq22 t_a0 (by decide)).trans e226
                have e257 := (Zfr.gi fq22 t_a0 (by decide)).trans e227
                have e258 := (Zfr.gr fq22 t_a0 (by decide)).trans e229
                have e259 := (Zfr.gr fq22 t_a0 (by decide)).trans e231
                have e260 := (Zfr.gr fq22 t_a0 (by decide)).trans e232
                have e261 := (Zfr.gr fq22 t_a0 (by decide)).trans e233
                have e262 := (Zfr.ai fq22 tks0 (by decide)).trans e234
                have e263 := (Zfr.ai fq22 tkl0 (by decide)).trans e235
                have e264 := (Zfr.ai fq22 tkw0 (by decide)).trans e236
                have e265 := (Zfr.gi fq22 t_a0 (by decide)).trans e237
                have e266 := (Zfr.gr fq22 t_a0 (by decide)).trans e238
                have e267 := (Zfr.gr fq22 t_a0 (by decide)).trans e239
                have e268 := (Zfr.gr fq22 t_a0 (by decide)).trans e240
                have e269 := (Zfr.ai fq22 tkkq10 (by decide)).trans e241
                have e270 := (Zfr.gi fq22 t_a0 (by decide)).trans e242
                have e271 := (Zfr.gi fq22 t_a0 (by decide)).trans e243
                have k272 := GtP_fr k245 fq22 t_a0 Wc20 (by decide)
                have sc274 := Sc_fr fq22 t_a0 (by decide) (by decide) (by decide)
                have k273 := WyN_fr k246 fq22 t_a0 Wc20 (by decide) sc274
                have k275 := TbI_fr k248 fq22 t_a0 Wc20 (by decide) sc274
                have k276 := TbC_fr k249 fq22 t_a0 Wc20 (by decide) sc274
                have k277 := TkN_fr k250 fq22 t_a0 Wc20 (by decide)
                have k278 := PI_push k251 k252 (psJ (by omega) (by omega) (by omega) (by omega) (by omega)) (by omega) (by omega) (fun y_ => two_i (by omega)) e242 e243 (by omega) fq22 t_a0 Wc20 po0q22 e228 (by omega)
                have F280 := Zfr.tr F253 fq22 (by decide)
                exact ⟨_, rfl, Wq22, F280, ⟨bf2q15, bt2q15, dv, bks0, bkl0, bkw0, bna0, blb0, bnw0, bvn0, e256, e270, e271, e257, e259, e260, e261, e262, e263, e264, e265, tks0, tkl0, tkw0, by (try dsimp only); omega, by (try dsimp only); omega, by (try dsimp only); omega, by (try dsimp only); omega, by (try dsimp only); omega, by (try dsimp only); omega, by (try dsimp only); omega, by (try dsimp only); omega, by (try dsimp only); omega, by (try dsimp only); omega, by (try dsimp only); omega, by (try dsimp only); omega, by (try dsimp only); omega, by (try dsimp only); omega, by (try dsimp only); omega, by (try dsimp only); omega, by (try dsimp only); omega, by (try dsimp only); omega, by (try dsimp only); omega, by (try dsimp only); omega, k272, k273, k275, k276, k277⟩, k278⟩
              · have hq254 := i_ne hq254
                unfold f_Mo_reckoned_159
                obtain ⟨w23, ew23⟩ := go_64 Wc20 t_a0
                refine wb ew23 ?_
                have := li_4
                obtain ⟨q22, eq22, Wq22, fq22, po0q22⟩ := p_Mo_frame hn Wc20 (a1 := 4) t_a0 (by omega) (by omega) e228
                refine wb eq22 ?_
                have e293 := (Zfr.gi fq22 t_a0 (by decide)).trans e226
                have e294 := (Zfr.gi fq22 t_a0 (by decide)).trans e227
                have e295 := (Zfr.gr fq22 t_a0 (by decide)).trans e229
                have e296 := (Zfr.gr fq22 t_a0 (by decide)).trans e231
                have e297 := (Zfr.gr fq22 t_a0 (by decide)).trans e232
                have e298 := (Zfr.gr fq22 t_a0 (by decide)).trans e233
                have e299 := (Zfr.ai fq22 tks0 (by decide)).trans e234
                have e300 := (Zfr.ai fq22 tkl0 (by decide)).trans e235
                have e301 := (Zfr.ai fq22 tkw0 (by decide)).trans e236
                have e302 := (Zfr.gi fq22 t_a0 (by decide)).trans e237
                have e303 := (Zfr.gr fq22 t_a0 (by decide)).trans e238
                have e304 := (Zfr.gr fq22 t_a0 (by decide)).trans e239
                have e305 := (Zfr.gr fq22 t_a0 (by decide)).trans e240
                have e306 := (Zfr.ai fq22 tkkq10 (by decide)).trans e241
                have e307 := (Zfr.gi fq22 t_a0 (by decide)).trans e242
                have e308 := (Zfr.gi fq22 t_a0 (by decide)).trans e243
                have k309 := GtP_fr k245 fq22 t_a0 Wc20 (by decide)
                have sc311 := Sc_fr fq22 t_a0 (by decide) (by decide) (by decide)
                have k310 := WyN_fr k246 fq22 t_a0 Wc20 (by decide) sc311
                have k312 := TbI_fr k248 fq22 t_a0 Wc20 (by decide) sc311
                have k313 := TbC_fr k249 fq22 t_a0 Wc20 (by decide) sc311
                have k314 := TkN_fr k250 fq22 t_a0 Wc20 (by decide)
                have k315 := PI_push k251 k252 (psJ (by omega) (by omega) (by omega) (by omega) (by omega)) (by omega) (by omega) (fun y_ => two_i (by omega)) e242 e243 (by omega) fq22 t_a0 Wc20 po0q22 e228 (by omega)
                have F317 := Zfr.tr F253 fq22 (by decide)
                exact ⟨_, rfl, Wq22, F317, ⟨bf2q15, bt2q15, dv, bks0, bkl0, bkw0, bna0, blb0, bnw0, bvn0, e293, e307, e308, e294, e296, e297, e298, e299, e300, e301, e302, tks0, tkl0, tkw0, by (try dsimp only); omega, by (try dsimp only); omega, by (try dsimp only); omega, by (try dsimp only); omega, by (try dsimp only); omega, by (try dsimp only); omega, by (try dsimp only); omega, by (try dsimp only); omega, by (try dsimp only); omega, by (try dsimp only); omega, by (try dsimp only); omega, by (try dsimp only); omega, by (try dsimp only); omega, by (try dsimp only); omega, by (try dsimp only); omega, by (try dsimp only); omega, by (try dsimp only); omega, by (try dsimp only); omega, by (try dsimp only); omega, by (try dsimp only); omega, k309, k310, k312, k313, k314⟩, k315⟩
            · have := li_6
              have hq168 := i_nle hq168
              refine wb e143 ?_
              have := i_sub (a := fr) (b := 1) (by omega) (by omega)
              obtain ⟨c25, ec25, Wc25, fc25, gc25⟩ := pf_64_69 Wq10 t_a0 (x := (fr - 1)) (rgi (by omega) (by omega))
              refine wb ec25 ?_
              have e329 := (Zfr.gi fc25 t_a0 (by decide)).trans e140
              have e330 := (Zfr.gi fc25 t_a0 (by decide)).trans e141
              have e331 := (Zfr.gi fc25 t_a0 (by decide)).trans e142
              have e332 := (Zfr.gr fc25 t_a0 (by decide)).trans e144
              have e333 := (Zfr.ai fc25 tqw_1 (by decide)).trans e145
              have e334 := (Zfr.gr fc25 t_a0 (by decide)).trans e146
              have e335 := (Zfr.gr fc25 t_a0 (by decide)).trans e147
              have e336 := (Zfr.gr fc25 t_a0 (by decide)).trans e148
              have e337 := (Zfr.ai fc25 tks0 (by decide)).trans e149
              have e338 := (Zfr.ai fc25 tkl0 (by decide)).trans e150
              have e339 := (Zfr.ai fc25 tkw0 (by decide)).trans e151
              have e340 := (Zfr.gi fc25 t_a0 (by decide)).trans e152
              have e341 := (Zfr.gr fc25 t_a0 (by decide)).trans e153
              have e342 := (Zfr.gr fc25 t_a0 (by decide)).trans e154
              have e343 := (Zfr.ai fc25 tw_2 (by decide)).trans e155
              have e344 := (Zfr.ai fc25 tw_3 (by decide)).trans e156
              have e345 := (Zfr.gi fc25 t_a0 (by decide)).trans h0ZScq10
              have e346 := (Zfr.gr fc25 t_a0 (by decide)).trans h0Zkdq10
              have e347 := (Zfr.ai fc25 tkkq10 (by decide)).trans h1Zkdq10
              have k348 := GtP_fr k157 fc25 t_a0 Wq10 (by decide)
              have sc350 := Sc_fr fc25 t_a0 (by decide) (by decide) (by decide)
              have k349 := WyN_fr k158 fc25 t_a0 Wq10 (by decide) sc350
              have k351 := TbI_fr k160 fc25 t_a0 Wq10 (by decide) sc350
              have k352 := TbC_fr k161 fc25 t_a0 Wq10 (by decide) sc350
              have k353 := TkN_fr k162 fc25 t_a0 Wq10 (by decide)
              have k354 := PB_s0 k163 fc25 t_a0 Wq10 (by decide) sc350
              have k355 := TpK_fr k164 fc25 t_a0 Wq10 (by decide)
              have F356 := Zfr.tr F165 fc25 (by decide)
              exact ⟨_, rfl, Wc25, F356, ⟨bf2q10, tv, dv, bks0, bkl0, bkw0, bna0, blb0, bnw0, bvn0, e329, e345, e330, e331, e334, e335, e336, e337, e338, e339, e340, tks0, tkl0, tkw0, by (try dsimp only); omega, by (try dsimp only); omega, by (try dsimp only); omega, by (try dsimp only); omega, by (try dsimp only); omega, by (try dsimp only); omega, by (try dsimp only); omega, by (try dsimp only); omega, by (try dsimp only); omega, by (try dsimp only); omega, by (try dsimp only); omega, by (try dsimp only); omega, by (try dsimp only); omega, by (try dsimp only); omega, by (try dsimp only); omega, by (try dsimp only); omega, by (try dsimp only); omega, by (try dsimp only); omega, by (try dsimp only); omega, by (try dsimp only); omega, k348, k349, k351, k352, k353⟩, PI_pop k354 (by omega) (by omega) (by omega) (by omega) gc25 (by omega) (by omega)⟩
          · have := li_42
            have := i_ge q10.1
            have := i_up q10.1
            have hq167 := i_ne hq167
            unfold f_Mo_reckoned_112
            refine wi (fun hq370 => ?_) (fun hq370 => ?_)
            · have := li_m1
              have hq370 := i_le hq370
              obtain ⟨w16, ew16⟩ := go_64 Wq10 t_a0
              refine wb ew16 ?_
              obtain ⟨q15, eq15, Wq15, fq15, pbZSq15⟩ := p_Mo_pass hn Wq10  t_a0 (by omega) (by omega) (by omega) (by omega) h0ZScq10 e141
              refine wb eq15 ?_
              have e373 := (Zfr.gi fq15 t_a0 (by decide)).trans e140
              have e374 := (Zfr.gi fq15 t_a0 (by decide)).trans e142
              have e375 := (Zfr.gi fq15 t_a0 (by decide)).trans e143
              have e376 := (Zfr.gr fq15 t_a0 (by decide)).trans e144
              have e377 := (Zfr.ai fq15 tqw_1 (by decide)).trans e145
              have e378 := (Zfr.gr fq15 t_a0 (by decide)).trans e146
              have e379 := (Zfr.gr fq15 t_a0 (by decide)).trans e147
              have e380 := (Zfr.gr fq15 t_a0 (by decide)).trans e148
              have e381 := (Zfr.ai fq15 tks0 (by decide)).trans e149
              have e382 := (Zfr.ai fq15 tkl0 (by decide)).trans e150
              have e383 := (Zfr.ai fq15 tkw0 (by decide)).trans e151
              have e384 := (Zfr.gi fq15 t_a0 (by decide)).trans e152
              have e385 := (Zfr.gr fq15 t_a0 (by decide)).trans e153
              have e386 := (Zfr.gr fq15 t_a0 (by decide)).trans e154
              have e387 := (Zfr.ai fq15 tw_2 (by decide)).trans e155
              have e388 := (Zfr.ai fq15 tw_3 (by decide)).trans e156
              have e389 := (Zfr.gr fq15 t_a0 (by decide)).trans h0Zkdq10
              have e390 := (Zfr.ai fq15 tkkq10 (by decide)).trans h1Zkdq10
              have k391 := GtP_fr k157 fq15 t_a0 Wq10 (by decide)
              have sc393 : Sc q10.2 q15 a0 (1) (0) := by
                obtain ⟨yf2, yt2, z0y, z1y, x0y, x1y, x2y, x3y, x4y, x5y⟩ := pbZSq15
                exact Sc_mk h0ZScq10 z0y e141 z1y e142 ((Zfr.gi (ci := 12) fq15 t_a0 (by decide)).trans e142) (by omega)
              have k392 := WyN_fr k158 fq15 t_a0 Wq10 (by decide) sc393
              have k394 := TbI_fr k160 fq15 t_a0 Wq10 (by decide) sc393
              have k395 := TbC_fr k161 fq15 t_a0 Wq10 (by decide) sc393
              have k396 := TkN_fr k162 fq15 t_a0 Wq10 (by decide)
              have k397 := PB_sc k163 fq15 t_a0 Wq10 (by decide) sc393 (by omega)
              have k398 := TpK_fr k164 fq15 t_a0 Wq10 (by decide)
              have F399 := Zfr.tr F165 fq15 (by decide)
              obtain ⟨bf2q15, bt2q15, h0ZSq15, h1ZSq15, r0ZSq15, r1ZSq15, r2ZSq15, r3ZSq15, r4ZSq15, r5ZSq15⟩ := pbZSq15
              refine wb e386 ?_
              obtain ⟨c18, ec18, Wc18, fc18, gc18⟩ := pa_116 Wq15 tw_3 (i := a1) (by omega) (by omega) (x := (-1)) (trivial)
              refine wb ec18 ?_
              have e400 := (Zfr.gi fc18 t_a0 (by decide)).trans e373
              have e401 := (Zfr.gi fc18 t_a0 (by decide)).trans e374
              have e402 := (Zfr.gi fc18 t_a0 (by decide)).trans e375
              have e403 := (Zfr.gr fc18 t_a0 (by decide)).trans e376
              have e404 := (Zfr.ai fc18 tqw_1 (by decide)).trans e377
              have e405 := (Zfr.gr fc18 t_a0 (by decide)).trans e378
              have e406 := (Zfr.gr fc18 t_a0 (by decide)).trans e379
              have e407 := (Zfr.gr fc18 t_a0 (by decide)).trans e380
              have e408 := (Zfr.ai fc18 tks0 (by decide)).trans e381
              have e409 := (Zfr.ai fc18 tkl0 (by decide)).trans e382
              have e410 := (Zfr.ai fc18 tkw0 (by decide)).trans e383
              have e411 := (Zfr.gi fc18 t_a0 (by decide)).trans e384
              have e412 := (Zfr.gr fc18 t_a0 (by decide)).trans e385
              have e413 := (Zfr.gr fc18 t_a0 (by decide)).trans e386
              have e414 := (Zfr.ai fc18 tw_2 (by decide)).trans e387
              have e415 := (Zfr.gr fc18 t_a0 (by decide)).trans e389
              have e416 := (Zfr.ai fc18 tkkq10 (by decide)).trans e390
              have e417 := (Zfr.gi fc18 t_a0 (by decide)).trans h0ZSq15
              have e418 := (Zfr.gi fc18 t_a0 (by decide)).trans h1ZSq15
              have k419 := GtP_fr k391 fc18 t_a0 Wq15 (by decide)
              have sc421 := Sc_fr fc18 t_a0 (by decide) (by decide) (by decide)
              have k420 := WyN_fr k392 fc18 t_a0 Wq15 (by decide) sc421
              have k422 := TbI_fr k394 fc18 t_a0 Wq15 (by decide) sc421
              have k423 := TbC_fr k395 fc18 t_a0 Wq15 (by decide) sc421
              have k424 := TkN_fr k396 fc18 t_a0 Wq15 (by decide)
              have k425 := PB_w68 k397 Wq15 t_a0 fc18 e386 ec18 rfl
              have k426 := TpK_w68 k398 Wq15 t_a0 fc18 e386 ec18 rfl
              have F427 := Zfr.tr F399 fc18 (by decide)
              refine wb e412 ?_
              obtain ⟨c20, ec20, Wc20, fc20, gc20⟩ := pa_115 Wc18 tw_2 (i := a1) (by omega) (by omega) (x := 2) (trivial)
              refine wb ec20 ?_
              have e428 := (Zfr.gi fc20 t_a0 (by decide)).trans e400
              have e429 := (Zfr.gi fc20 t_a0 (by decide)).trans e401
              have e430 := (Zfr.gi fc20 t_a0 (by decide)).trans e402
              have e431 := (Zfr.gr fc20 t_a0 (by decide)).trans e403
              have e432 := (Zfr.ai fc20 tqw_1 (by decide)).trans e404
              have e433 := (Zfr.gr fc20 t_a0 (by decide)).trans e405
              have e434 := (Zfr.gr fc20 t_a0 (by decide)).trans e406
              have e435 := (Zfr.gr fc20 t_a0 (by decide)).trans e407
              have e436 := (Zfr.ai fc20 tks0 (by decide)).trans e408
              have e437 := (Zfr.ai fc20 tkl0 (by decide)).trans e409
              have e438 := (Zfr.ai fc20 tkw0 (by decide)).trans e410
              have e439 := (Zfr.gi fc20 t_a0 (by decide)).trans e411
              have e440 := (Zfr.gr fc20 t_a0 (by decide)).trans e412
              have e441 := (Zfr.gr fc20 t_a0 (by decide)).trans e413
              have e442 := (Zfr.gr fc20 t_a0 (by decide)).trans e415
              have e443 := (Zfr.ai fc20 tkkq10 (by decide)).trans e416
              have e444 := (Zfr.gi fc20 t_a0 (by decide)).trans e417
              have e445 := (Zfr.gi fc20 t_a0 (by decide)).trans e418
              have e446 := (Zfr.ai fc20 tw_3 (by decide)).trans gc18
              have k447 := GtP_fr k419 fc20 t_a0 Wc18 (by decide)
              have sc449 := Sc_fr fc20 t_a0 (by decide) (by decide) (by decide)
              have k448 := WyN_fr k420 fc20 t_a0 Wc18 (by decide) sc449
              have k450 := TbI_fr k422 fc20 t_a0 Wc18 (by decide) sc449
              have k451 := TbC_fr k423 fc20 t_a0 Wc18 (by decide) sc449
              have k452 := TkN_fr k424 fc20 t_a0 Wc18 (by decide)
              have k453 := PB_w67 k425 Wc18 t_a0 fc20 e412 ec20 rfl
              have k454 := TpK_w67 k426 Wc18 t_a0 fc20 e412 ec20 rfl
              have F455 := Zfr.tr F427 fc20 (by decide)
              refine wi (fun hq456 => ?_) (fun hq456 => ?_)
              · have hq456 := i_eq hq456
                unfold f_Mo_reckoned_159
                obtain ⟨w23, ew23⟩ := go_64 Wc20 t_a0
                refine wb ew23 ?_
                have := li_5
                obtain ⟨q22, eq22, Wq22, fq22, po0q22⟩ := p_Mo_frame hn Wc20 (a1 := 5) t_a0 (by omega) (by omega) e430
                refine wb eq22 ?_
                have e458 := (Zfr.gi fq22 t_a0 (by decide)).trans e428
                have e459 := (Zfr.gi fq22 t_a0 (by decide)).trans e429
                have e460 := (Zfr.gr fq22 t_a0 (by decide)).trans e431
                have e461 := (Zfr.gr fq22 t_a0 (by decide)).trans e433
                have e462 := (Zfr.gr fq22 t_a0 (by decide)).trans e434
                have e463 := (Zfr.gr fq22 t_a0 (by decide)).trans e435
                have e464 := (Zfr.ai fq22 tks0 (by decide)).trans e436
                have e465 := (Zfr.ai fq22 tkl0 (by decide)).trans e437
                have e466 := (Zfr.ai fq22 tkw0 (by decide)).trans e438
                have e467 := (Zfr.gi fq22 t_a0 (by decide)).trans e439
                have e468 := (Zfr.gr fq22 t_a0 (by decide)).trans e440
                have e469 := (Zfr.gr fq22 t_a0 (by decide)).trans e441
                have e470 := (Zfr.gr fq22 t_a0 (by decide)).trans e442
                have e471 := (Zfr.ai fq22 tkkq10 (by decide)).trans e443
                have e472 := (Zfr.gi fq22 t_a0 (by decide)).trans e444
                have e473 := (Zfr.gi fq22 t_a0 (by decide)).trans e445
                have k474 := GtP_fr k447 fq22 t_a0 Wc20 (by decide)
                have sc476 := Sc_fr fq22 t_a0 (by decide) (by decide) (by decide)
                have k475 := WyN_fr k448 fq22 t_a0 Wc20 (by decide) sc476
                have k477 := TbI_fr k450 fq22 t_a0 Wc20 (by decide) sc476
                have k478 := TbC_fr k451 fq22 t_a0 Wc20 (by decide) sc476
                have k479 := TkN_fr k452 fq22 t_a0 Wc20 (by decide)
                have k480 := PI_push k453 k454 (psJ (by omega) (by omega) (by omega) (by omega) (by omega)) (by omega) (by omega) (fun y_ => two_i (by omega)) e444 e445 (by omega) fq22 t_a0 Wc20 po0q22 e430 (by omega)
                have F482 := Zfr.tr F455 fq22 (by decide)
                exact ⟨_, rfl, Wq22, F482, ⟨bf2q15, bt2q15, dv, bks0, bkl0, bkw0, bna0, blb0, bnw0, bvn0, e458, e472, e473, e459, e461, e462, e463, e464, e465, e466, e467, tks0, tkl0, tkw0, by (try dsimp only); omega, by (try dsimp only); omega, by (try dsimp only); omega, by (try dsimp only); omega, by (try dsimp only); omega, by (try dsimp only); omega, by (try dsimp only); omega, by (try dsimp only); omega, by (try dsimp only); omega, by (try dsimp only); omega, by (try dsimp only); omega, by (try dsimp only); omega, by (try dsimp only); omega, by (try dsimp only); omega, by (try dsimp only); omega, by (try dsimp only); omega, by (try dsimp only); omega, by (try dsimp only); omega, by (try dsimp only); omega, by (try dsimp only); omega, k474, k475, k477, k478, k479⟩, k480⟩
              · have hq456 := i_ne hq456
                unfold f_Mo_reckoned_159
                obtain ⟨w23, ew23⟩ := go_64 Wc20 t_a0
                refine wb ew23 ?_
                have := li_4
                obtain ⟨q22, eq22, Wq22, fq22, po0q22⟩ := p_Mo_frame hn Wc20 (a1 := 4) t_a0 (by omega) (by omega) e430
                refine wb eq22 ?_
                have e495 := (Zfr.gi fq22 t_a0 (by decide)).trans e428
                have e496 := (Zfr.gi fq22 t_a0 (by decide)).trans e429
                have e497 := (Zfr.gr fq22 t_a0 (by decide)).trans e431
                have e498 := (Zfr.gr fq22 t_a0 (by decide)).trans e433
                have e499 := (Zfr.gr fq22 t_a0 (by decide)).trans e434
                have e500 := (Zfr.gr fq22 t_a0 (by decide)).trans e435
                have e501 := (Zfr.ai fq22 tks0 (by decide)).trans e436
                have e502 := (Zfr.ai fq22 tkl0 (by decide)).trans e437
                have e503 := (Zfr.ai fq22 tkw0 (by decide)).trans e438
                have e504 := (Zfr.gi fq22 t_a0 (by decide)).trans e439
                have e505 := (Zfr.gr fq22 t_a0 (by decide)).trans e440
                have e506 := (Zfr.gr fq22 t_a0 (by decide)).trans e441
                have e507 := (Zfr.gr fq22 t_a0 (by decide)).trans e442
                have e508 := (Zfr.ai fq22 tkkq10 (by decide)).trans e443
                have e509 := (Zfr.gi fq22 t_a0 (by decide)).trans e444
                have e510 := (Zfr.gi fq22 t_a0 (by decide)).trans e445
                have k511 := GtP_fr k447 fq22 t_a0 Wc20 (by decide)
                have sc513 := Sc_fr fq22 t_a0 (by decide) (by decide) (by decide)
                have k512 := WyN_fr k448 fq22 t_a0 Wc20 (by decide) sc513
                have k514 := TbI_fr k450 fq22 t_a0 Wc20 (by decide) sc513
                have k515 := TbC_fr k451 fq22 t_a0 Wc20 (by decide) sc513
                have k516 := TkN_fr k452 fq22 t_a0 Wc20 (by decide)
                have k517 := PI_push k453 k454 (psJ (by omega) (by omega) (by omega) (by omega) (by omega)) (by omega) (by omega) (fun y_ => two_i (by omega)) e444 e445 (by omega) fq22 t_a0 Wc20 po0q22 e430 (by omega)
                have F519 := Zfr.tr F455 fq22 (by decide)
                exact ⟨_, rfl, Wq22, F519, ⟨bf2q15, bt2q15, dv, bks0, bkl0, bkw0, bna0, blb0, bnw0, bvn0, e495, e509, e510, e496, e498, e499, e500, e501, e502, e503, e504, tks0, tkl0, tkw0, by (try dsimp only); omega, by (try dsimp only); omega, by (try dsimp only); omega, by (try dsimp only); omega, by (try dsimp only); omega, by (try dsimp only); omega, by (try dsimp only); omega, by (try dsimp only); omega, by (try dsimp only); omega, by (try dsimp only); omega, by (try dsimp only); omega, by (try dsimp only); omega, by (try dsimp only); omega, by (try dsimp only); omega, by (try dsimp only); omega, by (try dsimp only); omega, by (try dsimp only); omega, by (try dsimp only); omega, by (try dsimp only); omega, by (try dsimp only); omega, k511, k512, k514, k515, k516⟩, k517⟩
            · have := li_m1
              have hq370 := i_nle hq370
              refine wb e143 ?_
              have := i_sub (a := fr) (b := 1) (by omega) (by omega)
              obtain ⟨c25, ec25, Wc25, fc25, gc25⟩ := pf_64_69 Wq10 t_a0 (x := (fr - 1)) (rgi (by omega) (by omega))
              refine wb ec25 ?_
              have e531 := (Zfr.gi fc25 t_a0 (by decide)).trans e140
              have e532 := (Zfr.gi fc25 t_a0 (by decide)).trans e141
              have e533 := (Zfr.gi fc25 t_a0 (by decide)).trans e142
              have e534 := (Zfr.gr fc25 t_a0 (by decide)).trans e144
              have e535 := (Zfr.ai fc25 tqw_1 (by decide)).trans e145
              have e536 := (Zfr.gr fc25 t_a0 (by decide)).trans e146
              have e537 := (Zfr.gr fc25 t_a0 (by decide)).trans e147
              have e538 := (Zfr.gr fc25 t_a0 (by decide)).trans e148
              have e539 := (Zfr.ai fc25 tks0 (by decide)).trans e149
              have e540 := (Zfr.ai fc25 tkl0 (by decide)).trans e150
              have e541 := (Zfr.ai fc25 tkw0 (by decide)).trans e151
              have e542 := (Zfr.gi fc25 t_a0 (by decide)).trans e152
              have e543 := (Zfr.gr fc25 t_a0 (by decide)).trans e153
              have e544 := (Zfr.gr fc25 t_a0 (by decide)).trans e154
              have e545 := (Zfr.ai fc25 tw_2 (by decide)).trans e155
              have e546 := (Zfr.ai fc25 tw_3 (by decide)).trans e156
              have e547 := (Zfr.gi fc25 t_a0 (by decide)).trans h0ZScq10
              have e548 := (Zfr.gr fc25 t_a0 (by decide)).trans h0Zkdq10
              have e549 := (Zfr.ai fc25 tkkq10 (by decide)).trans h1Zkdq10
              have k550 := GtP_fr k157 fc25 t_a0 Wq10 (by decide)
              have sc552 := Sc_fr fc25 t_a0 (by decide) (by decide) (by decide)
              have k551 := WyN_fr k158 fc25 t_a0 Wq10 (by decide) sc552
              have k553 := TbI_fr k160 fc25 t_a0 Wq10 (by decide) sc552
              have k554 := TbC_fr k161 fc25 t_a0 Wq10 (by decide) sc552
              have k555 := TkN_fr k162 fc25 t_a0 Wq10 (by decide)
              have k556 := PB_s0 k163 fc25 t_a0 Wq10 (by decide) sc552
              have k557 := TpK_fr k164 fc25 t_a0 Wq10 (by decide)
              have F558 := Zfr.tr F165 fc25 (by decide)
              exact ⟨_, rfl, Wc25, F558, ⟨bf2q10, tv, dv, bks0, bkl0, bkw0, bna0, blb0, bnw0, bvn0, e531, e547, e532, e533, e536, e537, e538, e539, e540, e541, e542, tks0, tkl0, tkw0, by (try dsimp only); omega, by (try dsimp only); omega, by (try dsimp only); omega, by (try dsimp only); omega, by (try dsimp only); omega, by (try dsimp only); omega, by (try dsimp only); omega, by (try dsimp only); omega, by (try dsimp only); omega, by (try dsimp only); omega, by (try dsimp only); omega, by (try dsimp only); omega, by (try dsimp only); omega, by (try dsimp only); omega, by (try dsimp only); omega, by (try dsimp only); omega, by (try dsimp only); omega, by (try dsimp only); omega, by (try dsimp only); omega, by (try dsimp only); omega, k550, k551, k553, k554, k555⟩, PI_pop k556 (by omega) (by omega) (by omega) (by omega) gc25 (by omega) (by omega)⟩
        · have := li_1
          have hq166 := i_ne hq166
          refine wi (fun hq572 => ?_) (fun hq572 => ?_)
          · have := li_43
            have := i_ge q10.1
            have := i_up q10.1
            have hq572 := i_eq hq572
            unfold f_Mo_reckoned_112
            refine wi (fun hq573 => ?_) (fun hq573 => ?_)
            · have := li_4
              have hq573 := i_le hq573
              obtain ⟨w16, ew16⟩ := go_64 Wq10 t_a0
              refine wb ew16 ?_
              obtain ⟨q15, eq15, Wq15, fq15, pbZSq15⟩ := p_Mo_pass hn Wq10  t_a0 (by omega) (by omega) (by omega) (by omega) h0ZScq10 e141
              refine wb eq15 ?_
              have e576 := (Zfr.gi fq15 t_a0 (by decide)).trans e140
              have e577 := (Zfr.gi fq15 t_a0 (by decide)).trans e142
              have e578 := (Zfr.gi fq15 t_a0 (by decide)).trans e143
              have e579 := (Zfr.gr fq15 t_a0 (by decide)).trans e144
              have e580 := (Zfr.ai fq15 tqw_1 (by decide)).trans e145
              have e581 := (Zfr.gr fq15 t_a0 (by decide)).trans e146
              have e582 := (Zfr.gr fq15 t_a0 (by decide)).trans e147
              have e583 := (Zfr.gr fq15 t_a0 (by decide)).trans e148
              have e584 := (Zfr.ai fq15 tks0 (by decide)).trans e149
              have e585 := (Zfr.ai fq15 tkl0 (by decide)).trans e150
              have e586 := (Zfr.ai fq15 tkw0 (by decide)).trans e151
              have e587 := (Zfr.gi fq15 t_a0 (by decide)).trans e152
              have e588 := (Zfr.gr fq15 t_a0 (by decide)).trans e153
              have e589 := (Zfr.gr fq15 t_a0 (by decide)).trans e154
              have e590 := (Zfr.ai fq15 tw_2 (by decide)).trans e155
              have e591 := (Zfr.ai fq15 tw_3 (by decide)).trans e156
              have e592 := (Zfr.gr fq15 t_a0 (by decide)).trans h0Zkdq10
              have e593 := (Zfr.ai fq15 tkkq10 (by decide)).trans h1Zkdq10
              have k594 := GtP_fr k157 fq15 t_a0 Wq10 (by decide)
              have sc596 : Sc q10.2 q15 a0 (1) (0) := by
                obtain ⟨yf2, yt2, z0y, z1y, x0y, x1y, x2y, x3y, x4y, x5y⟩ := pbZSq15
                exact Sc_mk h0ZScq10 z0y e141 z1y e142 ((Zfr.gi (ci := 12) fq15 t_a0 (by decide)).trans e142) (by omega)
              have k595 := WyN_fr k158 fq15 t_a0 Wq10 (by decide) sc596
              have k597 := TbI_fr k160 fq15 t_a0 Wq10 (by decide) sc596
              have k598 := TbC_fr k161 fq15 t_a0 Wq10 (by decide) sc596
              have k599 := TkN_fr k162 fq15 t_a0 Wq10 (by decide)
              have k600 := PB_sc k163 fq15 t_a0 Wq10 (by decide) sc596 (by omega)
              have k601 := TpK_fr k164 fq15 t_a0 Wq10 (by decide)
              have F602 := Zfr.tr F165 fq15 (by decide)
              obtain ⟨bf2q15, bt2q15, h0ZSq15, h1ZSq15, r0ZSq15, r1ZSq15, r2ZSq15, r3ZSq15, r4ZSq15, r5ZSq15⟩ := pbZSq15
              refine wb e589 ?_
              obtain ⟨c18, ec18, Wc18, fc18, gc18⟩ := pa_116 Wq15 tw_3 (i := a1) (by omega) (by omega) (x := 4) (trivial)
              refine wb ec18 ?_
              have e603 := (Zfr.gi fc18 t_a0 (by decide)).trans e576
              have e604 := (Zfr.gi fc18 t_a0 (by decide)).trans e577
              have e605 := (Zfr.gi fc18 t_a0 (by decide)).trans e578
              have e606 := (Zfr.gr fc18 t_a0 (by decide)).trans e579
              have e607 := (Zfr.ai fc18 tqw_1 (by decide)).trans e580
              have e608 := (Zfr.gr fc18 t_a0 (by decide)).trans e581
              have e609 := (Zfr.gr fc18 t_a0 (by decide)).trans e582
              have e610 := (Zfr.gr fc18 t_a0 (by decide)).trans e583
              have e611 := (Zfr.ai fc18 tks0 (by decide)).trans e584
              have e612 := (Zfr.ai fc18 tkl0 (by decide)).trans e585
              have e613 := (Zfr.ai fc18 tkw0 (by decide)).trans e586
              have e614 := (Zfr.gi fc18 t_a0 (by decide)).trans e587
              have e615 := (Zfr.gr fc18 t_a0 (by decide)).trans e588
              have e616 := (Zfr.gr fc18 t_a0 (by decide)).trans e589
              have e617 := (Zfr.ai fc18 tw_2 (by decide)).trans e590
              have e618 := (Zfr.gr fc18 t_a0 (by decide)).trans e592
              have e619 := (Zfr.ai fc18 tkkq10 (by decide)).trans e593
              have e620 := (Zfr.gi fc18 t_a0 (by decide)).trans h0ZSq15
              have e621 := (Zfr.gi fc18 t_a0 (by decide)).trans h1ZSq15
              have k622 := GtP_fr k594 fc18 t_a0 Wq15 (by decide)
              have sc624 := Sc_fr fc18 t_a0 (by decide) (by decide) (by decide)
              have k623 := WyN_fr k595 fc18 t_a0 Wq15 (by decide) sc624
              have k625 := TbI_fr k597 fc18 t_a0 Wq15 (by decide) sc624
              have k626 := TbC_fr k598 fc18 t_a0 Wq15 (by decide) sc624
              have k627 := TkN_fr k599 fc18 t_a0 Wq15 (by decide)
              have k628 := PB_w68 k600 Wq15 t_a0 fc18 e589 ec18 rfl
              have k629 := TpK_w68 k601 Wq15 t_a0 fc18 e589 ec18 rfl
              have F630 := Zfr.tr F602 fc18 (by decide)
              refine wb e615 ?_
              obtain ⟨c20, ec20, Wc20, fc20, gc20⟩ := pa_115 Wc18 tw_2 (i := a1) (by omega) (by omega) (x := 2) (trivial)
              refine wb ec20 ?_
              have e631 := (Zfr.gi fc20 t_a0 (by decide)).trans e603
              have e632 := (Zfr.gi fc20 t_a0 (by decide)).trans e604
              have e633 := (Zfr.gi fc20 t_a0 (by decide)).trans e605
              have e634 := (Zfr.gr fc20 t_a0 (by decide)).trans e606
              have e635 := (Zfr.ai fc20 tqw_1 (by decide)).trans e607
              have e636 := (Zfr.gr fc20 t_a0 (by decide)).trans e608
              have e637 := (Zfr.gr fc20 t_a0 (by decide)).trans e609
              have e638 := (Zfr.gr fc20 t_a0 (by decide)).trans e610
              have e639 := (Zfr.ai fc20 tks0 (by decide)).trans e611
              have e640 := (Zfr.ai fc20 tkl0 (by decide)).trans e612
              have e641 := (Zfr.ai fc20 tkw0 (by decide)).trans e613
              have e642 := (Zfr.gi fc20 t_a0 (by decide)).trans e614
              have e643 := (Zfr.gr fc20 t_a0 (by decide)).trans e615
              have e644 := (Zfr.gr fc20 t_a0 (by decide)).trans e616
              have e645 := (Zfr.gr fc20 t_a0 (by decide)).trans e618
              have e646 := (Zfr.ai fc20 tkkq10 (by decide)).trans e619
              have e647 := (Zfr.gi fc20 t_a0 (by decide)).trans e620
              have e648 := (Zfr.gi fc20 t_a0 (by decide)).trans e621
              have e649 := (Zfr.ai fc20 tw_3 (by decide)).trans gc18
              have k650 := GtP_fr k622 fc20 t_a0 Wc18 (by decide)
              have sc652 := Sc_fr fc20 t_a0 (by decide) (by decide) (by decide)
              have k651 := WyN_fr k623 fc20 t_a0 Wc18 (by decide) sc652
              have k653 := TbI_fr k625 fc20 t_a0 Wc18 (by decide) sc652
              have k654 := TbC_fr k626 fc20 t_a0 Wc18 (by decide) sc652
              have k655 := TkN_fr k627 fc20 t_a0 Wc18 (by decide)
              have k656 := PB_w67 k628 Wc18 t_a0 fc20 e615 ec20 rfl
              have k657 := TpK_w67 k629 Wc18 t_a0 fc20 e615 ec20 rfl
              have F658 := Zfr.tr F630 fc20 (by decide)
              refine wi (fun hq659 => ?_) (fun hq659 => ?_)
              · have hq659 := i_eq hq659
                unfold f_Mo_reckoned_159
                obtain ⟨w23, ew23⟩ := go_64 Wc20 t_a0
                refine wb ew23 ?_
                have := li_5
                obtain ⟨q22, eq22, Wq22, fq22, po0q22⟩ := p_Mo_frame hn Wc20 (a1 := 5) t_a0 (by omega) (by omega) e633
                refine wb eq22 ?_
                have e661 := (Zfr.gi fq22 t_a0 (by decide)).trans e631
                have e662 := (Zfr.gi fq22 t_a0 (by decide)).trans e632
                have e663 := (Zfr.gr fq22 t_a0 (by decide)).trans e634
                have e664 := (Zfr.gr fq22 t_a0 (by decide)).trans e636
                have e665 := (Zfr.gr fq22 t_a0 (by decide)).trans e637
                have e666 := (Zfr.gr fq22 t_a0 (by decide)).trans e638
                have e667 := (Zfr.ai fq22 tks0 (by decide)).trans e639
                have e668 := (Zfr.ai fq22 tkl0 (by decide)).trans e640
                have e669 := (Zfr.ai fq22 tkw0 (by decide)).trans e641
                have e670 := (Zfr.gi fq22 t_a0 (by decide)).trans e642
                have e671 := (Zfr.gr fq22 t_a0 (by decide)).trans e643
                have e672 := (Zfr.gr fq22 t_a0 (by decide)).trans e644
                have e673 := (Zfr.gr fq22 t_a0 (by decide)).trans e645
                have e674 := (Zfr.ai fq22 tkkq10 (by decide)).trans e646
                have e675 := (Zfr.gi fq22 t_a0 (by decide)).trans e647
                have e676 := (Zfr.gi fq22 t_a0 (by decide)).trans e648
                have k677 := GtP_fr k650 fq22 t_a0 Wc20 (by decide)
                have sc679 := Sc_fr fq22 t_a0 (by decide) (by decide) (by decide)
                have k678 := WyN_fr k651 fq22 t_a0 Wc20 (by decide) sc679
                have k680 := TbI_fr k653 fq22 t_a0 Wc20 (by decide) sc679
                have k681 := TbC_fr k654 fq22 t_a0 Wc20 (by decide) sc679
                have k682 := TkN_fr k655 fq22 t_a0 Wc20 (by decide)
                have k683 := PI_push k656 k657 (psJ (by omega) (by omega) (by omega) (by omega) (by omega)) (by omega) (by omega) (fun y_ => two_i (by omega)) e647 e648 (by omega) fq22 t_a0 Wc20 po0q22 e633 (by omega)
                have F685 := Zfr.tr F658 fq22 (by decide)
                exact ⟨_, rfl, Wq22, F685, ⟨bf2q15, bt2q15, dv, bks0, bkl0, bkw0, bna0, blb0, bnw0, bvn0, e661, e675, e676, e662, e664, e665, e666, e667, e668, e669, e670, tks0, tkl0, tkw0, by (try dsimp only); omega, by (try dsimp only); omega, by (try dsimp only); omega, by (try dsimp only); omega, by (try dsimp only); omega, by (try dsimp only); omega, by (try dsimp only); omega, by (try dsimp only); omega, by (try dsimp only); omega, by (try dsimp only); omega, by (try dsimp only); omega, by (try dsimp only); omega, by (try dsimp only); omega, by (try dsimp only); omega, by (try dsimp only); omega, by (try dsimp only); omega, by (try dsimp only); omega, by (try dsimp only); omega, by (try dsimp only); omega, by (try dsimp only); omega, k677, k678, k680, k681, k682⟩, k683⟩
              · have hq659 := i_ne hq659
                unfold f_Mo_reckoned_159
                obtain ⟨w23, ew23⟩ := go_64 Wc20 t_a0
                refine wb ew23 ?_
                obtain ⟨q22, eq22, Wq22, fq22, po0q22⟩ := p_Mo_frame hn Wc20 (a1 := 4) t_a0 (by omega) (by omega) e633
                refine wb eq22 ?_
                have e698 := (Zfr.gi fq22 t_a0 (by decide)).trans e631
                have e699 := (Zfr.gi fq22 t_a0 (by decide)).trans e632
                have e700 := (Zfr.gr fq22 t_a0 (by decide)).trans e634
                have e701 := (Zfr.gr fq22 t_a0 (by decide)).trans e636
                have e702 := (Zfr.gr fq22 t_a0 (by decide)).trans e637
                have e703 := (Zfr.gr fq22 t_a0 (by decide)).trans e638
                have e704 := (Zfr.ai fq22 tks0 (by decide)).trans e639
                have e705 := (Zfr.ai fq22 tkl0 (by decide)).trans e640
                have e706 := (Zfr.ai fq22 tkw0 (by decide)).trans e641
                have e707 := (Zfr.gi fq22 t_a0 (by decide)).trans e642
                have e708 := (Zfr.gr fq22 t_a0 (by decide)).trans e643
                have e709 := (Zfr.gr fq22 t_a0 (by decide)).trans e644
                have e710 := (Zfr.gr fq22 t_a0 (by decide)).trans e645
                have e711 := (Zfr.ai fq22 tkkq10 (by decide)).trans e646
                have e712 := (Zfr.gi fq22 t_a0 (by decide)).trans e647
                have e713 := (Zfr.gi fq22 t_a0 (by decide)).trans e648
                have k714 := GtP_fr k650 fq22 t_a0 Wc20 (by decide)
                have sc716 := Sc_fr fq22 t_a0 (by decide) (by decide) (by decide)
                have k715 := WyN_fr k651 fq22 t_a0 Wc20 (by decide) sc716
                have k717 := TbI_fr k653 fq22 t_a0 Wc20 (by decide) sc716
                have k718 := TbC_fr k654 fq22 t_a0 Wc20 (by decide) sc716
                have k719 := TkN_fr k655 fq22 t_a0 Wc20 (by decide)
                have k720 := PI_push k656 k657 (psJ (by omega) (by omega) (by omega) (by omega) (by omega)) (by omega) (by omega) (fun y_ => two_i (by omega)) e647 e648 (by omega) fq22 t_a0 Wc20 po0q22 e633 (by omega)
                have F722 := Zfr.tr F658 fq22 (by decide)
                exact ⟨_, rfl, Wq22, F722, ⟨bf2q15, bt2q15, dv, bks0, bkl0, bkw0, bna0, blb0, bnw0, bvn0, e698, e712, e713, e699, e701, e702, e703, e704, e705, e706, e707, tks0, tkl0, tkw0, by (try dsimp only); omega, by (try dsimp only); omega, by (try dsimp only); omega, by (try dsimp only); omega, by (try dsimp only); omega, by (try dsimp only); omega, by (try dsimp only); omega, by (try dsimp only); omega, by (try dsimp only); omega, by (try dsimp only); omega, by (try dsimp only); omega, by (try dsimp only); omega, by (try dsimp only); omega, by (try dsimp only); omega, by (try dsimp only); omega, by (try dsimp only); omega, by (try dsimp only); omega, by (try dsimp only); omega, by (try dsimp only); omega, by (try dsimp only); omega, k714, k715, k717, k718, k719⟩, k720⟩
            · have := li_4
              have hq573 := i_nle hq573
              refine wb e143 ?_
              have := i_sub (a := fr) (b := 1) (by omega) (by omega)
              obtain ⟨c25, ec25, Wc25, fc25, gc25⟩ := pf_64_69 Wq10 t_a0 (x := (fr - 1)) (rgi (by omega) (by omega))
              refine wb ec25 ?_
              have e734 := (Zfr.gi fc25 t_a0 (by decide)).trans e140
              have e735 := (Zfr.gi fc25 t_a0 (by decide)).trans e141
              have e736 := (Zfr.gi fc25 t_a0 (by decide)).trans e142
              have e737 := (Zfr.gr fc25 t_a0 (by decide)).trans e144
              have e738 := (Zfr.ai fc25 tqw_1 (by decide)).trans e145
              have e739 := (Zfr.gr fc25 t_a0 (by decide)).trans e146
              have e740 := (Zfr.gr fc25 t_a0 (by decide)).trans e147
              have e741 := (Zfr.gr fc25 t_a0 (by decide)).trans e148
              have e742 := (Zfr.ai fc25 tks0 (by decide)).trans e149
              have e743 := (Zfr.ai fc25 tkl0 (by decide)).trans e150
              have e744 := (Zfr.ai fc25 tkw0 (by decide)).trans e151
              have e745 := (Zfr.gi fc25 t_a0 (by decide)).trans e152
              have e746 := (Zfr.gr fc25 t_a0 (by decide)).trans e153
              have e747 := (Zfr.gr fc25 t_a0 (by decide)).trans e154
              have e748 := (Zfr.ai fc25 tw_2 (by decide)).trans e155
              have e749 := (Zfr.ai fc25 tw_3 (by decide)).trans e156
              have e750 := (Zfr.gi fc25 t_a0 (by decide)).trans h0ZScq10
              have e751 := (Zfr.gr fc25 t_a0 (by decide)).trans h0Zkdq10
              have e752 := (Zfr.ai fc25 tkkq10 (by decide)).trans h1Zkdq10
              have k753 := GtP_fr k157 fc25 t_a0 Wq10 (by decide)
              have sc755 := Sc_fr fc25 t_a0 (by decide) (by decide) (by decide)
              have k754 := WyN_fr k158 fc25 t_a0 Wq10 (by decide) sc755
              have k756 := TbI_fr k160 fc25 t_a0 Wq10 (by decide) sc755
              have k757 := TbC_fr k161 fc25 t_a0 Wq10 (by decide) sc755
              have k758 := TkN_fr k162 fc25 t_a0 Wq10 (by decide)
              have k759 := PB_s0 k163 fc25 t_a0 Wq10 (by decide) sc755
              have k760 := TpK_fr k164 fc25 t_a0 Wq10 (by decide)
              have F761 := Zfr.tr F165 fc25 (by decide)
              exact ⟨_, rfl, Wc25, F761, ⟨bf2q10, tv, dv, bks0, bkl0, bkw0, bna0, blb0, bnw0, bvn0, e734, e750, e735, e736, e739, e740, e741, e742, e743, e744, e745, tks0, tkl0, tkw0, by (try dsimp only); omega, by (try dsimp only); omega, by (try dsimp only); omega, by (try dsimp only); omega, by (try dsimp only); omega, by (try dsimp only); omega, by (try dsimp only); omega, by (try dsimp only); omega, by (try dsimp only); omega, by (try dsimp only); omega, by (try dsimp only); omega, by (try dsimp only); omega, by (try dsimp only); omega, by (try dsimp only); omega, by (try dsimp only); omega, by (try dsimp only); omega, by (try dsimp only); omega, by (try dsimp only); omega, by (try dsimp only); omega, by (try dsimp only); omega, k753, k754, k756, k757, k758⟩, PI_pop k759 (by omega) (by omega) (by omega) (by omega) gc25 (by omega) (by omega)⟩
          · have := li_43
            have := i_ge q10.1
            have := i_up q10.1
            have hq572 := i_ne hq572
            refine wi (fun hq775 => ?_) (fun hq775 => ?_)
            · have := li_45
              have hq775 := i_eq hq775
              unfold f_Mo_reckoned_112
              refine wi (fun hq776 => ?_) (fun hq776 => ?_)
              · have := li_5
                have hq776 := i_le hq776
                obtain ⟨w16, ew16⟩ := go_64 Wq10 t_a0
                refine wb ew16 ?_
                obtain ⟨q15, eq15, Wq15, fq15, pbZSq15⟩ := p_Mo_pass hn Wq10  t_a0 (by omega) (by omega) (by omega) (by omega) h0ZScq10 e141
                refine wb eq15 ?_
                have e779 := (Zfr.gi fq15 t_a0 (by decide)).trans e140
                have e780 := (Zfr.gi fq15 t_a0 (by decide)).trans e142
                have e781 := (Zfr.gi fq15 t_a0 (by decide)).trans e143
                have e782 := (Zfr.gr fq15 t_a0 (by decide)).trans e144
                have e783 := (Zfr.ai fq15 tqw_1 (by decide)).trans e145
                have e784 := (Zfr.gr fq15 t_a0 (by decide)).trans e146
                have e785 := (Zfr.gr fq15 t_a0 (by decide)).trans e147
                have e786 := (Zfr.gr fq15 t_a0 (by decide)).trans e148
                have e787 := (Zfr.ai fq15 tks0 (by decide)).trans e149
                have e788 := (Zfr.ai fq15 tkl0 (by decide)).trans e150
                have e789 := (Zfr.ai fq15 tkw0 (by decide)).trans e151
                have e790 := (Zfr.gi fq15 t_a0 (by decide)).trans e152
                have e791 := (Zfr.gr fq15 t_a0 (by decide)).trans e153
                have e792 := (Zfr.gr fq15 t_a0 (by decide)).trans e154
                have e793 := (Zfr.ai fq15 tw_2 (by decide)).trans e155
                have e794 := (Zfr.ai fq15 tw_3 (by decide)).trans e156
                have e795 := (Zfr.gr fq15 t_a0 (by decide)).trans h0Zkdq10
                have e796 := (Zfr.ai fq15 tkkq10 (by decide)).trans h1Zkdq10
                have k797 := GtP_fr k157 fq15 t_a0 Wq10 (by decide)
                have sc799 : Sc q10.2 q15 a0 (1) (0) := by
                  obtain ⟨yf2, yt2, z0y, z1y, x0y, x1y, x2y, x3y, x4y, x5y⟩ := pbZSq15
                  exact Sc_mk h0ZScq10 z0y e141 z1y e142 ((Zfr.gi (ci := 12) fq15 t_a0 (by decide)).trans e142) (by omega)
                have k798 := WyN_fr k158 fq15 t_a0 Wq10 (by decide) sc799
                have k800 := TbI_fr k160 fq15 t_a0 Wq10 (by decide) sc799
                have k801 := TbC_fr k161 fq15 t_a0 Wq10 (by decide) sc799
                have k802 := TkN_fr k162 fq15 t_a0 Wq10 (by decide)
                have k803 := PB_sc k163 fq15 t_a0 Wq10 (by decide) sc799 (by omega)
                have k804 := TpK_fr k164 fq15 t_a0 Wq10 (by decide)
                have F805 := Zfr.tr F165 fq15 (by decide)
                obtain ⟨bf2q15, bt2q15, h0ZSq15, h1ZSq15, r0ZSq15, r1ZSq15, r2ZSq15, r3ZSq15, r4ZSq15, r5ZSq15⟩ := pbZSq15
                refine wb e792 ?_
                obtain ⟨c18, ec18, Wc18, fc18, gc18⟩ := pa_116 Wq15 tw_3 (i := a1) (by omega) (by omega) (x := 5) (trivial)
                refine wb ec18 ?_
                have e806 := (Zfr.gi fc18 t_a0 (by decide)).trans e779
                have e807 := (Zfr.gi fc18 t_a0 (by decide)).trans e780
                have e808 := (Zfr.gi fc18 t_a0 (by decide)).trans e781
                have e809 := (Zfr.gr fc18 t_a0 (by decide)).trans e782
                have e810 := (Zfr.ai fc18 tqw_1 (by decide)).trans e783
                have e811 := (Zfr.gr fc18 t_a0 (by decide)).trans e784
                have e812 := (Zfr.gr fc18 t_a0 (by decide)).trans e785
                have e813 := (Zfr.gr fc18 t_a0 (by decide)).trans e786
                have e814 := (Zfr.ai fc18 tks0 (by decide)).trans e787
                have e815 := (Zfr.ai fc18 tkl0 (by decide)).trans e788
                have e816 := (Zfr.ai fc18 tkw0 (by decide)).trans e789
                have e817 := (Zfr.gi fc18 t_a0 (by decide)).trans e790
                have e818 := (Zfr.gr fc18 t_a0 (by decide)).trans e791
                have e819 := (Zfr.gr fc18 t_a0 (by decide)).trans e792
                have e820 := (Zfr.ai fc18 tw_2 (by decide)).trans e793
                have e821 := (Zfr.gr fc18 t_a0 (by decide)).trans e795
                have e822 := (Zfr.ai fc18 tkkq10 (by decide)).trans e796
                have e823 := (Zfr.gi fc18 t_a0 (by decide)).trans h0ZSq15
                have e824 := (Zfr.gi fc18 t_a0 (by decide)).trans h1ZSq15
                have k825 := GtP_fr k797 fc18 t_a0 Wq15 (by decide)
                have sc827 := Sc_fr fc18 t_a0 (by decide) (by decide) (by decide)
                have k826 := WyN_fr k798 fc18 t_a0 Wq15 (by decide) sc827
                have k828 := TbI_fr k800 fc18 t_a0 Wq15 (by decide) sc827
                have k829 := TbC_fr k801 fc18 t_a0 Wq15 (by decide) sc827
                have k830 := TkN_fr k802 fc18 t_a0 Wq15 (by decide)
                have k831 := PB_w68 k803 Wq15 t_a0 fc18 e792 ec18 rfl
                have k832 := TpK_w68 k804 Wq15 t_a0 fc18 e792 ec18 rfl
                have F833 := Zfr.tr F805 fc18 (by decide)
                refine wb e818 ?_
                obtain ⟨c20, ec20, Wc20, fc20, gc20⟩ := pa_115 Wc18 tw_2 (i := a1) (by omega) (by omega) (x := 2) (trivial)
                refine wb ec20 ?_
                have e834 := (Zfr.gi fc20 t_a0 (by decide)).trans e806
                have e835 := (Zfr.gi fc20 t_a0 (by decide)).trans e807
                have e836 := (Zfr.gi fc20 t_a0 (by decide)).trans e808
                have e837 := (Zfr.gr fc20 t_a0 (by decide)).trans e809
                have e838 := (Zfr.ai fc20 tqw_1 (by decide)).trans e810
                have e839 := (Zfr.gr fc20 t_a0 (by decide)).trans e811
                have e840 := (Zfr.gr fc20 t_a0 (by decide)).trans e812
                have e841 := (Zfr.gr fc20 t_a0 (by decide)).trans e813
                have e842 := (Zfr.ai fc20 tks0 (by decide)).trans e814
                have e843 := (Zfr.ai fc20 tkl0 (by decide)).trans e815
                have e844 := (Zfr.ai fc20 tkw0 (by decide)).trans e816
                have e845 := (Zfr.gi fc20 t_a0 (by decide)).trans e817
                have e846 := (Zfr.gr fc20 t_a0 (by decide)).trans e818
                have e847 := (Zfr.gr fc20 t_a0 (by decide)).trans e819
                have e848 := (Zfr.gr fc20 t_a0 (by decide)).trans e821
                have e849 := (Zfr.ai fc20 tkkq10 (by decide)).trans e822
                have e850 := (Zfr.gi fc20 t_a0 (by decide)).trans e823
                have e851 := (Zfr.gi fc20 t_a0 (by decide)).trans e824
                have e852 := (Zfr.ai fc20 tw_3 (by decide)).trans gc18
                have k853 := GtP_fr k825 fc20 t_a0 Wc18 (by decide)
                have sc855 := Sc_fr fc20 t_a0 (by decide) (by decide) (by decide)
                have k854 := WyN_fr k826 fc20 t_a0 Wc18 (by decide) sc855
                have k856 := TbI_fr k828 fc20 t_a0 Wc18 (by decide) sc855
                have k857 := TbC_fr k829 fc20 t_a0 Wc18 (by decide) sc855
                have k858 := TkN_fr k830 fc20 t_a0 Wc18 (by decide)
                have k859 := PB_w67 k831 Wc18 t_a0 fc20 e818 ec20 rfl
                have k860 := TpK_w67 k832 Wc18 t_a0 fc20 e818 ec20 rfl
                have F861 := Zfr.tr F833 fc20 (by decide)
                refine wi (fun hq862 => ?_) (fun hq862 => ?_)
                · have hq862 := i_eq hq862
                  unfold f_Mo_reckoned_159
                  obtain ⟨w23, ew23⟩ := go_64 Wc20 t_a0
                  refine wb ew23 ?_
                  obtain ⟨q22, eq22, Wq22, fq22, po0q22⟩ := p_Mo_frame hn Wc20 (a1 := 5) t_a0 (by omega) (by omega) e836
                  refine wb eq22 ?_
                  have e864 := (Zfr.gi fq22 t_a0 (by decide)).trans e834
                  have e865 := (Zfr.gi fq22 t_a0 (by decide)).trans e835
                  have e866 := (Zfr.gr fq22 t_a0 (by decide)).trans e837
                  have e867 := (Zfr.gr fq22 t_a0 (by decide)).trans e839
                  have e868 := (Zfr.gr fq22 t_a0 (by decide)).trans e840
                  have e869 := (Zfr.gr fq22 t_a0 (by decide)).trans e841
                  have e870 := (Zfr.ai fq22 tks0 (by decide)).trans e842
                  have e871 := (Zfr.ai fq22 tkl0 (by decide)).trans e843
                  have e872 := (Zfr.ai fq22 tkw0 (by decide)).trans e844
                  have e873 := (Zfr.gi fq22 t_a0 (by decide)).trans e845
                  have e874 := (Zfr.gr fq22 t_a0 (by decide)).trans e846
                  have e875 := (Zfr.gr fq22 t_a0 (by decide)).trans e847
                  have e876 := (Zfr.gr fq22 t_a0 (by decide)).trans e848
                  have e877 := (Zfr.ai fq22 tkkq10 (by decide)).trans e849
                  have e878 := (Zfr.gi fq22 t_a0 (by decide)).trans e850
                  have e879 := (Zfr.gi fq22 t_a0 (by decide)).trans e851
                  have k880 := GtP_fr k853 fq22 t_a0 Wc20 (by decide)
                  have sc882 := Sc_fr fq22 t_a0 (by decide) (by decide) (by decide)
                  have k881 := WyN_fr k854 fq22 t_a0 Wc20 (by decide) sc882
                  have k883 := TbI_fr k856 fq22 t_a0 Wc20 (by decide) sc882
                  have k884 := TbC_fr k857 fq22 t_a0 Wc20 (by decide) sc882
                  have k885 := TkN_fr k858 fq22 t_a0 Wc20 (by decide)
                  have k886 := PI_push k859 k860 (psJ (by omega) (by omega) (by omega) (by omega) (by omega)) (by omega) (by omega) (fun y_ => two_i (by omega)) e850 e851 (by omega) fq22 t_a0 Wc20 po0q22 e836 (by omega)
                  have F888 := Zfr.tr F861 fq22 (by decide)
                  exact ⟨_, rfl, Wq22, F888, ⟨bf2q15, bt2q15, dv, bks0, bkl0, bkw0, bna0, blb0, bnw0, bvn0, e864, e878, e879, e865, e867, e868, e869, e870, e871, e872, e873, tks0, tkl0, tkw0, by (try dsimp only); omega, by (try dsimp only); omega, by (try dsimp only); omega, by (try dsimp only); omega, by (try dsimp only); omega, by (try dsimp only); omega, by (try dsimp only); omega, by (try dsimp only); omega, by (try dsimp only); omega, by (try dsimp only); omega, by (try dsimp only); omega, by (try dsimp only); omega, by (try dsimp only); omega, by (try dsimp only); omega, by (try dsimp only); omega, by (try dsimp only); omega, by (try dsimp only); omega, by (try dsimp only); omega, by (try dsimp only); omega, by (try dsimp only); omega, k880, k881, k883, k884, k885⟩, k886⟩
                · have hq862 := i_ne hq862
                  unfold f_Mo_reckoned_159
                  obtain ⟨w23, ew23⟩ := go_64 Wc20 t_a0
                  refine wb ew23 ?_
                  have := li_4
                  obtain ⟨q22, eq22, Wq22, fq22, po0q22⟩ := p_Mo_frame hn Wc20 (a1 := 4) t_a0 (by omega) (by omega) e836
                  refine wb eq22 ?_
                  have e901 := (Zfr.gi fq22 t_a0 (by decide)).trans e834
                  have e902 := (Zfr.gi fq22 t_a0 (by decide)).trans e835
                  have e903 := (Zfr.gr fq22 t_a0 (by decide)).trans e837
                  have e904 := (Zfr.gr fq22 t_a0 (by decide)).trans e839
                  have e905 := (Zfr.gr fq22 t_a0 (by decide)).trans e840
                  have e906 := (Zfr.gr fq22 t_a0 (by decide)).trans e841
                  have e907 := (Zfr.ai fq22 tks0 (by decide)).trans e842
                  have e908 := (Zfr.ai fq22 tkl0 (by decide)).trans e843
                  have e909 := (Zfr.ai fq22 tkw0 (by decide)).trans e844
                  have e910 := (Zfr.gi fq22 t_a0 (by decide)).trans e845
                  have e911 := (Zfr.gr fq22 t_a0 (by decide)).trans e846
                  have e912 := (Zfr.gr fq22 t_a0 (by decide)).trans e847
                  have e913 := (Zfr.gr fq22 t_a0 (by decide)).trans e848
                  have e914 := (Zfr.ai fq22 tkkq10 (by decide)).trans e849
                  have e915 := (Zfr.gi fq22 t_a0 (by decide)).trans e850
                  have e916 := (Zfr.gi fq22 t_a0 (by decide)).trans e851
                  have k917 := GtP_fr k853 fq22 t_a0 Wc20 (by decide)
                  have sc919 := Sc_fr fq22 t_a0 (by decide) (by decide) (by decide)
                  have k918 := WyN_fr k854 fq22 t_a0 Wc20 (by decide) sc919
                  have k920 := TbI_fr k856 fq22 t_a0 Wc20 (by decide) sc919
                  have k921 := TbC_fr k857 fq22 t_a0 Wc20 (by decide) sc919
                  have k922 := TkN_fr k858 fq22 t_a0 Wc20 (by decide)
                  have k923 := PI_push k859 k860 (psJ (by omega) (by omega) (by omega) (by omega) (by omega)) (by omega) (by omega) (fun y_ => two_i (by omega)) e850 e851 (by omega) fq22 t_a0 Wc20 po0q22 e836 (by omega)
                  have F925 := Zfr.tr F861 fq22 (by decide)
                  exact ⟨_, rfl, Wq22, F925, ⟨bf2q15, bt2q15, dv, bks0, bkl0, bkw0, bna0, blb0, bnw0, bvn0, e901, e915, e916, e902, e904, e905, e906, e907, e908, e909, e910, tks0, tkl0, tkw0, by (try dsimp only); omega, by (try dsimp only); omega, by (try dsimp only); omega, by (try dsimp only); omega, by (try dsimp only); omega, by (try dsimp only); omega, by (try dsimp only); omega, by (try dsimp only); omega, by (try dsimp only); omega, by (try dsimp only); omega, by (try dsimp only); omega, by (try dsimp only); omega, by (try dsimp only); omega, by (try dsimp only); omega, by (try dsimp only); omega, by (try dsimp only); omega, by (try dsimp only); omega, by (try dsimp only); omega, by (try dsimp only); omega, by (try dsimp only); omega, k917, k918, k920, k921, k922⟩, k923⟩
              · have := li_5
                have hq776 := i_nle hq776
                refine wb e143 ?_
                have := i_sub (a := fr) (b := 1) (by omega) (by omega)
                obtain ⟨c25, ec25, Wc25, fc25, gc25⟩ := pf_64_69 Wq10 t_a0 (x := (fr - 1)) (rgi (by omega) (by omega))
                refine wb ec25 ?_
                have e937 := (Zfr.gi fc25 t_a0 (by decide)).trans e140
                have e938 := (Zfr.gi fc25 t_a0 (by decide)).trans e141
                have e939 := (Zfr.gi fc25 t_a0 (by decide)).trans e142
                have e940 := (Zfr.gr fc25 t_a0 (by decide)).trans e144
                have e941 := (Zfr.ai fc25 tqw_1 (by decide)).trans e145
                have e942 := (Zfr.gr fc25 t_a0 (by decide)).trans e146
                have e943 := (Zfr.gr fc25 t_a0 (by decide)).trans e147
                have e944 := (Zfr.gr fc25 t_a0 (by decide)).trans e148
                have e945 := (Zfr.ai fc25 tks0 (by decide)).trans e149
                have e946 := (Zfr.ai fc25 tkl0 (by decide)).trans e150
                have e947 := (Zfr.ai fc25 tkw0 (by decide)).trans e151
                have e948 := (Zfr.gi fc25 t_a0 (by decide)).trans e152
                have e949 := (Zfr.gr fc25 t_a0 (by decide)).trans e153
                have e950 := (Zfr.gr fc25 t_a0 (by decide)).trans e154
                have e951 := (Zfr.ai fc25 tw_2 (by decide)).trans e155
                have e952 := (Zfr.ai fc25 tw_3 (by decide)).trans e156
                have e953 := (Zfr.gi fc25 t_a0 (by decide)).trans h0ZScq10
                have e954 := (Zfr.gr fc25 t_a0 (by decide)).trans h0Zkdq10
                have e955 := (Zfr.ai fc25 tkkq10 (by decide)).trans h1Zkdq10
                have k956 := GtP_fr k157 fc25 t_a0 Wq10 (by decide)
                have sc958 := Sc_fr fc25 t_a0 (by decide) (by decide) (by decide)
                have k957 := WyN_fr k158 fc25 t_a0 Wq10 (by decide) sc958
                have k959 := TbI_fr k160 fc25 t_a0 Wq10 (by decide) sc958
                have k960 := TbC_fr k161 fc25 t_a0 Wq10 (by decide) sc958
                have k961 := TkN_fr k162 fc25 t_a0 Wq10 (by decide)
                have k962 := PB_s0 k163 fc25 t_a0 Wq10 (by decide) sc958
                have k963 := TpK_fr k164 fc25 t_a0 Wq10 (by decide)
                have F964 := Zfr.tr F165 fc25 (by decide)
                exact ⟨_, rfl, Wc25, F964, ⟨bf2q10, tv, dv, bks0, bkl0, bkw0, bna0, blb0, bnw0, bvn0, e937, e953, e938, e939, e942, e943, e944, e945, e946, e947, e948, tks0, tkl0, tkw0, by (try dsimp only); omega, by (try dsimp only); omega, by (try dsimp only); omega, by (try dsimp only); omega, by (try dsimp only); omega, by (try dsimp only); omega, by (try dsimp only); omega, by (try dsimp only); omega, by (try dsimp only); omega, by (try dsimp only); omega, by (try dsimp only); omega, by (try dsimp only); omega, by (try dsimp only); omega, by (try dsimp only); omega, by (try dsimp only); omega, by (try dsimp only); omega, by (try dsimp only); omega, by (try dsimp only); omega, by (try dsimp only); omega, by (try dsimp only); omega, k956, k957, k959, k960, k961⟩, PI_pop k962 (by omega) (by omega) (by omega) (by omega) gc25 (by omega) (by omega)⟩
            · have := li_45
              have hq775 := i_ne hq775
              unfold f_Mo_reckoned_112
              refine wi (fun hq978 => ?_) (fun hq978 => ?_)
              · have := li_m1
                have hq978 := i_le hq978
                obtain ⟨w16, ew16⟩ := go_64 Wq10 t_a0
                refine wb ew16 ?_
                obtain ⟨q15, eq15, Wq15, fq15, pbZSq15⟩ := p_Mo_pass hn Wq10  t_a0 (by omega) (by omega) (by omega) (by omega) h0ZScq10 e141
                refine wb eq15 ?_
                have e981 := (Zfr.gi fq15 t_a0 (by decide)).trans e140
                have e982 := (Zfr.gi fq15 t_a0 (by decide)).trans e142
                have e983 := (Zfr.gi fq15 t_a0 (by decide)).trans e143
                have e984 := (Zfr.gr fq15 t_a0 (by decide)).trans e144
                have e985 := (Zfr.ai fq15 tqw_1 (by decide)).trans e145
                have e986 := (Zfr.gr fq15 t_a0 (by decide)).trans e146
                have e987 := (Zfr.gr fq15 t_a0 (by decide)).trans e147
                have e988 := (Zfr.gr fq15 t_a0 (by decide)).trans e148
                have e989 := (Zfr.ai fq15 tks0 (by decide)).trans e149
                have e990 := (Zfr.ai fq15 tkl0 (by decide)).trans e150
                have e991 := (Zfr.ai fq15 tkw0 (by decide)).trans e151
                have e992 := (Zfr.gi fq15 t_a0 (by decide)).trans e152
                have e993 := (Zfr.gr fq15 t_a0 (by decide)).trans e153
                have e994 := (Zfr.gr fq15 t_a0 (by decide)).trans e154
                have e995 := (Zfr.ai fq15 tw_2 (by decide)).trans e155
                have e996 := (Zfr.ai fq15 tw_3 (by decide)).trans e156
                have e997 := (Zfr.gr fq15 t_a0 (by decide)).trans h0Zkdq10
                have e998 := (Zfr.ai fq15 tkkq10 (by decide)).trans h1Zkdq10
                have k999 := GtP_fr k157 fq15 t_a0 Wq10 (by decide)
                have sc1001 : Sc q10.2 q15 a0 (1) (0) := by
                  obtain ⟨yf2, yt2, z0y, z1y, x0y, x1y, x2y, x3y, x4y, x5y⟩ := pbZSq15
                  exact Sc_mk h0ZScq10 z0y e141 z1y e142 ((Zfr.gi (ci := 12) fq15 t_a0 (by decide)).trans e142) (by omega)
                have k1000 := WyN_fr k158 fq15 t_a0 Wq10 (by decide) sc1001
                have k1002 := TbI_fr k160 fq15 t_a0 Wq10 (by decide) sc1001
                have k1003 := TbC_fr k161 fq15 t_a0 Wq10 (by decide) sc1001
                have k1004 := TkN_fr k162 fq15 t_a0 Wq10 (by decide)
                have k1005 := PB_sc k163 fq15 t_a0 Wq10 (by decide) sc1001 (by omega)
                have k1006 := TpK_fr k164 fq15 t_a0 Wq10 (by decide)
                have F1007 := Zfr.tr F165 fq15 (by decide)
                obtain ⟨bf2q15, bt2q15, h0ZSq15, h1ZSq15, r0ZSq15, r1ZSq15, r2ZSq15, r3ZSq15, r4ZSq15, r5ZSq15⟩ := pbZSq15
                refine wb e994 ?_
                obtain ⟨c18, ec18, Wc18, fc18, gc18⟩ := pa_116 Wq15 tw_3 (i := a1) (by omega) (by omega) (x := (-1)) (trivial)
                refine wb ec18 ?_
                have e1008 := (Zfr.gi fc18 t_a0 (by decide)).trans e981
                have e1009 := (Zfr.gi fc18 t_a0 (by decide)).trans e982
                have e1010 := (Zfr.gi fc18 t_a0 (by decide)).trans e983
                have e1011 := (Zfr.gr fc18 t_a0 (by decide)).trans e984
                have e1012 := (Zfr.ai fc18 tqw_1 (by decide)).trans e985
                have e1013 := (Zfr.gr fc18 t_a0 (by decide)).trans e986
                have e1014 := (Zfr.gr fc18 t_a0 (by decide)).trans e987
                have e1015 := (Zfr.gr fc18 t_a0 (by decide)).trans e988
                have e1016 := (Zfr.ai fc18 tks0 (by decide)).trans e989
                have e1017 := (Zfr.ai fc18 tkl0 (by decide)).trans e990
                have e1018 := (Zfr.ai fc18 tkw0 (by decide)).trans e991
                have e1019 := (Zfr.gi fc18 t_a0 (by decide)).trans e992
                have e1020 := (Zfr.gr fc18 t_a0 (by decide)).trans e993
                have e1021 := (Zfr.gr fc18 t_a0 (by decide)).trans e994
                have e1022 := (Zfr.ai fc18 tw_2 (by decide)).trans e995
                have e1023 := (Zfr.gr fc18 t_a0 (by decide)).trans e997
                have e1024 := (Zfr.ai fc18 tkkq10 (by decide)).trans e998
                have e1025 := (Zfr.gi fc18 t_a0 (by decide)).trans h0ZSq15
                have e1026 := (Zfr.gi fc18 t_a0 (by decide)).trans h1ZSq15
                have k1027 := GtP_fr k999 fc18 t_a0 Wq15 (by decide)
                have sc1029 := Sc_fr fc18 t_a0 (by decide) (by decide) (by decide)
                have k1028 := WyN_fr k1000 fc18 t_a0 Wq15 (by decide) sc1029
                have k1030 := TbI_fr k1002 fc18 t_a0 Wq15 (by decide) sc1029
                have k1031 := TbC_fr k1003 fc18 t_a0 Wq15 (by decide) sc1029
                have k1032 := TkN_fr k1004 fc18 t_a0 Wq15 (by decide)
                have k1033 := PB_w68 k1005 Wq15 t_a0 fc18 e994 ec18 rfl
                have k1034 := TpK_w68 k1006 Wq15 t_a0 fc18 e994 ec18 rfl
                have F1035 := Zfr.tr F1007 fc18 (by decide)
                refine wb e1020 ?_
                obtain ⟨c20, ec20, Wc20, fc20, gc20⟩ := pa_115 Wc18 tw_2 (i := a1) (by omega) (by omega) (x := 2) (trivial)
                refine wb ec20 ?_
                have e1036 := (Zfr.gi fc20 t_a0 (by decide)).trans e1008
                have e1037 := (Zfr.gi fc20 t_a0 (by decide)).trans e1009
                have e1038 := (Zfr.gi fc20 t_a0 (by decide)).trans e1010
                have e1039 := (Zfr.gr fc20 t_a0 (by decide)).trans e1011
                have e1040 := (Zfr.ai fc20 tqw_1 (by decide)).trans e1012
                have e1041 := (Zfr.gr fc20 t_a0 (by decide)).trans e1013
                have e1042 := (Zfr.gr fc20 t_a0 (by decide)).trans e1014
                have e1043 := (Zfr.gr fc20 t_a0 (by decide)).trans e1015
                have e1044 := (Zfr.ai fc20 tks0 (by decide)).trans e1016
                have e1045 := (Zfr.ai fc20 tkl0 (by decide)).trans e1017
                have e1046 := (Zfr.ai fc20 tkw0 (by decide)).trans e1018
                have e1047 := (Zfr.gi fc20 t_a0 (by decide)).trans e1019
                have e1048 := (Zfr.gr fc20 t_a0 (by decide)).trans e1020
                have e1049 := (Zfr.gr fc20 t_a0 (by decide)).trans e1021
                have e1050 := (Zfr.gr fc20 t_a0 (by decide)).trans e1023
                have e1051 := (Zfr.ai fc20 tkkq10 (by decide)).trans e1024
                have e1052 := (Zfr.gi fc20 t_a0 (by decide)).trans e1025
                have e1053 := (Zfr.gi fc20 t_a0 (by decide)).trans e1026
                have e1054 := (Zfr.ai fc20 tw_3 (by decide)).trans gc18
                have k1055 := GtP_fr k1027 fc20 t_a0 Wc18 (by decide)
                have sc1057 := Sc_fr fc20 t_a0 (by decide) (by decide) (by decide)
                have k1056 := WyN_fr k1028 fc20 t_a0 Wc18 (by decide) sc1057
                have k1058 := TbI_fr k1030 fc20 t_a0 Wc18 (by decide) sc1057
                have k1059 := TbC_fr k1031 fc20 t_a0 Wc18 (by decide) sc1057
                have k1060 := TkN_fr k1032 fc20 t_a0 Wc18 (by decide)
                have k1061 := PB_w67 k1033 Wc18 t_a0 fc20 e1020 ec20 rfl
                have k1062 := TpK_w67 k1034 Wc18 t_a0 fc20 e1020 ec20 rfl
                have F1063 := Zfr.tr F1035 fc20 (by decide)
                refine wi (fun hq1064 => ?_) (fun hq1064 => ?_)
                · have hq1064 := i_eq hq1064
                  unfold f_Mo_reckoned_159
                  obtain ⟨w23, ew23⟩ := go_64 Wc20 t_a0
                  refine wb ew23 ?_
                  have := li_5
                  obtain ⟨q22, eq22, Wq22, fq22, po0q22⟩ := p_Mo_frame hn Wc20 (a1 := 5) t_a0 (by omega) (by omega) e1038
                  refine wb eq22 ?_
                  have e1066 := (Zfr.gi fq22 t_a0 (by decide)).trans e1036
                  have e1067 := (Zfr.gi fq22 t_a0 (by decide)).trans e1037
                  have e1068 := (Zfr.gr fq22 t_a0 (by decide)).trans e1039
                  have e1069 := (Zfr.gr fq22 t_a0 (by decide)).trans e1041
                  have e1070 := (Zfr.gr fq22 t_a0 (by decide)).trans e1042
                  have e1071 := (Zfr.gr fq22 t_a0 (by decide)).trans e1043
                  have e1072 := (Zfr.ai fq22 tks0 (by decide)).trans e1044
                  have e1073 := (Zfr.ai fq22 tkl0 (by decide)).trans e1045
                  have e1074 := (Zfr.ai fq22 tkw0 (by decide)).trans e1046
                  have e1075 := (Zfr.gi fq22 t_a0 (by decide)).trans e1047
                  have e1076 := (Zfr.gr fq22 t_a0 (by decide)).trans e1048
                  have e1077 := (Zfr.gr fq22 t_a0 (by decide)).trans e1049
                  have e1078 := (Zfr.gr fq22 t_a0 (by decide)).trans e1050
                  have e1079 := (Zfr.ai fq22 tkkq10 (by decide)).trans e1051
                  have e1080 := (Zfr.gi fq22 t_a0 (by decide)).trans e1052
                  have e1081 := (Zfr.gi fq22 t_a0 (by decide)).trans e1053
                  have k1082 := GtP_fr k1055 fq22 t_a0 Wc20 (by decide)
                  have sc1084 := Sc_fr fq22 t_a0 (by decide) (by decide) (by decide)
                  have k1083 := WyN_fr k1056 fq22 t_a0 Wc20 (by decide) sc1084
                  have k1085 := TbI_fr k1058 fq22 t_a0 Wc20 (by decide) sc1084
                  have k1086 := TbC_fr k1059 fq22 t_a0 Wc20 (by decide) sc1084
                  have k1087 := TkN_fr k1060 fq22 t_a0 Wc20 (by decide)
                  have k1088 := PI_push k1061 k1062 (psJ (by omega) (by omega) (by omega) (by omega) (by omega)) (by omega) (by omega) (fun y_ => two_i (by omega)) e1052 e1053 (by omega) fq22 t_a0 Wc20 po0q22 e1038 (by omega)
                  have F1090 := Zfr.tr F1063 fq22 (by decide)
                  exact ⟨_, rfl, Wq22, F1090, ⟨bf2q15, bt2q15, dv, bks0, bkl0, bkw0, bna0, blb0, bnw0, bvn0, e1066, e1080, e1081, e1067, e1069, e1070, e1071, e1072, e1073, e1074, e1075, tks0, tkl0, tkw0, by (try dsimp only); omega, by (try dsimp only); omega, by (try dsimp only); omega, by (try dsimp only); omega, by (try dsimp only); omega, by (try dsimp only); omega, by (try dsimp only); omega, by (try dsimp only); omega, by (try dsimp only); omega, by (try dsimp only); omega, by (try dsimp only); omega, by (try dsimp only); omega, by (try dsimp only); omega, by (try dsimp only); omega, by (try dsimp only); omega, by (try dsimp only); omega, by (try dsimp only); omega, by (try dsimp only); omega, by (try dsimp only); omega, by (try dsimp only); omega, k1082, k1083, k1085, k1086, k1087⟩, k1088⟩
                · have hq1064 := i_ne hq1064
                  unfold f_Mo_reckoned_159
                  obtain ⟨w23, ew23⟩ := go_64 Wc20 t_a0
                  refine wb ew23 ?_
                  have := li_4
                  obtain ⟨q22, eq22, Wq22, fq22, po0q22⟩ := p_Mo_frame hn Wc20 (a1 := 4) t_a0 (by omega) (by omega) e1038
                  refine wb eq22 ?_
                  have e1103 := (Zfr.gi fq22 t_a0 (by decide)).trans e1036
                  have e1104 := (Zfr.gi fq22 t_a0 (by decide)).trans e1037
                  have e1105 := (Zfr.gr fq22 t_a0 (by decide)).trans e1039
                  have e1106 := (Zfr.gr fq22 t_a0 (by decide)).trans e1041
                  have e1107 := (Zfr.gr fq22 t_a0 (by decide)).trans e1042
                  have e1108 := (Zfr.gr fq22 t_a0 (by decide)).trans e1043
                  have e1109 := (Zfr.ai fq22 tks0 (by decide)).trans e1044
                  have e1110 := (Zfr.ai fq22 tkl0 (by decide)).trans e1045
                  have e1111 := (Zfr.ai fq22 tkw0 (by decide)).trans e1046
                  have e1112 := (Zfr.gi fq22 t_a0 (by decide)).trans e1047
                  have e1113 := (Zfr.gr fq22 t_a0 (by decide)).trans e1048
                  have e1114 := (Zfr.gr fq22 t_a0 (by decide)).trans e1049
                  have e1115 := (Zfr.gr fq22 t_a0 (by decide)).trans e1050
                  have e1116 := (Zfr.ai fq22 tkkq10 (by decide)).trans e1051
                  have e1117 := (Zfr.gi fq22 t_a0 (by decide)).trans e1052
                  have e1118 := (Zfr.gi fq22 t_a0 (by decide)).trans e1053
                  have k1119 := GtP_fr k1055 fq22 t_a0 Wc20 (by decide)
                  have sc1121 := Sc_fr fq22 t_a0 (by decide) (by decide) (by decide)
                  have k1120 := WyN_fr k1056 fq22 t_a0 Wc20 (by decide) sc1121
                  have k1122 := TbI_fr k1058 fq22 t_a0 Wc20 (by decide) sc1121
                  have k1123 := TbC_fr k1059 fq22 t_a0 Wc20 (by decide) sc1121
                  have k1124 := TkN_fr k1060 fq22 t_a0 Wc20 (by decide)
                  have k1125 := PI_push k1061 k1062 (psJ (by omega) (by omega) (by omega) (by omega) (by omega)) (by omega) (by omega) (fun y_ => two_i (by omega)) e1052 e1053 (by omega) fq22 t_a0 Wc20 po0q22 e1038 (by omega)
                  have F1127 := Zfr.tr F1063 fq22 (by decide)
                  exact ⟨_, rfl, Wq22, F1127, ⟨bf2q15, bt2q15, dv, bks0, bkl0, bkw0, bna0, blb0, bnw0, bvn0, e1103, e1117, e1118, e1104, e1106, e1107, e1108, e1109, e1110, e1111, e1112, tks0, tkl0, tkw0, by (try dsimp only); omega, by (try dsimp only); omega, by (try dsimp only); omega, by (try dsimp only); omega, by (try dsimp only); omega, by (try dsimp only); omega, by (try dsimp only); omega, by (try dsimp only); omega, by (try dsimp only); omega, by (try dsimp only); omega, by (try dsimp only); omega, by (try dsimp only); omega, by (try dsimp only); omega, by (try dsimp only); omega, by (try dsimp only); omega, by (try dsimp only); omega, by (try dsimp only); omega, by (try dsimp only); omega, by (try dsimp only); omega, by (try dsimp only); omega, k1119, k1120, k1122, k1123, k1124⟩, k1125⟩
              · have := li_m1
                have hq978 := i_nle hq978
                refine wb e143 ?_
                have := i_sub (a := fr) (b := 1) (by omega) (by omega)
                obtain ⟨c25, ec25, Wc25, fc25, gc25⟩ := pf_64_69 Wq10 t_a0 (x := (fr - 1)) (rgi (by omega) (by omega))
                refine wb ec25 ?_
                have e1139 := (Zfr.gi fc25 t_a0 (by decide)).trans e140
                have e1140 := (Zfr.gi fc25 t_a0 (by decide)).trans e141
                have e1141 := (Zfr.gi fc25 t_a0 (by decide)).trans e142
                have e1142 := (Zfr.gr fc25 t_a0 (by decide)).trans e144
                have e1143 := (Zfr.ai fc25 tqw_1 (by decide)).trans e145
                have e1144 := (Zfr.gr fc25 t_a0 (by decide)).trans e146
                have e1145 := (Zfr.gr fc25 t_a0 (by decide)).trans e147
                have e1146 := (Zfr.gr fc25 t_a0 (by decide)).trans e148
                have e1147 := (Zfr.ai fc25 tks0 (by decide)).trans e149
                have e1148 := (Zfr.ai fc25 tkl0 (by decide)).trans e150
                have e1149 := (Zfr.ai fc25 tkw0 (by decide)).trans e151
                have e1150 := (Zfr.gi fc25 t_a0 (by decide)).trans e152
                have e1151 := (Zfr.gr fc25 t_a0 (by decide)).trans e153
                have e1152 := (Zfr.gr fc25 t_a0 (by decide)).trans e154
                have e1153 := (Zfr.ai fc25 tw_2 (by decide)).trans e155
                have e1154 := (Zfr.ai fc25 tw_3 (by decide)).trans e156
                have e1155 := (Zfr.gi fc25 t_a0 (by decide)).trans h0ZScq10
                have e1156 := (Zfr.gr fc25 t_a0 (by decide)).trans h0Zkdq10
                have e1157 := (Zfr.ai fc25 tkkq10 (by decide)).trans h1Zkdq10
                have k1158 := GtP_fr k157 fc25 t_a0 Wq10 (by decide)
                have sc1160 := Sc_fr fc25 t_a0 (by decide) (by decide) (by decide)
                have k1159 := WyN_fr k158 fc25 t_a0 Wq10 (by decide) sc1160
                have k1161 := TbI_fr k160 fc25 t_a0 Wq10 (by decide) sc1160
                have k1162 := TbC_fr k161 fc25 t_a0 Wq10 (by decide) sc1160
                have k1163 := TkN_fr k162 fc25 t_a0 Wq10 (by decide)
                have k1164 := PB_s0 k163 fc25 t_a0 Wq10 (by decide) sc1160
                have k1165 := TpK_fr k164 fc25 t_a0 Wq10 (by decide)
                have F1166 := Zfr.tr F165 fc25 (by decide)
                exact ⟨_, rfl, Wc25, F1166, ⟨bf2q10, tv, dv, bks0, bkl0, bkw0, bna0, blb0, bnw0, bvn0, e1139, e1155, e1140, e1141, e1144, e1145, e1146, e1147, e1148, e1149, e1150, tks0, tkl0, tkw0, by (try dsimp only); omega, by (try dsimp only); omega, by (try dsimp only); omega, by (try dsimp only); omega, by (try dsimp only); omega, by (try dsimp only); omega, by (try dsimp only); omega, by (try dsimp only); omega, by (try dsimp only); omega, by (try dsimp only); omega, by (try dsimp only); omega, by (try dsimp only); omega, by (try dsimp only); omega, by (try dsimp only); omega, by (try dsimp only); omega, by (try dsimp only); omega, by (try dsimp only); omega, by (try dsimp only); omega, by (try dsimp only); omega, by (try dsimp only); omega, k1158, k1159, k1161, k1162, k1163⟩, PI_pop k1164 (by omega) (by omega) (by omega) (by omega) gc25 (by omega) (by omega)⟩
      · have := li_2
        have hq105 := i_ne hq105
        unfold f_Mo_reckoned_67
        obtain ⟨w11, ew11⟩ := go_64 W t_a0
        refine wb ew11 ?_
        obtain ⟨q10, eq10, Wq10, fq10, pbZScq10, pbZkdq10⟩ := p_Mo_kind hn W  t_a0 (by omega) (by omega) (by omega) (by omega) h1ZV0 h2ZV0
        refine wb eq10 ?_
        have e1182 := (Zfr.gi fq10 t_a0 (by decide)).trans h0ZV0
        have e1183 := (Zfr.gi fq10 t_a0 (by decide)).trans h2ZV0
        have e1184 := (Zfr.gi fq10 t_a0 (by decide)).trans h3ZV0
        have e1185 := (Zfr.gi fq10 t_a0 (by decide)).trans eh_fr
        have e1186 := (Zfr.gr fq10 t_a0 (by decide)).trans eh_ksr
        have e1187 := (Zfr.ai fq10 tqw_1 (by decide)).trans eh_sv
        have e1188 := (Zfr.gr fq10 t_a0 (by decide)).trans h4ZV0
        have e1189 := (Zfr.gr fq10 t_a0 (by decide)).trans h5ZV0
        have e1190 := (Zfr.gr fq10 t_a0 (by decide)).trans h6ZV0
        have e1191 := (Zfr.ai fq10 tks0 (by decide)).trans h7ZV0
        have e1192 := (Zfr.ai fq10 tkl0 (by decide)).trans h8ZV0
        have e1193 := (Zfr.ai fq10 tkw0 (by decide)).trans h9ZV0
        have e1194 := (Zfr.gi fq10 t_a0 (by decide)).trans h10ZV0
        have e1195 := (Zfr.gr fq10 t_a0 (by decide)).trans ew_2
        have e1196 := (Zfr.gr fq10 t_a0 (by decide)).trans ew_3
        have e1197 := (Zfr.ai fq10 tw_2 (by decide)).trans ew_4
        have e1198 := (Zfr.ai fq10 tw_3 (by decide)).trans ew_5
        have k1199 := GtP_fr k0ZV0 fq10 t_a0 W (by decide)
        have sc1201 : Sc c q10.2 a0 (0) (0) := by
          obtain ⟨yf2, z0y, x0y, x1y, x2y, x3y⟩ := pbZScq10
          exact Sc_mk h1ZV0 z0y h2ZV0 ((Zfr.gi (ci := 12) fq10 t_a0 (by decide)).trans h2ZV0) h3ZV0 ((Zfr.gi (ci := 12) fq10 t_a0 (by decide)).trans h3ZV0) (by omega)
        have k1200 := WyN_fr k1ZV0 fq10 t_a0 W (by decide) sc1201
        have k1202 := TbI_fr k2ZV0 fq10 t_a0 W (by decide) sc1201
        have k1203 := TbC_fr k3ZV0 fq10 t_a0 W (by decide) sc1201
        have k1204 := TkN_fr k4ZV0 fq10 t_a0 W (by decide)
        have k1205 := PB_s0 pbh fq10 t_a0 W (by decide) sc1201
        have k1206 := TpK_fr tph fq10 t_a0 W (by decide)
        have F1207 := Zfr.tr F0 fq10 (by decide)
        obtain ⟨bf2q10, h0ZScq10, r0ZScq10, r1ZScq10, r2ZScq10, r3ZScq10⟩ := pbZScq10
        obtain ⟨bkkq10, h0Zkdq10, h1Zkdq10, tkkq10⟩ := pbZkdq10
        refine wi (fun hq1208 => ?_) (fun hq1208 => ?_)
        · have := li_1
          have hq1208 := i_eq hq1208
          refine wi (fun hq1209 => ?_) (fun hq1209 => ?_)
          · have := li_42
            have := i_ge q10.1
            have := i_up q10.1
            have hq1209 := i_eq hq1209
            unfold f_Mo_reckoned_112
            refine wi (fun hq1210 => ?_) (fun hq1210 => ?_)
            · have := li_6
              have hq1210 := i_le hq1210
              obtain ⟨w16, ew16⟩ := go_64 Wq10 t_a0
              refine wb ew16 ?_
              obtain ⟨q15, eq15, Wq15, fq15, pbZSq15⟩ := p_Mo_pass hn Wq10  t_a0 (by omega) (by omega) (by omega) (by omega) h0ZScq10 e1183
              refine wb eq15 ?_
              have e1213 := (Zfr.gi fq15 t_a0 (by decide)).trans e1182
              have e1214 := (Zfr.gi fq15 t_a0 (by decide)).trans e1184
              have e1215 := (Zfr.gi fq15 t_a0 (by decide)).trans e1185
              have e1216 := (Zfr.gr fq15 t_a0 (by decide)).trans e1186
              have e1217 := (Zfr.ai fq15 tqw_1 (by decide)).trans e1187
              have e1218 := (Zfr.gr fq15 t_a0 (by decide)).trans e1188
              have e1219 := (Zfr.gr fq15 t_a0 (by decide)).trans e1189
              have e1220 := (Zfr.gr fq15 t_a0 (by decide)).trans e1190
              have e1221 := (Zfr.ai fq15 tks0 (by decide)).trans e1191
              have e1222 := (Zfr.ai fq15 tkl0 (by decide)).trans e1192
              have e1223 := (Zfr.ai fq15 tkw0 (by decide)).trans e1193
              have e1224 := (Zfr.gi fq15 t_a0 (by decide)).trans e1194
              have e1225 := (Zfr.gr fq15 t_a0 (by decide)).trans e1195
              have e1226 := (Zfr.gr fq15 t_a0 (by decide)).trans e1196
              have e1227 := (Zfr.ai fq15 tw_2 (by decide)).trans e1197
              have e1228 := (Zfr.ai fq15 tw_3 (by decide)).trans e1198
              have e1229 := (Zfr.gr fq15 t_a0 (by decide)).trans h0Zkdq10
              have e1230 := (Zfr.ai fq15 tkkq10 (by decide)).trans h1Zkdq10
              have k1231 := GtP_fr k1199 fq15 t_a0 Wq10 (by decide)
              have sc1233 : Sc q10.2 q15 a0 (1) (0) := by
                obtain ⟨yf2, yt2, z0y, z1y, x0y, x1y, x2y, x3y, x4y, x5y⟩ := pbZSq15
                exact Sc_mk h0ZScq10 z0y e1183 z1y e1184 ((Zfr.gi (ci := 12) fq15 t_a0 (by decide)).trans e1184) (by omega)
              have k1232 := WyN_fr k1200 fq15 t_a0 Wq10 (by decide) sc1233
              have k1234 := TbI_fr k1202 fq15 t_a0 Wq10 (by decide) sc1233
              have k1235 := TbC_fr k1203 fq15 t_a0 Wq10 (by decide) sc1233
              have k1236 := TkN_fr k1204 fq15 t_a0 Wq10 (by decide)
              have k1237 := PB_sc k1205 fq15 t_a0 Wq10 (by decide) sc1233 (by omega)
              have k1238 := TpK_fr k1206 fq15 t_a0 Wq10 (by decide)
              have F1239 := Zfr.tr F1207 fq15 (by decide)
              obtain ⟨bf2q15, bt2q15, h0ZSq15, h1ZSq15, r0ZSq15, r1ZSq15, r2ZSq15, r3ZSq15, r4ZSq15, r5ZSq15⟩ := pbZSq15
              refine wb e1226 ?_
              obtain ⟨c18, ec18, Wc18, fc18, gc18⟩ := pa_116 Wq15 tw_3 (i := a1) (by omega) (by omega) (x := 6) (trivial)
              refine wb ec18 ?_
              have e1240 := (Zfr.gi fc18 t_a0 (by decide)).trans e1213
              have e1241 := (Zfr.gi fc18 t_a0 (by decide)).trans e1214
              have e1242 := (Zfr.gi fc18 t_a0 (by decide)).trans e1215
              have e1243 := (Zfr.gr fc18 t_a0 (by decide)).trans e1216
              have e1244 := (Zfr.ai fc18 tqw_1 (by decide)).trans e1217
              have e1245 := (Zfr.gr fc18 t_a0 (by decide)).trans e1218
              have e1246 := (Zfr.gr fc18 t_a0 (by decide)).trans e1219
              have e1247 := (Zfr.gr fc18 t_a0 (by decide)).trans e1220
              have e1248 := (Zfr.ai fc18 tks0 (by decide)).trans e1221
              have e1249 := (Zfr.ai fc18 tkl0 (by decide)).trans e1222
              have e1250 := (Zfr.ai fc18 tkw0 (by decide)).trans e1223
              have e1251 := (Zfr.gi fc18 t_a0 (by decide)).trans e1224
              have e1252 := (Zfr.gr fc18 t_a0 (by decide)).trans e1225
              have e1253 := (Zfr.gr fc18 t_a0 (by decide)).trans e1226
              have e1254 := (Zfr.ai fc18 tw_2 (by decide)).trans e1227
              have e1255 := (Zfr.gr fc18 t_a0 (by decide)).trans e1229
              have e1256 := (Zfr.ai fc18 tkkq10 (by decide)).trans e1230
              have e1257 := (Zfr.gi fc18 t_a0 (by decide)).trans h0ZSq15
              have e1258 := (Zfr.gi fc18 t_a0 (by decide)).trans h1ZSq15
              have k1259 := GtP_fr k1231 fc18 t_a0 Wq15 (by decide)
              have sc1261 := Sc_fr fc18 t_a0 (by decide) (by decide) (by decide)
              have k1260 := WyN_fr k1232 fc18 t_a0 Wq15 (by decide) sc1261
              have k1262 := TbI_fr k1234 fc18 t_a0 Wq15 (by decide) sc1261
              have k1263 := TbC_fr k1235 fc18 t_a0 Wq15 (by decide) sc1261
              have k1264 := TkN_fr k1236 fc18 t_a0 Wq15 (by decide)
              have k1265 := PB_w68 k1237 Wq15 t_a0 fc18 e1226 ec18 rfl
              have k1266 := TpK_w68 k1238 Wq15 t_a0 fc18 e1226 ec18 rfl
              have F1267 := Zfr.tr F1239 fc18 (by decide)
              refine wb e1252 ?_
              obtain ⟨c20, ec20, Wc20, fc20, gc20⟩ := pa_115 Wc18 tw_2 (i := a1) (by omega) (by omega) (x := 2) (trivial)
              refine wb ec20 ?_
              have e1268 := (Zfr.gi fc20 t_a0 (by decide)).trans e1240
              have e1269 := (Zfr.gi fc20 t_a0 (by decide)).trans e1241
              have e1270 := (Zfr.gi fc20 t_a0 (by decide)).trans e1242
              have e1271 := (Zfr.gr fc20 t_a0 (by decide)).trans e1243
              have e1272 := (Zfr.ai fc20 tqw_1 (by decide)).trans e1244
              have e1273 := (Zfr.gr fc20 t_a0 (by decide)).trans e1245
              have e1274 := (Zfr.gr fc20 t_a0 (by decide)).trans e1246
              have e1275 := (Zfr.gr fc20 t_a0 (by decide)).trans e1247
              have e1276 := (Zfr.ai fc20 tks0 (by decide)).trans e1248
              have e1277 := (Zfr.ai fc20 tkl0 (by decide)).trans e1249
              have e1278 := (Zfr.ai fc20 tkw0 (by decide)).trans e1250
              have e1279 := (Zfr.gi fc20 t_a0 (by decide)).trans e1251
              have e1280 := (Zfr.gr fc20 t_a0 (by decide)).trans e1252
              have e1281 := (Zfr.gr fc20 t_a0 (by decide)).trans e1253
              have e1282 := (Zfr.gr fc20 t_a0 (by decide)).trans e1255
              have e1283 := (Zfr.ai fc20 tkkq10 (by decide)).trans e1256
              have e1284 := (Zfr.gi fc20 t_a0 (by decide)).trans e1257
              have e1285 := (Zfr.gi fc20 t_a0 (by decide)).trans e1258
              have e1286 := (Zfr.ai fc20 tw_3 (by decide)).trans gc18
              have k1287 := GtP_fr k1259 fc20 t_a0 Wc18 (by decide)
              have sc1289 := Sc_fr fc20 t_a0 (by decide) (by decide) (by decide)
              have k1288 := WyN_fr k1260 fc20 t_a0 Wc18 (by decide) sc1289
              have k1290 := TbI_fr k1262 fc20 t_a0 Wc18 (by decide) sc1289
              have k1291 := TbC_fr k1263 fc20 t_a0 Wc18 (by decide) sc1289
              have k1292 := TkN_fr k1264 fc20 t_a0 Wc18 (by decide)
              have k1293 := PB_w67 k1265 Wc18 t_a0 fc20 e1252 ec20 rfl
              have k1294 := TpK_w67 k1266 Wc18 t_a0 fc20 e1252 ec20 rfl
              have F1295 := Zfr.tr F1267 fc20 (by decide)
              refine wi (fun hq1296 => ?_) (fun hq1296 => ?_)
              · have hq1296 := i_eq hq1296
                unfold f_Mo_reckoned_159
                obtain ⟨w23, ew23⟩ := go_64 Wc20 t_a0
                refine wb ew23 ?_
                have := li_5
                obtain ⟨q22, eq22, Wq22, fq22, po0q22⟩ := p_Mo_frame hn Wc20 (a1 := 5) t_a0 (by omega) (by omega) e1270
                refine wb eq22 ?_
                have e1298 := (Zfr.gi fq22 t_a0 (by decide)).trans e1268
                have e1299 := (Zfr.gi fq22 t_a0 (by decide)).trans e1269
                have e1300 := (Zfr.gr fq22 t_a0 (by decide)).trans e1271
                have e1301 := (Zfr.gr fq22 t_a0 (by decide)).trans e1273
                have e1302 := (Zfr.gr fq22 t_a0 (by decide)).trans e1274
                have e1303 := (Zfr.gr fq22 t_a0 (by decide)).trans e1275
                have e1304 := (Zfr.ai fq22 tks0 (by decide)).trans e1276
                have e1305 := (Zfr.ai fq22 tkl0 (by decide)).trans e1277
                have e1306 := (Zfr.ai fq22 tkw0 (by decide)).trans e1278
                have e1307 := (Zfr.gi fq22 t_a0 (by decide)).trans e1279
                have e1308 := (Zfr.gr fq22 t_a0 (by decide)).trans e1280
                have e1309 := (Zfr.gr fq22 t_a0 (by decide)).trans e1281
                have e1310 := (Zfr.gr fq22 t_a0 (by decide)).trans e1282
                have e1311 := (Zfr.ai fq22 tkkq10 (by decide)).trans e1283
                have e1312 := (Zfr.gi fq22 t_a0 (by decide)).trans e1284
                have e1313 := (Zfr.gi fq22 t_a0 (by decide)).trans e1285
                have k1314 := GtP_fr k1287 fq22 t_a0 Wc20 (by decide)
                have sc1316 := Sc_fr fq22 t_a0 (by decide) (by decide) (by decide)
                have k1315 := WyN_fr k1288 fq22 t_a0 Wc20 (by decide) sc1316
                have k1317 := TbI_fr k1290 fq22 t_a0 Wc20 (by decide) sc1316
                have k1318 := TbC_fr k1291 fq22 t_a0 Wc20 (by decide) sc1316
                have k1319 := TkN_fr k1292 fq22 t_a0 Wc20 (by decide)
                have k1320 := PI_push k1293 k1294 (psJ (by omega) (by omega) (by omega) (by omega) (by omega)) (by omega) (by omega) (fun y_ => two_i (by omega)) e1284 e1285 (by omega) fq22 t_a0 Wc20 po0q22 e1270 (by omega)
                have F1322 := Zfr.tr F1295 fq22 (by decide)
                exact ⟨_, rfl, Wq22, F1322, ⟨bf2q15, bt2q15, dv, bks0, bkl0, bkw0, bna0, blb0, bnw0, bvn0, e1298, e1312, e1313, e1299, e1301, e1302, e1303, e1304, e1305, e1306, e1307, tks0, tkl0, tkw0, by (try dsimp only); omega, by (try dsimp only); omega, by (try dsimp only); omega, by (try dsimp only); omega, by (try dsimp only); omega, by (try dsimp only); omega, by (try dsimp only); omega, by (try dsimp only); omega, by (try dsimp only); omega, by (try dsimp only); omega, by (try dsimp only); omega, by (try dsimp only); omega, by (try dsimp only); omega, by (try dsimp only); omega, by (try dsimp only); omega, by (try dsimp only); omega, by (try dsimp only); omega, by (try dsimp only); omega, by (try dsimp only); omega, by (try dsimp only); omega, k1314, k1315, k1317, k1318, k1319⟩, k1320⟩
              · have hq1296 := i_ne hq1296
                unfold f_Mo_reckoned_159
                obtain ⟨w23, ew23⟩ := go_64 Wc20 t_a0
                refine wb ew23 ?_
                have := li_4
                obtain ⟨q22, eq22, Wq22, fq22, po0q22⟩ := p_Mo_frame hn Wc20 (a1 := 4) t_a0 (by omega) (by omega) e1270
                refine wb eq22 ?_
                have e1335 := (Zfr.gi fq22 t_a0 (by decide)).trans e1268
                have e1336 := (Zfr.gi fq22 t_a0 (by decide)).trans e1269
                have e1337 := (Zfr.gr fq22 t_a0 (by decide)).trans e1271
                have e1338 := (Zfr.gr fq22 t_a0 (by decide)).trans e1273
                have e1339 := (Zfr.gr fq22 t_a0 (by decide)).trans e1274
                have e1340 := (Zfr.gr fq22 t_a0 (by decide)).trans e1275
                have e1341 := (Zfr.ai fq22 tks0 (by decide)).trans e1276
                have e1342 := (Zfr.ai fq22 tkl0 (by decide)).trans e1277
                have e1343 := (Zfr.ai fq22 tkw0 (by decide)).trans e1278
                have e1344 := (Zfr.gi fq22 t_a0 (by decide)).trans e1279
                have e1345 := (Zfr.gr fq22 t_a0 (by decide)).trans e1280
                have e1346 := (Zfr.gr fq22 t_a0 (by decide)).trans e1281
                have e1347 := (Zfr.gr fq22 t_a0 (by decide)).trans e1282
                have e1348 := (Zfr.ai fq22 tkkq10 (by decide)).trans e1283
                have e1349 := (Zfr.gi fq22 t_a0 (by decide)).trans e1284
                have e1350 := (Zfr.gi fq22 t_a0 (by decide)).trans e1285
                have k1351 := GtP_fr k1287 fq22 t_a0 Wc20 (by decide)
                have sc1353 := Sc_fr fq22 t_a0 (by decide) (by decide) (by decide)
                have k1352 := WyN_fr k1288 fq22 t_a0 Wc20 (by decide) sc1353
                have k1354 := TbI_fr k1290 fq22 t_a0 Wc20 (by decide) sc1353
                have k1355 := TbC_fr k1291 fq22 t_a0 Wc20 (by decide) sc1353
                have k1356 := TkN_fr k1292 fq22 t_a0 Wc20 (by decide)
                have k1357 := PI_push k1293 k1294 (psJ (by omega) (by omega) (by omega) (by omega) (by omega)) (by omega) (by omega) (fun y_ => two_i (by omega)) e1284 e1285 (by omega) fq22 t_a0 Wc20 po0q22 e1270 (by omega)
                have F1359 := Zfr.tr F1295 fq22 (by decide)
                exact ⟨_, rfl, Wq22, F1359, ⟨bf2q15, bt2q15, dv, bks0, bkl0, bkw0, bna0, blb0, bnw0, bvn0, e1335, e1349, e1350, e1336, e1338, e1339, e1340, e1341, e1342, e1343, e1344, tks0, tkl0, tkw0, by (try dsimp only); omega, by (try dsimp only); omega, by (try dsimp only); omega, by (try dsimp only); omega, by (try dsimp only); omega, by (try dsimp only); omega, by (try dsimp only); omega, by (try dsimp only); omega, by (try dsimp only); omega, by (try dsimp only); omega, by (try dsimp only); omega, by (try dsimp only); omega, by (try dsimp only); omega, by (try dsimp only); omega, by (try dsimp only); omega, by (try dsimp only); omega, by (try dsimp only); omega, by (try dsimp only); omega, by (try dsimp only); omega, by (try dsimp only); omega, k1351, k1352, k1354, k1355, k1356⟩, k1357⟩
            · have := li_6
              have hq1210 := i_nle hq1210
              refine wb e1185 ?_
              have := i_sub (a := fr) (b := 1) (by omega) (by omega)
              obtain ⟨c25, ec25, Wc25, fc25, gc25⟩ := pf_64_69 Wq10 t_a0 (x := (fr - 1)) (rgi (by omega) (by omega))
              refine wb ec25 ?_
              have e1371 := (Zfr.gi fc25 t_a0 (by decide)).trans e1182
              have e1372 := (Zfr.gi fc25 t_a0 (by decide)).trans e1183
              have e1373 := (Zfr.gi fc25 t_a0 (by decide)).trans e1184
              have e1374 := (Zfr.gr fc25 t_a0 (by decide)).trans e1186
              have e1375 := (Zfr.ai fc25 tqw_1 (by decide)).trans e1187
              have e1376 := (Zfr.gr fc25 t_a0 (by decide)).trans e1188
              have e1377 := (Zfr.gr fc25 t_a0 (by decide)).trans e1189
              have e1378 := (Zfr.gr fc25 t_a0 (by decide)).trans e1190
              have e1379 := (Zfr.ai fc25 tks0 (by decide)).trans e1191
              have e1380 := (Zfr.ai fc25 tkl0 (by decide)).trans e1192
              have e1381 := (Zfr.ai fc25 tkw0 (by decide)).trans e1193
              have e1382 := (Zfr.gi fc25 t_a0 (by decide)).trans e1194
              have e1383 := (Zfr.gr fc25 t_a0 (by decide)).trans e1195
              have e1384 := (Zfr.gr fc25 t_a0 (by decide)).trans e1196
              have e1385 := (Zfr.ai fc25 tw_2 (by decide)).trans e1197
              have e1386 := (Zfr.ai fc25 tw_3 (by decide)).trans e1198
              have e1387 := (Zfr.gi fc25 t_a0 (by decide)).trans h0ZScq10
              have e1388 := (Zfr.gr fc25 t_a0 (by decide)).trans h0Zkdq10
              have e1389 := (Zfr.ai fc25 tkkq10 (by decide)).trans h1Zkdq10
              have k1390 := GtP_fr k1199 fc25 t_a0 Wq10 (by decide)
              have sc1392 := Sc_fr fc25 t_a0 (by decide) (by decide) (by decide)
              have k1391 := WyN_fr k1200 fc25 t_a0 Wq10 (by decide) sc1392
              have k1393 := TbI_fr k1202 fc25 t_a0 Wq10 (by decide) sc1392
              have k1394 := TbC_fr k1203 fc25 t_a0 Wq10 (by decide) sc1392
              have k1395 := TkN_fr k1204 fc25 t_a0 Wq10 (by decide)
              have k1396 := PB_s0 k1205 fc25 t_a0 Wq10 (by decide) sc1392
              have k1397 := TpK_fr k1206 fc25 t_a0 Wq10 (by decide)
              have F1398 := Zfr.tr F1207 fc25 (by decide)
              exact ⟨_, rfl, Wc25, F1398, ⟨bf2q10, tv, dv, bks0, bkl0, bkw0, bna0, blb0, bnw0, bvn0, e1371, e1387, e1372, e1373, e1376, e1377, e1378, e1379, e1380, e1381, e1382, tks0, tkl0, tkw0, by (try dsimp only); omega, by (try dsimp only); omega, by (try dsimp only); omega, by (try dsimp only); omega, by (try dsimp only); omega, by (try dsimp only); omega, by (try dsimp only); omega, by (try dsimp only); omega, by (try dsimp only); omega, by (try dsimp only); omega, by (try dsimp only); omega, by (try dsimp only); omega, by (try dsimp only); omega, by (try dsimp only); omega, by (try dsimp only); omega, by (try dsimp only); omega, by (try dsimp only); omega, by (try dsimp only); omega, by (try dsimp only); omega, by (try dsimp only); omega, k1390, k1391, k1393, k1394, k1395⟩, PI_pop k1396 (by omega) (by omega) (by omega) (by omega) gc25 (by omega) (by omega)⟩
          · have := li_42
            have := i_ge q10.1
            have := i_up q10.1
            have hq1209 := i_ne hq1209
            unfold f_Mo_reckoned_112
            refine wi (fun hq1412 => ?_) (fun hq1412 => ?_)
            · have := li_m1
              have hq1412 := i_le hq1412
              obtain ⟨w16, ew16⟩ := go_64 Wq10 t_a0
              refine wb ew16 ?_
              obtain ⟨q15, eq15, Wq15, fq15, pbZSq15⟩ := p_Mo_pass hn Wq10  t_a0 (by omega) (by omega) (by omega) (by omega) h0ZScq10 e1183
              refine wb eq15 ?_
              have e1415 := (Zfr.gi fq15 t_a0 (by decide)).trans e1182
              have e1416 := (Zfr.gi fq15 t_a0 (by decide)).trans e1184
              have e1417 := (Zfr.gi fq15 t_a0 (by decide)).trans e1185
              have e1418 := (Zfr.gr fq15 t_a0 (by decide)).trans e1186
              have e1419 := (Zfr.ai fq15 tqw_1 (by decide)).trans e1187
              have e1420 := (Zfr.gr fq15 t_a0 (by decide)).trans e1188
              have e1421 := (Zfr.gr fq15 t_a0 (by decide)).trans e1189
              have e1422 := (Zfr.gr fq15 t_a0 (by decide)).trans e1190
              have e1423 := (Zfr.ai fq15 tks0 (by decide)).trans e1191
              have e1424 := (Zfr.ai fq15 tkl0 (by decide)).trans e1192
              have e1425 := (Zfr.ai fq15 tkw0 (by decide)).trans e1193
              have e1426 := (Zfr.gi fq15 t_a0 (by decide)).trans e1194
              have e1427 := (Zfr.gr fq15 t_a0 (by decide)).trans e1195
              have e1428 := (Zfr.gr fq15 t_a0 (by decide)).trans e1196
              have e1429 := (Zfr.ai fq15 tw_2 (by decide)).trans e1197
              have e1430 := (Zfr.ai fq15 tw_3 (by decide)).trans e1198
              have e1431 := (Zfr.gr fq15 t_a0 (by decide)).trans h0Zkdq10
              have e1432 := (Zfr.ai fq15 tkkq10 (by decide)).trans h1Zkdq10
              have k1433 := GtP_fr k1199 fq15 t_a0 Wq10 (by decide)
              have sc1435 : Sc q10.2 q15 a0 (1) (0) := by
                obtain ⟨yf2, yt2, z0y, z1y, x0y, x1y, x2y, x3y, x4y, x5y⟩ := pbZSq15
                exact Sc_mk h0ZScq10 z0y e1183 z1y e1184 ((Zfr.gi (ci := 12) fq15 t_a0 (by decide)).trans e1184) (by omega)
              have k1434 := WyN_fr k1200 fq15 t_a0 Wq10 (by decide) sc1435
              have k1436 := TbI_fr k1202 fq15 t_a0 Wq10 (by decide) sc1435
              have k1437 := TbC_fr k1203 fq15 t_a0 Wq10 (by decide) sc1435
              have k1438 := TkN_fr k1204 fq15 t_a0 Wq10 (by decide)
              have k1439 := PB_sc k1205 fq15 t_a0 Wq10 (by decide) sc1435 (by omega)
              have k1440 := TpK_fr k1206 fq15 t_a0 Wq10 (by decide)
              have F1441 := Zfr.tr F1207 fq15 (by decide)
              obtain ⟨bf2q15, bt2q15, h0ZSq15, h1ZSq15, r0ZSq15, r1ZSq15, r2ZSq15, r3ZSq15, r4ZSq15, r5ZSq15⟩ := pbZSq15
              refine wb e1428 ?_
              obtain ⟨c18, ec18, Wc18, fc18, gc18⟩ := pa_116 Wq15 tw_3 (i := a1) (by omega) (by omega) (x := (-1)) (trivial)
              refine wb ec18 ?_
              have e1442 := (Zfr.gi fc18 t_a0 (by decide)).trans e1415
              have e1443 := (Zfr.gi fc18 t_a0 (by decide)).trans e1416
              have e1444 := (Zfr.gi fc18 t_a0 (by decide)).trans e1417
              have e1445 := (Zfr.gr fc18 t_a0 (by decide)).trans e1418
              have e1446 := (Zfr.ai fc18 tqw_1 (by decide)).trans e1419
              have e1447 := (Zfr.gr fc18 t_a0 (by decide)).trans e1420
              have e1448 := (Zfr.gr fc18 t_a0 (by decide)).trans e1421
              have e1449 := (Zfr.gr fc18 t_a0 (by decide)).trans e1422
              have e1450 := (Zfr.ai fc18 tks0 (by decide)).trans e1423
              have e1451 := (Zfr.ai fc18 tkl0 (by decide)).trans e1424
              have e1452 := (Zfr.ai fc18 tkw0 (by decide)).trans e1425
              have e1453 := (Zfr.gi fc18 t_a0 (by decide)).trans e1426
              have e1454 := (Zfr.gr fc18 t_a0 (by decide)).trans e1427
              have e1455 := (Zfr.gr fc18 t_a0 (by decide)).trans e1428
              have e1456 := (Zfr.ai fc18 tw_2 (by decide)).trans e1429
              have e1457 := (Zfr.gr fc18 t_a0 (by decide)).trans e1431
              have e1458 := (Zfr.ai fc18 tkkq10 (by decide)).trans e1432
              have e1459 := (Zfr.gi fc18 t_a0 (by decide)).trans h0ZSq15
              have e1460 := (Zfr.gi fc18 t_a0 (by decide)).trans h1ZSq15
              have k1461 := GtP_fr k1433 fc18 t_a0 Wq15 (by decide)
              have sc1463 := Sc_fr fc18 t_a0 (by decide) (by decide) (by decide)
              have k1462 := WyN_fr k1434 fc18 t_a0 Wq15 (by decide) sc1463
              have k1464 := TbI_fr k1436 fc18 t_a0 Wq15 (by decide) sc1463
              have k1465 := TbC_fr k1437 fc18 t_a0 Wq15 (by decide) sc1463
              have k1466 := TkN_fr k1438 fc18 t_a0 Wq15 (by decide)
              have k1467 := PB_w68 k1439 Wq15 t_a0 fc18 e1428 ec18 rfl
              have k1468 := TpK_w68 k1440 Wq15 t_a0 fc18 e1428 ec18 rfl
              have F1469 := Zfr.tr F1441 fc18 (by decide)
              refine wb e1454 ?_
              obtain ⟨c20, ec20, Wc20, fc20, gc20⟩ := pa_115 Wc18 tw_2 (i := a1) (by omega) (by omega) (x := 2) (trivial)
              refine wb ec20 ?_
              have e1470 := (Zfr.gi fc20 t_a0 (by decide)).trans e1442
              have e1471 := (Zfr.gi fc20 t_a0 (by decide)).trans e1443
              have e1472 := (Zfr.gi fc20 t_a0 (by decide)).trans e1444
              have e1473 := (Zfr.gr fc20 t_a0 (by decide)).trans e1445
              have e1474 := (Zfr.ai fc20 tqw_1 (by decide)).trans e1446
              have e1475 := (Zfr.gr fc20 t_a0 (by decide)).trans e1447
              have e1476 := (Zfr.gr fc20 t_a0 (by decide)).trans e1448
              have e1477 := (Zfr.gr fc20 t_a0 (by decide)).trans e1449
              have e1478 := (Zfr.ai fc20 tks0 (by decide)).trans e1450
              have e1479 := (Zfr.ai fc20 tkl0 (by decide)).trans e1451
              have e1480 := (Zfr.ai fc20 tkw0 (by decide)).trans e1452
              have e1481 := (Zfr.gi fc20 t_a0 (by decide)).trans e1453
              have e1482 := (Zfr.gr fc20 t_a0 (by decide)).trans e1454
              have e1483 := (Zfr.gr fc20 t_a0 (by decide)).trans e1455
              have e1484 := (Zfr.gr fc20 t_a0 (by decide)).trans e1457
              have e1485 := (Zfr.ai fc20 tkkq10 (by decide)).trans e1458
              have e1486 := (Zfr.gi fc20 t_a0 (by decide)).trans e1459
              have e1487 := (Zfr.gi fc20 t_a0 (by decide)).trans e1460
              have e1488 := (Zfr.ai fc20 tw_3 (by decide)).trans gc18
              have k1489 := GtP_fr k1461 fc20 t_a0 Wc18 (by decide)
              have sc1491 := Sc_fr fc20 t_a0 (by decide) (by decide) (by decide)
              have k1490 := WyN_fr k1462 fc20 t_a0 Wc18 (by decide) sc1491
              have k1492 := TbI_fr k1464 fc20 t_a0 Wc18 (by decide) sc1491
              have k1493 := TbC_fr k1465 fc20 t_a0 Wc18 (by decide) sc1491
              have k1494 := TkN_fr k1466 fc20 t_a0 Wc18 (by decide)
              have k1495 := PB_w67 k1467 Wc18 t_a0 fc20 e1454 ec20 rfl
              have k1496 := TpK_w67 k1468 Wc18 t_a0 fc20 e1454 ec20 rfl
              have F1497 := Zfr.tr F1469 fc20 (by decide)
              refine wi (fun hq1498 => ?_) (fun hq1498 => ?_)
              · have hq1498 := i_eq hq1498
                unfold f_Mo_reckoned_159
                obtain ⟨w23, ew23⟩ := go_64 Wc20 t_a0
                refine wb ew23 ?_
                have := li_5
                obtain ⟨q22, eq22, Wq22, fq22, po0q22⟩ := p_Mo_frame hn Wc20 (a1 := 5) t_a0 (by omega) (by omega) e1472
                refine wb eq22 ?_
                have e1500 := (Zfr.gi fq22 t_a0 (by decide)).trans e1470
                have e1501 := (Zfr.gi fq22 t_a0 (by decide)).trans e1471
                have e1502 := (Zfr.gr fq22 t_a0 (by decide)).trans e1473
                have e1503 := (Zfr.gr fq22 t_a0 (by decide)).trans e1475
                have e1504 := (Zfr.gr fq22 t_a0 (by decide)).trans e1476
                have e1505 := (Zfr.gr fq22 t_a0 (by decide)).trans e1477
                have e1506 := (Zfr.ai fq22 tks0 (by decide)).trans e1478
                have e1507 := (Zfr.ai fq22 tkl0 (by decide)).trans e1479
                have e1508 := (Zfr.ai fq22 tkw0 (by decide)).trans e1480
                have e1509 := (Zfr.gi fq22 t_a0 (by decide)).trans e1481
                have e1510 := (Zfr.gr fq22 t_a0 (by decide)).trans e1482
                have e1511 := (Zfr.gr fq22 t_a0 (by decide)).trans e1483
                have e1512 := (Zfr.gr fq22 t_a0 (by decide)).trans e1484
                have e1513 := (Zfr.ai fq22 tkkq10 (by decide)).trans e1485
                have e1514 := (Zfr.gi fq22 t_a0 (by decide)).trans e1486
                have e1515 := (Zfr.gi fq22 t_a0 (by decide)).trans e1487
                have k1516 := GtP_fr k1489 fq22 t_a0 Wc20 (by decide)
                have sc1518 := Sc_fr fq22 t_a0 (by decide) (by decide) (by decide)
                have k1517 := WyN_fr k1490 fq22 t_a0 Wc20 (by decide) sc1518
                have k1519 := TbI_fr k1492 fq22 t_a0 Wc20 (by decide) sc1518
                have k1520 := TbC_fr k1493 fq22 t_a0 Wc20 (by decide) sc1518
                have k1521 := TkN_fr k1494 fq22 t_a0 Wc20 (by decide)
                have k1522 := PI_push k1495 k1496 (psJ (by omega) (by omega) (by omega) (by omega) (by omega)) (by omega) (by omega) (fun y_ => two_i (by omega)) e1486 e1487 (by omega) fq22 t_a0 Wc20 po0q22 e1472 (by omega)
                have F1524 := Zfr.tr F1497 fq22 (by decide)
                exact ⟨_, rfl, Wq22, F1524, ⟨bf2q15, bt2q15, dv, bks0, bkl0, bkw0, bna0, blb0, bnw0, bvn0, e1500, e1514, e1515, e1501, e1503, e1504, e1505, e1506, e1507, e1508, e1509, tks0, tkl0, tkw0, by (try dsimp only); omega, by (try dsimp only); omega, by (try dsimp only); omega, by (try dsimp only); omega, by (try dsimp only); omega, by (try dsimp only); omega, by (try dsimp only); omega, by (try dsimp only); omega, by (try dsimp only); omega, by (try dsimp only); omega, by (try dsimp only); omega, by (try dsimp only); omega, by (try dsimp only); omega, by (try dsimp only); omega, by (try dsimp only); omega, by (try dsimp only); omega, by (try dsimp only); omega, by (try dsimp only); omega, by (try dsimp only); omega, by (try dsimp only); omega, k1516, k1517, k1519, k1520, k1521⟩, k1522⟩
              · have hq1498 := i_ne hq1498
                unfold f_Mo_reckoned_159
                obtain ⟨w23, ew23⟩ := go_64 Wc20 t_a0
                refine wb ew23 ?_
                have := li_4
                obtain ⟨q22, eq22, Wq22, fq22, po0q22⟩ := p_Mo_frame hn Wc20 (a1 := 4) t_a0 (by omega) (by omega) e1472
                refine wb eq22 ?_
                have e1537 := (Zfr.gi fq22 t_a0 (by decide)).trans e1470
                have e1538 := (Zfr.gi fq22 t_a0 (by decide)).trans e1471
                have e1539 := (Zfr.gr fq22 t_a0 (by decide)).trans e1473
                have e1540 := (Zfr.gr fq22 t_a0 (by decide)).trans e1475
                have e1541 := (Zfr.gr fq22 t_a0 (by decide)).trans e1476
                have e1542 := (Zfr.gr fq22 t_a0 (by decide)).trans e1477
                have e1543 := (Zfr.ai fq22 tks0 (by decide)).trans e1478
                have e1544 := (Zfr.ai fq22 tkl0 (by decide)).trans e1479
                have e1545 := (Zfr.ai fq22 tkw0 (by decide)).trans e1480
                have e1546 := (Zfr.gi fq22 t_a0 (by decide)).trans e1481
                have e1547 := (Zfr.gr fq22 t_a0 (by decide)).trans e1482
                have e1548 := (Zfr.gr fq22 t_a0 (by decide)).trans e1483
                have e1549 := (Zfr.gr fq22 t_a0 (by decide)).trans e1484
                have e1550 := (Zfr.ai fq22 tkkq10 (by decide)).trans e1485
                have e1551 := (Zfr.gi fq22 t_a0 (by decide)).trans e1486
                have e1552 := (Zfr.gi fq22 t_a0 (by decide)).trans e1487
                have k1553 := GtP_fr k1489 fq22 t_a0 Wc20 (by decide)
                have sc1555 := Sc_fr fq22 t_a0 (by decide) (by decide) (by decide)
                have k1554 := WyN_fr k1490 fq22 t_a0 Wc20 (by decide) sc1555
                have k1556 := TbI_fr k1492 fq22 t_a0 Wc20 (by decide) sc1555
                have k1557 := TbC_fr k1493 fq22 t_a0 Wc20 (by decide) sc1555
                have k1558 := TkN_fr k1494 fq22 t_a0 Wc20 (by decide)
                have k1559 := PI_push k1495 k1496 (psJ (by omega) (by omega) (by omega) (by omega) (by omega)) (by omega) (by omega) (fun y_ => two_i (by omega)) e1486 e1487 (by omega) fq22 t_a0 Wc20 po0q22 e1472 (by omega)
                have F1561 := Zfr.tr F1497 fq22 (by decide)
                exact ⟨_, rfl, Wq22, F1561, ⟨bf2q15, bt2q15, dv, bks0, bkl0, bkw0, bna0, blb0, bnw0, bvn0, e1537, e1551, e1552, e1538, e1540, e1541, e1542, e1543, e1544, e1545, e1546, tks0, tkl0, tkw0, by (try dsimp only); omega, by (try dsimp only); omega, by (try dsimp only); omega, by (try dsimp only); omega, by (try dsimp only); omega, by (try dsimp only); omega, by (try dsimp only); omega, by (try dsimp only); omega, by (try dsimp only); omega, by (try dsimp only); omega, by (try dsimp only); omega, by (try dsimp only); omega, by (try dsimp only); omega, by (try dsimp only); omega, by (try dsimp only); omega, by (try dsimp only); omega, by (try dsimp only); omega, by (try dsimp only); omega, by (try dsimp only); omega, by (try dsimp only); omega, k1553, k1554, k1556, k1557, k1558⟩, k1559⟩
            · have := li_m1
              have hq1412 := i_nle hq1412
              refine wb e1185 ?_
              have := i_sub (a := fr) (b := 1) (by omega) (by omega)
              obtain ⟨c25, ec25, Wc25, fc25, gc25⟩ := pf_64_69 Wq10 t_a0 (x := (fr - 1)) (rgi (by omega) (by omega))
              refine wb ec25 ?_
              have e1573 := (Zfr.gi fc25 t_a0 (by decide)).trans e1182
              have e1574 := (Zfr.gi fc25 t_a0 (by decide)).trans e1183
              have e1575 := (Zfr.gi fc25 t_a0 (by decide)).trans e1184
              have e1576 := (Zfr.gr fc25 t_a0 (by decide)).trans e1186
              have e1577 := (Zfr.ai fc25 tqw_1 (by decide)).trans e1187
              have e1578 := (Zfr.gr fc25 t_a0 (by decide)).trans e1188
              have e1579 := (Zfr.gr fc25 t_a0 (by decide)).trans e1189
              have e1580 := (Zfr.gr fc25 t_a0 (by decide)).trans e1190
              have e1581 := (Zfr.ai fc25 tks0 (by decide)).trans e1191
              have e1582 := (Zfr.ai fc25 tkl0 (by decide)).trans e1192
              have e1583 := (Zfr.ai fc25 tkw0 (by decide)).trans e1193
              have e1584 := (Zfr.gi fc25 t_a0 (by decide)).trans e1194
              have e1585 := (Zfr.gr fc25 t_a0 (by decide)).trans e1195
              have e1586 := (Zfr.gr fc25 t_a0 (by decide)).trans e1196
              have e1587 := (Zfr.ai fc25 tw_2 (by decide)).trans e1197
              have e1588 := (Zfr.ai fc25 tw_3 (by decide)).trans e1198
              have e1589 := (Zfr.gi fc25 t_a0 (by decide)).trans h0ZScq10
              have e1590 := (Zfr.gr fc25 t_a0 (by decide)).trans h0Zkdq10
              have e1591 := (Zfr.ai fc25 tkkq10 (by decide)).trans h1Zkdq10
              have k1592 := GtP_fr k1199 fc25 t_a0 Wq10 (by decide)
              have sc1594 := Sc_fr fc25 t_a0 (by decide) (by decide) (by decide)
              have k1593 := WyN_fr k1200 fc25 t_a0 Wq10 (by decide) sc1594
              have k1595 := TbI_fr k1202 fc25 t_a0 Wq10 (by decide) sc1594
              have k1596 := TbC_fr k1203 fc25 t_a0 Wq10 (by decide) sc1594
              have k1597 := TkN_fr k1204 fc25 t_a0 Wq10 (by decide)
              have k1598 := PB_s0 k1205 fc25 t_a0 Wq10 (by decide) sc1594
              have k1599 := TpK_fr k1206 fc25 t_a0 Wq10 (by decide)
              have F1600 := Zfr.tr F1207 fc25 (by decide)
              exact ⟨_, rfl, Wc25, F1600, ⟨bf2q10, tv, dv, bks0, bkl0, bkw0, bna0, blb0, bnw0, bvn0, e1573, e1589, e1574, e1575, e1578, e1579, e1580, e1581, e1582, e1583, e1584, tks0, tkl0, tkw0, by (try dsimp only); omega, by (try dsimp only); omega, by (try dsimp only); omega, by (try dsimp only); omega, by (try dsimp only); omega, by (try dsimp only); omega, by (try dsimp only); omega, by (try dsimp only); omega, by (try dsimp only); omega, by (try dsimp only); omega, by (try dsimp only); omega, by (try dsimp only); omega, by (try dsimp only); omega, by (try dsimp only); omega, by (try dsimp only); omega, by (try dsimp only); omega, by (try dsimp only); omega, by (try dsimp only); omega, by (try dsimp only); omega, by (try dsimp only); omega, k1592, k1593, k1595, k1596, k1597⟩, PI_pop k1598 (by omega) (by omega) (by omega) (by omega) gc25 (by omega) (by omega)⟩
        · have := li_1
          have hq1208 := i_ne hq1208
          refine wi (fun hq1614 => ?_) (fun hq1614 => ?_)
          · have := li_43
            have := i_ge q10.1
            have := i_up q10.1
            have hq1614 := i_eq hq1614
            unfold f_Mo_reckoned_112
            refine wi (fun hq1615 => ?_) (fun hq1615 => ?_)
            · have := li_4
              have hq1615 := i_le hq1615
              obtain ⟨w16, ew16⟩ := go_64 Wq10 t_a0
              refine wb ew16 ?_
              obtain ⟨q15, eq15, Wq15, fq15, pbZSq15⟩ := p_Mo_pass hn Wq10  t_a0 (by omega) (by omega) (by omega) (by omega) h0ZScq10 e1183
              refine wb eq15 ?_
              have e1618 := (Zfr.gi fq15 t_a0 (by decide)).trans e1182
              have e1619 := (Zfr.gi fq15 t_a0 (by decide)).trans e1184
              have e1620 := (Zfr.gi fq15 t_a0 (by decide)).trans e1185
              have e1621 := (Zfr.gr fq15 t_a0 (by decide)).trans e1186
              have e1622 := (Zfr.ai fq15 tqw_1 (by decide)).trans e1187
              have e1623 := (Zfr.gr fq15 t_a0 (by decide)).trans e1188
              have e1624 := (Zfr.gr fq15 t_a0 (by decide)).trans e1189
              have e1625 := (Zfr.gr fq15 t_a0 (by decide)).trans e1190
              have e1626 := (Zfr.ai fq15 tks0 (by decide)).trans e1191
              have e1627 := (Zfr.ai fq15 tkl0 (by decide)).trans e1192
              have e1628 := (Zfr.ai fq15 tkw0 (by decide)).trans e1193
              have e1629 := (Zfr.gi fq15 t_a0 (by decide)).trans e1194
              have e1630 := (Zfr.gr fq15 t_a0 (by decide)).trans e1195
              have e1631 := (Zfr.gr fq15 t_a0 (by decide)).trans e1196
              have e1632 := (Zfr.ai fq15 tw_2 (by decide)).trans e1197
              have e1633 := (Zfr.ai fq15 tw_3 (by decide)).trans e1198
              have e1634 := (Zfr.gr fq15 t_a0 (by decide)).trans h0Zkdq10
              have e1635 := (Zfr.ai fq15 tkkq10 (by decide)).trans h1Zkdq10
              have k1636 := GtP_fr k1199 fq15 t_a0 Wq10 (by decide)
              have sc1638 : Sc q10.2 q15 a0 (1) (0) := by
                obtain ⟨yf2, yt2, z0y, z1y, x0y, x1y, x2y, x3y, x4y, x5y⟩ := pbZSq15
                exact Sc_mk h0ZScq10 z0y e1183 z1y e1184 ((Zfr.gi (ci := 12) fq15 t_a0 (by decide)).trans e1184) (by omega)
              have k1637 := WyN_fr k1200 fq15 t_a0 Wq10 (by decide) sc1638
              have k1639 := TbI_fr k1202 fq15 t_a0 Wq10 (by decide) sc1638
              have k1640 := TbC_fr k1203 fq15 t_a0 Wq10 (by decide) sc1638
              have k1641 := TkN_fr k1204 fq15 t_a0 Wq10 (by decide)
              have k1642 := PB_sc k1205 fq15 t_a0 Wq10 (by decide) sc1638 (by omega)
              have k1643 := TpK_fr k1206 fq15 t_a0 Wq10 (by decide)
              have F1644 := Zfr.tr F1207 fq15 (by decide)
              obtain ⟨bf2q15, bt2q15, h0ZSq15, h1ZSq15, r0ZSq15, r1ZSq15, r2ZSq15, r3ZSq15, r4ZSq15, r5ZSq15⟩ := pbZSq15
              refine wb e1631 ?_
              obtain ⟨c18, ec18, Wc18, fc18, gc18⟩ := pa_116 Wq15 tw_3 (i := a1) (by omega) (by omega) (x := 4) (trivial)
              refine wb ec18 ?_
              have e1645 := (Zfr.gi fc18 t_a0 (by decide)).trans e1618
              have e1646 := (Zfr.gi fc18 t_a0 (by decide)).trans e1619
              have e1647 := (Zfr.gi fc18 t_a0 (by decide)).trans e1620
              have e1648 := (Zfr.gr fc18 t_a0 (by decide)).trans e1621
              have e1649 := (Zfr.ai fc18 tqw_1 (by decide)).trans e1622
              have e1650 := (Zfr.gr fc18 t_a0 (by decide)).trans e1623
              have e1651 := (Zfr.gr fc18 t_a0 (by decide)).trans e1624
              have e1652 := (Zfr.gr fc18 t_a0 (by decide)).trans e1625
              have e1653 := (Zfr.ai fc18 tks0 (by decide)).trans e1626
              have e1654 := (Zfr.ai fc18 tkl0 (by decide)).trans e1627
              have e1655 := (Zfr.ai fc18 tkw0 (by decide)).trans e1628
              have e1656 := (Zfr.gi fc18 t_a0 (by decide)).trans e1629
              have e1657 := (Zfr.gr fc18 t_a0 (by decide)).trans e1630
              have e1658 := (Zfr.gr fc18 t_a0 (by decide)).trans e1631
              have e1659 := (Zfr.ai fc18 tw_2 (by decide)).trans e1632
              have e1660 := (Zfr.gr fc18 t_a0 (by decide)).trans e1634
              have e1661 := (Zfr.ai fc18 tkkq10 (by decide)).trans e1635
              have e1662 := (Zfr.gi fc18 t_a0 (by decide)).trans h0ZSq15
              have e1663 := (Zfr.gi fc18 t_a0 (by decide)).trans h1ZSq15
              have k1664 := GtP_fr k1636 fc18 t_a0 Wq15 (by decide)
              have sc1666 := Sc_fr fc18 t_a0 (by decide) (by decide) (by decide)
              have k1665 := WyN_fr k1637 fc18 t_a0 Wq15 (by decide) sc1666
              have k1667 := TbI_fr k1639 fc18 t_a0 Wq15 (by decide) sc1666
              have k1668 := TbC_fr k1640 fc18 t_a0 Wq15 (by decide) sc1666
              have k1669 := TkN_fr k1641 fc18 t_a0 Wq15 (by decide)
              have k1670 := PB_w68 k1642 Wq15 t_a0 fc18 e1631 ec18 rfl
              have k1671 := TpK_w68 k1643 Wq15 t_a0 fc18 e1631 ec18 rfl
              have F1672 := Zfr.tr F1644 fc18 (by decide)
              refine wb e1657 ?_
              obtain ⟨c20, ec20, Wc20, fc20, gc20⟩ := pa_115 Wc18 tw_2 (i := a1) (by omega) (by omega) (x := 2) (trivial)
              refine wb ec20 ?_
              have e1673 := (Zfr.gi fc20 t_a0 (by decide)).trans e1645
              have e1674 := (Zfr.gi fc20 t_a0 (by decide)).trans e1646
              have e1675 := (Zfr.gi fc20 t_a0 (by decide)).trans e1647
              have e1676 := (Zfr.gr fc20 t_a0 (by decide)).trans e1648
              have e1677 := (Zfr.ai fc20 tqw_1 (by decide)).trans e1649
              have e1678 := (Zfr.gr fc20 t_a0 (by decide)).trans e1650
              have e1679 := (Zfr.gr fc20 t_a0 (by decide)).trans e1651
              have e1680 := (Zfr.gr fc20 t_a0 (by decide)).trans e1652
              have e1681 := (Zfr.ai fc20 tks0 (by decide)).trans e1653
              have e1682 := (Zfr.ai fc20 tkl0 (by decide)).trans e1654
              have e1683 := (Zfr.ai fc20 tkw0 (by decide)).trans e1655
              have e1684 := (Zfr.gi fc20 t_a0 (by decide)).trans e1656
              have e1685 := (Zfr.gr fc20 t_a0 (by decide)).trans e1657
              have e1686 := (Zfr.gr fc20 t_a0 (by decide)).trans e1658
              have e1687 := (Zfr.gr fc20 t_a0 (by decide)).trans e1660
              have e1688 := (Zfr.ai fc20 tkkq10 (by decide)).trans e1661
              have e1689 := (Zfr.gi fc20 t_a0 (by decide)).trans e1662
              have e1690 := (Zfr.gi fc20 t_a0 (by decide)).trans e1663
              have e1691 := (Zfr.ai fc20 tw_3 (by decide)).trans gc18
              have k1692 := GtP_fr k1664 fc20 t_a0 Wc18 (by decide)
              have sc1694 := Sc_fr fc20 t_a0 (by decide) (by decide) (by decide)
              have k1693 := WyN_fr k1665 fc20 t_a0 Wc18 (by decide) sc1694
              have k1695 := TbI_fr k1667 fc20 t_a0 Wc18 (by decide) sc1694
              have k1696 := TbC_fr k1668 fc20 t_a0 Wc18 (by decide) sc1694
              have k1697 := TkN_fr k1669 fc20 t_a0 Wc18 (by decide)
              have k1698 := PB_w67 k1670 Wc18 t_a0 fc20 e1657 ec20 rfl
              have k1699 := TpK_w67 k1671 Wc18 t_a0 fc20 e1657 ec20 rfl
              have F1700 := Zfr.tr F1672 fc20 (by decide)
              refine wi (fun hq1701 => ?_) (fun hq1701 => ?_)
              · have hq1701 := i_eq hq1701
                unfold f_Mo_reckoned_159
                obtain ⟨w23, ew23⟩ := go_64 Wc20 t_a0
                refine wb ew23 ?_
                have := li_5
                obtain ⟨q22, eq22, Wq22, fq22, po0q22⟩ := p_Mo_frame hn Wc20 (a1 := 5) t_a0 (by omega) (by omega) e1675
                refine wb eq22 ?_
                have e1703 := (Zfr.gi fq22 t_a0 (by decide)).trans e1673
                have e1704 := (Zfr.gi fq22 t_a0 (by decide)).trans e1674
                have e1705 := (Zfr.gr fq22 t_a0 (by decide)).trans e1676
                have e1706 := (Zfr.gr fq22 t_a0 (by decide)).trans e1678
                have e1707 := (Zfr.gr fq22 t_a0 (by decide)).trans e1679
                have e1708 := (Zfr.gr fq22 t_a0 (by decide)).trans e1680
                have e1709 := (Zfr.ai fq22 tks0 (by decide)).trans e1681
                have e1710 := (Zfr.ai fq22 tkl0 (by decide)).trans e1682
                have e1711 := (Zfr.ai fq22 tkw0 (by decide)).trans e1683
                have e1712 := (Zfr.gi fq22 t_a0 (by decide)).trans e1684
                have e1713 := (Zfr.gr fq22 t_a0 (by decide)).trans e1685
                have e1714 := (Zfr.gr fq22 t_a0 (by decide)).trans e1686
                have e1715 := (Zfr.gr fq22 t_a0 (by decide)).trans e1687
                have e1716 := (Zfr.ai fq22 tkkq10 (by decide)).trans e1688
                have e1717 := (Zfr.gi fq22 t_a0 (by decide)).trans e1689
                have e1718 := (Zfr.gi fq22 t_a0 (by decide)).trans e1690
                have k1719 := GtP_fr k1692 fq22 t_a0 Wc20 (by decide)
                have sc1721 := Sc_fr fq22 t_a0 (by decide) (by decide) (by decide)
                have k1720 := WyN_fr k1693 fq22 t_a0 Wc20 (by decide) sc1721
                have k1722 := TbI_fr k1695 fq22 t_a0 Wc20 (by decide) sc1721
                have k1723 := TbC_fr k1696 fq22 t_a0 Wc20 (by decide) sc1721
                have k1724 := TkN_fr k1697 fq22 t_a0 Wc20 (by decide)
                have k1725 := PI_push k1698 k1699 (psJ (by omega) (by omega) (by omega) (by omega) (by omega)) (by omega) (by omega) (fun y_ => two_i (by omega)) e1689 e1690 (by omega) fq22 t_a0 Wc20 po0q22 e1675 (by omega)
                have F1727 := Zfr.tr F1700 fq22 (by decide)
                exact ⟨_, rfl, Wq22, F1727, ⟨bf2q15, bt2q15, dv, bks0, bkl0, bkw0, bna0, blb0, bnw0, bvn0, e1703, e1717, e1718, e1704, e1706, e1707, e1708, e1709, e1710, e1711, e1712, tks0, tkl0, tkw0, by (try dsimp only); omega, by (try dsimp only); omega, by (try dsimp only); omega, by (try dsimp only); omega, by (try dsimp only); omega, by (try dsimp only); omega, by (try dsimp only); omega, by (try dsimp only); omega, by (try dsimp only); omega, by (try dsimp only); omega, by (try dsimp only); omega, by (try dsimp only); omega, by (try dsimp only); omega, by (try dsimp only); omega, by (try dsimp only); omega, by (try dsimp only); omega, by (try dsimp only); omega, by (try dsimp only); omega, by (try dsimp only); omega, by (try dsimp only); omega, k1719, k1720, k1722, k1723, k1724⟩, k1725⟩
              · have hq1701 := i_ne hq1701
                unfold f_Mo_reckoned_159
                obtain ⟨w23, ew23⟩ := go_64 Wc20 t_a0
                refine wb ew23 ?_
                obtain ⟨q22, eq22, Wq22, fq22, po0q22⟩ := p_Mo_frame hn Wc20 (a1 := 4) t_a0 (by omega) (by omega) e1675
                refine wb eq22 ?_
                have e1740 := (Zfr.gi fq22 t_a0 (by decide)).trans e1673
                have e1741 := (Zfr.gi fq22 t_a0 (by decide)).trans e1674
                have e1742 := (Zfr.gr fq22 t_a0 (by decide)).trans e1676
                have e1743 := (Zfr.gr fq22 t_a0 (by decide)).trans e1678
                have e1744 := (Zfr.gr fq22 t_a0 (by decide)).trans e1679
                have e1745 := (Zfr.gr fq22 t_a0 (by decide)).trans e1680
                have e1746 := (Zfr.ai fq22 tks0 (by decide)).trans e1681
                have e1747 := (Zfr.ai fq22 tkl0 (by decide)).trans e1682
                have e1748 := (Zfr.ai fq22 tkw0 (by decide)).trans e1683
                have e1749 := (Zfr.gi fq22 t_a0 (by decide)).trans e1684
                have e1750 := (Zfr.gr fq22 t_a0 (by decide)).trans e1685
                have e1751 := (Zfr.gr fq22 t_a0 (by decide)).trans e1686
                have e1752 := (Zfr.gr fq22 t_a0 (by decide)).trans e1687
                have e1753 := (Zfr.ai fq22 tkkq10 (by decide)).trans e1688
                have e1754 := (Zfr.gi fq22 t_a0 (by decide)).trans e1689
                have e1755 := (Zfr.gi fq22 t_a0 (by decide)).trans e1690
                have k1756 := GtP_fr k1692 fq22 t_a0 Wc20 (by decide)
                have sc1758 := Sc_fr fq22 t_a0 (by decide) (by decide) (by decide)
                have k1757 := WyN_fr k1693 fq22 t_a0 Wc20 (by decide) sc1758
                have k1759 := TbI_fr k1695 fq22 t_a0 Wc20 (by decide) sc1758
                have k1760 := TbC_fr k1696 fq22 t_a0 Wc20 (by decide) sc1758
                have k1761 := TkN_fr k1697 fq22 t_a0 Wc20 (by decide)
                have k1762 := PI_push k1698 k1699 (psJ (by omega) (by omega) (by omega) (by omega) (by omega)) (by omega) (by omega) (fun y_ => two_i (by omega)) e1689 e1690 (by omega) fq22 t_a0 Wc20 po0q22 e1675 (by omega)
                have F1764 := Zfr.tr F1700 fq22 (by decide)
                exact ⟨_, rfl, Wq22, F1764, ⟨bf2q15, bt2q15, dv, bks0, bkl0, bkw0, bna0, blb0, bnw0, bvn0, e1740, e1754, e1755, e1741, e1743, e1744, e1745, e1746, e1747, e1748, e1749, tks0, tkl0, tkw0, by (try dsimp only); omega, by (try dsimp only); omega, by (try dsimp only); omega, by (try dsimp only); omega, by (try dsimp only); omega, by (try dsimp only); omega, by (try dsimp only); omega, by (try dsimp only); omega, by (try dsimp only); omega, by (try dsimp only); omega, by (try dsimp only); omega, by (try dsimp only); omega, by (try dsimp only); omega, by (try dsimp only); omega, by (try dsimp only); omega, by (try dsimp only); omega, by (try dsimp only); omega, by (try dsimp only); omega, by (try dsimp only); omega, by (try dsimp only); omega, k1756, k1757, k1759, k1760, k1761⟩, k1762⟩
            · have := li_4
              have hq1615 := i_nle hq1615
              refine wb e1185 ?_
              have := i_sub (a := fr) (b := 1) (by omega) (by omega)
              obtain ⟨c25, ec25, Wc25, fc25, gc25⟩ := pf_64_69 Wq10 t_a0 (x := (fr - 1)) (rgi (by omega) (by omega))
              refine wb ec25 ?_
              have e1776 := (Zfr.gi fc25 t_a0 (by decide)).trans e1182
              have e1777 := (Zfr.gi fc25 t_a0 (by decide)).trans e1183
              have e1778 := (Zfr.gi fc25 t_a0 (by decide)).trans e1184
              have e1779 := (Zfr.gr fc25 t_a0 (by decide)).trans e1186
              have e1780 := (Zfr.ai fc25 tqw_1 (by decide)).trans e1187
              have e1781 := (Zfr.gr fc25 t_a0 (by decide)).trans e1188
              have e1782 := (Zfr.gr fc25 t_a0 (by decide)).trans e1189
              have e1783 := (Zfr.gr fc25 t_a0 (by decide)).trans e1190
              have e1784 := (Zfr.ai fc25 tks0 (by decide)).trans e1191
              have e1785 := (Zfr.ai fc25 tkl0 (by decide)).trans e1192
              have e1786 := (Zfr.ai fc25 tkw0 (by decide)).trans e1193
              have e1787 := (Zfr.gi fc25 t_a0 (by decide)).trans e1194
              have e1788 := (Zfr.gr fc25 t_a0 (by decide)).trans e1195
              have e1789 := (Zfr.gr fc25 t_a0 (by decide)).trans e1196
              have e1790 := (Zfr.ai fc25 tw_2 (by decide)).trans e1197
              have e1791 := (Zfr.ai fc25 tw_3 (by decide)).trans e1198
              have e1792 := (Zfr.gi fc25 t_a0 (by decide)).trans h0ZScq10
              have e1793 := (Zfr.gr fc25 t_a0 (by decide)).trans h0Zkdq10
              have e1794 := (Zfr.ai fc25 tkkq10 (by decide)).trans h1Zkdq10
              have k1795 := GtP_fr k1199 fc25 t_a0 Wq10 (by decide)
              have sc1797 := Sc_fr fc25 t_a0 (by decide) (by decide) (by decide)
              have k1796 := WyN_fr k1200 fc25 t_a0 Wq10 (by decide) sc1797
              have k1798 := TbI_fr k1202 fc25 t_a0 Wq10 (by decide) sc1797
              have k1799 := TbC_fr k1203 fc25 t_a0 Wq10 (by decide) sc1797
              have k1800 := TkN_fr k1204 fc25 t_a0 Wq10 (by decide)
              have k1801 := PB_s0 k1205 fc25 t_a0 Wq10 (by decide) sc1797
              have k1802 := TpK_fr k1206 fc25 t_a0 Wq10 (by decide)
              have F1803 := Zfr.tr F1207 fc25 (by decide)
              exact ⟨_, rfl, Wc25, F1803, ⟨bf2q10, tv, dv, bks0, bkl0, bkw0, bna0, blb0, bnw0, bvn0, e1776, e1792, e1777, e1778, e1781, e1782, e1783, e1784, e1785, e1786, e1787, tks0, tkl0, tkw0, by (try dsimp only); omega, by (try dsimp only); omega, by (try dsimp only); omega, by (try dsimp only); omega, by (try dsimp only); omega, by (try dsimp only); omega, by (try dsimp only); omega, by (try dsimp only); omega, by (try dsimp only); omega, by (try dsimp only); omega, by (try dsimp only); omega, by (try dsimp only); omega, by (try dsimp only); omega, by (try dsimp only); omega, by (try dsimp only); omega, by (try dsimp only); omega, by (try dsimp only); omega, by (try dsimp only); omega, by (try dsimp only); omega, by (try dsimp only); omega, k1795, k1796, k1798, k1799, k1800⟩, PI_pop k1801 (by omega) (by omega) (by omega) (by omega) gc25 (by omega) (by omega)⟩
          · have := li_43
            have := i_ge q10.1
            have := i_up q10.1
            have hq1614 := i_ne hq1614
            refine wi (fun hq1817 => ?_) (fun hq1817 => ?_)
            · have := li_45
              have hq1817 := i_eq hq1817
              unfold f_Mo_reckoned_112
              refine wi (fun hq1818 => ?_) (fun hq1818 => ?_)
              · have := li_5
                have hq1818 := i_le hq1818
                obtain ⟨w16, ew16⟩ := go_64 Wq10 t_a0
                refine wb ew16 ?_
                obtain ⟨q15, eq15, Wq15, fq15, pbZSq15⟩ := p_Mo_pass hn Wq10  t_a0 (by omega) (by omega) (by omega) (by omega) h0ZScq10 e1183
                refine wb eq15 ?_
                have e1821 := (Zfr.gi fq15 t_a0 (by decide)).trans e1182
                have e1822 := (Zfr.gi fq15 t_a0 (by decide)).trans e1184
                have e1823 := (Zfr.gi fq15 t_a0 (by decide)).trans e1185
                have e1824 := (Zfr.gr fq15 t_a0 (by decide)).trans e1186
                have e1825 := (Zfr.ai fq15 tqw_1 (by decide)).trans e1187
                have e1826 := (Zfr.gr fq15 t_a0 (by decide)).trans e1188
                have e1827 := (Zfr.gr fq15 t_a0 (by decide)).trans e1189
                have e1828 := (Zfr.gr fq15 t_a0 (by decide)).trans e1190
                have e1829 := (Zfr.ai fq15 tks0 (by decide)).trans e1191
                have e1830 := (Zfr.ai fq15 tkl0 (by decide)).trans e1192
                have e1831 := (Zfr.ai fq15 tkw0 (by decide)).trans e1193
                have e1832 := (Zfr.gi fq15 t_a0 (by decide)).trans e1194
                have e1833 := (Zfr.gr fq15 t_a0 (by decide)).trans e1195
                have e1834 := (Zfr.gr fq15 t_a0 (by decide)).trans e1196
                have e1835 := (Zfr.ai fq15 tw_2 (by decide)).trans e1197
                have e1836 := (Zfr.ai fq15 tw_3 (by decide)).trans e1198
                have e1837 := (Zfr.gr fq15 t_a0 (by decide)).trans h0Zkdq10
                have e1838 := (Zfr.ai fq15 tkkq10 (by decide)).trans h1Zkdq10
                have k1839 := GtP_fr k1199 fq15 t_a0 Wq10 (by decide)
                have sc1841 : Sc q10.2 q15 a0 (1) (0) := by
                  obtain ⟨yf2, yt2, z0y, z1y, x0y, x1y, x2y, x3y, x4y, x5y⟩ := pbZSq15
                  exact Sc_mk h0ZScq10 z0y e1183 z1y e1184 ((Zfr.gi (ci := 12) fq15 t_a0 (by decide)).trans e1184) (by omega)
                have k1840 := WyN_fr k1200 fq15 t_a0 Wq10 (by decide) sc1841
                have k1842 := TbI_fr k1202 fq15 t_a0 Wq10 (by decide) sc1841
                have k1843 := TbC_fr k1203 fq15 t_a0 Wq10 (by decide) sc1841
                have k1844 := TkN_fr k1204 fq15 t_a0 Wq10 (by decide)
                have k1845 := PB_sc k1205 fq15 t_a0 Wq10 (by decide) sc1841 (by omega)
                have k1846 := TpK_fr k1206 fq15 t_a0 Wq10 (by decide)
                have F1847 := Zfr.tr F1207 fq15 (by decide)
                obtain ⟨bf2q15, bt2q15, h0ZSq15, h1ZSq15, r0ZSq15, r1ZSq15, r2ZSq15, r3ZSq15, r4ZSq15, r5ZSq15⟩ := pbZSq15
                refine wb e1834 ?_
                obtain ⟨c18, ec18, Wc18, fc18, gc18⟩ := pa_116 Wq15 tw_3 (i := a1) (by omega) (by omega) (x := 5) (trivial)
                refine wb ec18 ?_
                have e1848 := (Zfr.gi fc18 t_a0 (by decide)).trans e1821
                have e1849 := (Zfr.gi fc18 t_a0 (by decide)).trans e1822
                have e1850 := (Zfr.gi fc18 t_a0 (by decide)).trans e1823
                have e1851 := (Zfr.gr fc18 t_a0 (by decide)).trans e1824
                have e1852 := (Zfr.ai fc18 tqw_1 (by decide)).trans e1825
                have e1853 := (Zfr.gr fc18 t_a0 (by decide)).trans e1826
                have e1854 := (Zfr.gr fc18 t_a0 (by decide)).trans e1827
                have e1855 := (Zfr.gr fc18 t_a0 (by decide)).trans e1828
                have e1856 := (Zfr.ai fc18 tks0 (by decide)).trans e1829
                have e1857 := (Zfr.ai fc18 tkl0 (by decide)).trans e1830
                have e1858 := (Zfr.ai fc18 tkw0 (by decide)).trans e1831
                have e1859 := (Zfr.gi fc18 t_a0 (by decide)).trans e1832
                have e1860 := (Zfr.gr fc18 t_a0 (by decide)).trans e1833
                have e1861 := (Zfr.gr fc18 t_a0 (by decide)).trans e1834
                have e1862 := (Zfr.ai fc18 tw_2 (by decide)).trans e1835
                have e1863 := (Zfr.gr fc18 t_a0 (by decide)).trans e1837
                have e1864 := (Zfr.ai fc18 tkkq10 (by decide)).trans e1838
                have e1865 := (Zfr.gi fc18 t_a0 (by decide)).trans h0ZSq15
                have e1866 := (Zfr.gi fc18 t_a0 (by decide)).trans h1ZSq15
                have k1867 := GtP_fr k1839 fc18 t_a0 Wq15 (by decide)
                have sc1869 := Sc_fr fc18 t_a0 (by decide) (by decide) (by decide)
                have k1868 := WyN_fr k1840 fc18 t_a0 Wq15 (by decide) sc1869
                have k1870 := TbI_fr k1842 fc18 t_a0 Wq15 (by decide) sc1869
                have k1871 := TbC_fr k1843 fc18 t_a0 Wq15 (by decide) sc1869
                have k1872 := TkN_fr k1844 fc18 t_a0 Wq15 (by decide)
                have k1873 := PB_w68 k1845 Wq15 t_a0 fc18 e1834 ec18 rfl
                have k1874 := TpK_w68 k1846 Wq15 t_a0 fc18 e1834 ec18 rfl
                have F1875 := Zfr.tr F1847 fc18 (by decide)
                refine wb e1860 ?_
                obtain ⟨c20, ec20, Wc20, fc20, gc20⟩ := pa_115 Wc18 tw_2 (i := a1) (by omega) (by omega) (x := 2) (trivial)
                refine wb ec20 ?_
                have e1876 := (Zfr.gi fc20 t_a0 (by decide)).trans e1848
                have e1877 := (Zfr.gi fc20 t_a0 (by decide)).trans e1849
                have e1878 := (Zfr.gi fc20 t_a0 (by decide)).trans e1850
                have e1879 := (Zfr.gr fc20 t_a0 (by decide)).trans e1851
                have e1880 := (Zfr.ai fc20 tqw_1 (by decide)).trans e1852
                have e1881 := (Zfr.gr fc20 t_a0 (by decide)).trans e1853
                have e1882 := (Zfr.gr fc20 t_a0 (by decide)).trans e1854
                have e1883 := (Zfr.gr fc20 t_a0 (by decide)).trans e1855
                have e1884 := (Zfr.ai fc20 tks0 (by decide)).trans e1856
                have e1885 := (Zfr.ai fc20 tkl0 (by decide)).trans e1857
                have e1886 := (Zfr.ai fc20 tkw0 (by decide)).trans e1858
                have e1887 := (Zfr.gi fc20 t_a0 (by decide)).trans e1859
                have e1888 := (Zfr.gr fc20 t_a0 (by decide)).trans e1860
                have e1889 := (Zfr.gr fc20 t_a0 (by decide)).trans e1861
                have e1890 := (Zfr.gr fc20 t_a0 (by decide)).trans e1863
                have e1891 := (Zfr.ai fc20 tkkq10 (by decide)).trans e1864
                have e1892 := (Zfr.gi fc20 t_a0 (by decide)).trans e1865
                have e1893 := (Zfr.gi fc20 t_a0 (by decide)).trans e1866
                have e1894 := (Zfr.ai fc20 tw_3 (by decide)).trans gc18
                have k1895 := GtP_fr k1867 fc20 t_a0 Wc18 (by decide)
                have sc1897 := Sc_fr fc20 t_a0 (by decide) (by decide) (by decide)
                have k1896 := WyN_fr k1868 fc20 t_a0 Wc18 (by decide) sc1897
                have k1898 := TbI_fr k1870 fc20 t_a0 Wc18 (by decide) sc1897
                have k1899 := TbC_fr k1871 fc20 t_a0 Wc18 (by decide) sc1897
                have k1900 := TkN_fr k1872 fc20 t_a0 Wc18 (by decide)
                have k1901 := PB_w67 k1873 Wc18 t_a0 fc20 e1860 ec20 rfl
                have k1902 := TpK_w67 k1874 Wc18 t_a0 fc20 e1860 ec20 rfl
                have F1903 := Zfr.tr F1875 fc20 (by decide)
                refine wi (fun hq1904 => ?_) (fun hq1904 => ?_)
                · have hq1904 := i_eq hq1904
                  unfold f_Mo_reckoned_159
                  obtain ⟨w23, ew23⟩ := go_64 Wc20 t_a0
                  refine wb ew23 ?_
                  obtain ⟨q22, eq22, Wq22, fq22, po0q22⟩ := p_Mo_frame hn Wc20 (a1 := 5) t_a0 (by omega) (by omega) e1878
                  refine wb eq22 ?_
                  have e1906 := (Zfr.gi fq22 t_a0 (by decide)).trans e1876
                  have e1907 := (Zfr.gi fq22 t_a0 (by decide)).trans e1877
                  have e1908 := (Zfr.gr fq22 t_a0 (by decide)).trans e1879
                  have e1909 := (Zfr.gr fq22 t_a0 (by decide)).trans e1881
                  have e1910 := (Zfr.gr fq22 t_a0 (by decide)).trans e1882
                  have e1911 := (Zfr.gr fq22 t_a0 (by decide)).trans e1883
                  have e1912 := (Zfr.ai fq22 tks0 (by decide)).trans e1884
                  have e1913 := (Zfr.ai fq22 tkl0 (by decide)).trans e1885
                  have e1914 := (Zfr.ai fq22 tkw0 (by decide)).trans e1886
                  have e1915 := (Zfr.gi fq22 t_a0 (by decide)).trans e1887
                  have e1916 := (Zfr.gr fq22 t_a0 (by decide)).trans e1888
                  have e1917 := (Zfr.gr fq22 t_a0 (by decide)).trans e1889
                  have e1918 := (Zfr.gr fq22 t_a0 (by decide)).trans e1890
                  have e1919 := (Zfr.ai fq22 tkkq10 (by decide)).trans e1891
                  have e1920 := (Zfr.gi fq22 t_a0 (by decide)).trans e1892
                  have e1921 := (Zfr.gi fq22 t_a0 (by decide)).trans e1893
                  have k1922 := GtP_fr k1895 fq22 t_a0 Wc20 (by decide)
                  have sc1924 := Sc_fr fq22 t_a0 (by decide) (by decide) (by decide)
                  have k1923 := WyN_fr k1896 fq22 t_a0 Wc20 (by decide) sc1924
                  have k1925 := TbI_fr k1898 fq22 t_a0 Wc20 (by decide) sc1924
                  have k1926 := TbC_fr k1899 fq22 t_a0 Wc20 (by decide) sc1924
                  have k1927 := TkN_fr k1900 fq22 t_a0 Wc20 (by decide)
                  have k1928 := PI_push k1901 k1902 (psJ (by omega) (by omega) (by omega) (by omega) (by omega)) (by omega) (by omega) (fun y_ => two_i (by omega)) e1892 e1893 (by omega) fq22 t_a0 Wc20 po0q22 e1878 (by omega)
                  have F1930 := Zfr.tr F1903 fq22 (by decide)
                  exact ⟨_, rfl, Wq22, F1930, ⟨bf2q15, bt2q15, dv, bks0, bkl0, bkw0, bna0, blb0, bnw0, bvn0, e1906, e1920, e1921, e1907, e1909, e1910, e1911, e1912, e1913, e1914, e1915, tks0, tkl0, tkw0, by (try dsimp only); omega, by (try dsimp only); omega, by (try dsimp only); omega, by (try dsimp only); omega, by (try dsimp only); omega, by (try dsimp only); omega, by (try dsimp only); omega, by (try dsimp only); omega, by (try dsimp only); omega, by (try dsimp only); omega, by (try dsimp only); omega, by (try dsimp only); omega, by (try dsimp only); omega, by (try dsimp only); omega, by (try dsimp only); omega, by (try dsimp only); omega, by (try dsimp only); omega, by (try dsimp only); omega, by (try dsimp only); omega, by (try dsimp only); omega, k1922, k1923, k1925, k1926, k1927⟩, k1928⟩
                · have hq1904 := i_ne hq1904
                  unfold f_Mo_reckoned_159
                  obtain ⟨w23, ew23⟩ := go_64 Wc20 t_a0
                  refine wb ew23 ?_
                  have := li_4
                  obtain ⟨q22, eq22, Wq22, fq22, po0q22⟩ := p_Mo_frame hn Wc20 (a1 := 4) t_a0 (by omega) (by omega) e1878
                  refine wb eq22 ?_
                  have e1943 := (Zfr.gi fq22 t_a0 (by decide)).trans e1876
                  have e1944 := (Zfr.gi fq22 t_a0 (by decide)).trans e1877
                  have e1945 := (Zfr.gr fq22 t_a0 (by decide)).trans e1879
                  have e1946 := (Zfr.gr fq22 t_a0 (by decide)).trans e1881
                  have e1947 := (Zfr.gr fq22 t_a0 (by decide)).trans e1882
                  have e1948 := (Zfr.gr fq22 t_a0 (by decide)).trans e1883
                  have e1949 := (Zfr.ai fq22 tks0 (by decide)).trans e1884
                  have e1950 := (Zfr.ai fq22 tkl0 (by decide)).trans e1885
                  have e1951 := (Zfr.ai fq22 tkw0 (by decide)).trans e1886
                  have e1952 := (Zfr.gi fq22 t_a0 (by decide)).trans e1887
                  have e1953 := (Zfr.gr fq22 t_a0 (by decide)).trans e1888
                  have e1954 := (Zfr.gr fq22 t_a0 (by decide)).trans e1889
                  have e1955 := (Zfr.gr fq22 t_a0 (by decide)).trans e1890
                  have e1956 := (Zfr.ai fq22 tkkq10 (by decide)).trans e1891
                  have e1957 := (Zfr.gi fq22 t_a0 (by decide)).trans e1892
                  have e1958 := (Zfr.gi fq22 t_a0 (by decide)).trans e1893
                  have k1959 := GtP_fr k1895 fq22 t_a0 Wc20 (by decide)
                  have sc1961 := Sc_fr fq22 t_a0 (by decide) (by decide) (by decide)
                  have k1960 := WyN_fr k1896 fq22 t_a0 Wc20 (by decide) sc1961
                  have k1962 := TbI_fr k1898 fq22 t_a0 Wc20 (by decide) sc1961
                  have k1963 := TbC_fr k1899 fq22 t_a0 Wc20 (by decide) sc1961
                  have k1964 := TkN_fr k1900 fq22 t_a0 Wc20 (by decide)
                  have k1965 := PI_push k1901 k1902 (psJ (by omega) (by omega) (by omega) (by omega) (by omega)) (by omega) (by omega) (fun y_ => two_i (by omega)) e1892 e1893 (by omega) fq22 t_a0 Wc20 po0q22 e1878 (by omega)
                  have F1967 := Zfr.tr F1903 fq22 (by decide)
                  exact ⟨_, rfl, Wq22, F1967, ⟨bf2q15, bt2q15, dv, bks0, bkl0, bkw0, bna0, blb0, bnw0, bvn0, e1943, e1957, e1958, e1944, e1946, e1947, e1948, e1949, e1950, e1951, e1952, tks0, tkl0, tkw0, by (try dsimp only); omega, by (try dsimp only); omega, by (try dsimp only); omega, by (try dsimp only); omega, by (try dsimp only); omega, by (try dsimp only); omega, by (try dsimp only); omega, by (try dsimp only); omega, by (try dsimp only); omega, by (try dsimp only); omega, by (try dsimp only); omega, by (try dsimp only); omega, by (try dsimp only); omega, by (try dsimp only); omega, by (try dsimp only); omega, by (try dsimp only); omega, by (try dsimp only); omega, by (try dsimp only); omega, by (try dsimp only); omega, by (try dsimp only); omega, k1959, k1960, k1962, k1963, k1964⟩, k1965⟩
              · have := li_5
                have hq1818 := i_nle hq1818
                refine wb e1185 ?_
                have := i_sub (a := fr) (b := 1) (by omega) (by omega)
                obtain ⟨c25, ec25, Wc25, fc25, gc25⟩ := pf_64_69 Wq10 t_a0 (x := (fr - 1)) (rgi (by omega) (by omega))
                refine wb ec25 ?_
                have e1979 := (Zfr.gi fc25 t_a0 (by decide)).trans e1182
                have e1980 := (Zfr.gi fc25 t_a0 (by decide)).trans e1183
                have e1981 := (Zfr.gi fc25 t_a0 (by decide)).trans e1184
                have e1982 := (Zfr.gr fc25 t_a0 (by decide)).trans e1186
                have e1983 := (Zfr.ai fc25 tqw_1 (by decide)).trans e1187
                have e1984 := (Zfr.gr fc25 t_a0 (by decide)).trans e1188
                have e1985 := (Zfr.gr fc25 t_a0 (by decide)).trans e1189
                have e1986 := (Zfr.gr fc25 t_a0 (by decide)).trans e1190
                have e1987 := (Zfr.ai fc25 tks0 (by decide)).trans e1191
                have e1988 := (Zfr.ai fc25 tkl0 (by decide)).trans e1192
                have e1989 := (Zfr.ai fc25 tkw0 (by decide)).trans e1193
                have e1990 := (Zfr.gi fc25 t_a0 (by decide)).trans e1194
                have e1991 := (Zfr.gr fc25 t_a0 (by decide)).trans e1195
                have e1992 := (Zfr.gr fc25 t_a0 (by decide)).trans e1196
                have e1993 := (Zfr.ai fc25 tw_2 (by decide)).trans e1197
                have e1994 := (Zfr.ai fc25 tw_3 (by decide)).trans e1198
                have e1995 := (Zfr.gi fc25 t_a0 (by decide)).trans h0ZScq10
                have e1996 := (Zfr.gr fc25 t_a0 (by decide)).trans h0Zkdq10
                have e1997 := (Zfr.ai fc25 tkkq10 (by decide)).trans h1Zkdq10
                have k1998 := GtP_fr k1199 fc25 t_a0 Wq10 (by decide)
                have sc2000 := Sc_fr fc25 t_a0 (by decide) (by decide) (by decide)
                have k1999 := WyN_fr k1200 fc25 t_a0 Wq10 (by decide) sc2000
                have k2001 := TbI_fr k1202 fc25 t_a0 Wq10 (by decide) sc2000
                have k2002 := TbC_fr k1203 fc25 t_a0 Wq10 (by decide) sc2000
                have k2003 := TkN_fr k1204 fc25 t_a0 Wq10 (by decide)
                have k2004 := PB_s0 k1205 fc25 t_a0 Wq10 (by decide) sc2000
                have k2005 := TpK_fr k1206 fc25 t_a0 Wq10 (by decide)
                have F2006 := Zfr.tr F1207 fc25 (by decide)
                exact ⟨_, rfl, Wc25, F2006, ⟨bf2q10, tv, dv, bks0, bkl0, bkw0, bna0, blb0, bnw0, bvn0, e1979, e1995, e1980, e1981, e1984, e1985, e1986, e1987, e1988, e1989, e1990, tks0, tkl0, tkw0, by (try dsimp only); omega, by (try dsimp only); omega, by (try dsimp only); omega, by (try dsimp only); omega, by (try dsimp only); omega, by (try dsimp only); omega, by (try dsimp only); omega, by (try dsimp only); omega, by (try dsimp only); omega, by (try dsimp only); omega, by (try dsimp only); omega, by (try dsimp only); omega, by (try dsimp only); omega, by (try dsimp only); omega, by (try dsimp only); omega, by (try dsimp only); omega, by (try dsimp only); omega, by (try dsimp only); omega, by (try dsimp only); omega, by (try dsimp only); omega, k1998, k1999, k2001, k2002, k2003⟩, PI_pop k2004 (by omega) (by omega) (by omega) (by omega) gc25 (by omega) (by omega)⟩
            · have := li_45
              have hq1817 := i_ne hq1817
              unfold f_Mo_reckoned_112
              refine wi (fun hq2020 => ?_) (fun hq2020 => ?_)
              · have := li_m1
                have hq2020 := i_le hq2020
                obtain ⟨w16, ew16⟩ := go_64 Wq10 t_a0
                refine wb ew16 ?_
                obtain ⟨q15, eq15, Wq15, fq15, pbZSq15⟩ := p_Mo_pass hn Wq10  t_a0 (by omega) (by omega) (by omega) (by omega) h0ZScq10 e1183
                refine wb eq15 ?_
                have e2023 := (Zfr.gi fq15 t_a0 (by decide)).trans e1182
                have e2024 := (Zfr.gi fq15 t_a0 (by decide)).trans e1184
                have e2025 := (Zfr.gi fq15 t_a0 (by decide)).trans e1185
                have e2026 := (Zfr.gr fq15 t_a0 (by decide)).trans e1186
                have e2027 := (Zfr.ai fq15 tqw_1 (by decide)).trans e1187
                have e2028 := (Zfr.gr fq15 t_a0 (by decide)).trans e1188
                have e2029 := (Zfr.gr fq15 t_a0 (by decide)).trans e1189
                have e2030 := (Zfr.gr fq15 t_a0 (by decide)).trans e1190
                have e2031 := (Zfr.ai fq15 tks0 (by decide)).trans e1191
                have e2032 := (Zfr.ai fq15 tkl0 (by decide)).trans e1192
                have e2033 := (Zfr.ai fq15 tkw0 (by decide)).trans e1193
                have e2034 := (Zfr.gi fq15 t_a0 (by decide)).trans e1194
                have e2035 := (Zfr.gr fq15 t_a0 (by decide)).trans e1195
                have e2036 := (Zfr.gr fq15 t_a0 (by decide)).trans e1196
                have e2037 := (Zfr.ai fq15 tw_2 (by decide)).trans e1197
                have e2038 := (Zfr.ai fq15 tw_3 (by decide)).trans e1198
                have e2039 := (Zfr.gr fq15 t_a0 (by decide)).trans h0Zkdq10
                have e2040 := (Zfr.ai fq15 tkkq10 (by decide)).trans h1Zkdq10
                have k2041 := GtP_fr k1199 fq15 t_a0 Wq10 (by decide)
                have sc2043 : Sc q10.2 q15 a0 (1) (0) := by
                  obtain ⟨yf2, yt2, z0y, z1y, x0y, x1y, x2y, x3y, x4y, x5y⟩ := pbZSq15
                  exact Sc_mk h0ZScq10 z0y e1183 z1y e1184 ((Zfr.gi (ci := 12) fq15 t_a0 (by decide)).trans e1184) (by omega)
                have k2042 := WyN_fr k1200 fq15 t_a0 Wq10 (by decide) sc2043
                have k2044 := TbI_fr k1202 fq15 t_a0 Wq10 (by decide) sc2043
                have k2045 := TbC_fr k1203 fq15 t_a0 Wq10 (by decide) sc2043
                have k2046 := TkN_fr k1204 fq15 t_a0 Wq10 (by decide)
                have k2047 := PB_sc k1205 fq15 t_a0 Wq10 (by decide) sc2043 (by omega)
                have k2048 := TpK_fr k1206 fq15 t_a0 Wq10 (by decide)
                have F2049 := Zfr.tr F1207 fq15 (by decide)
                obtain ⟨bf2q15, bt2q15, h0ZSq15, h1ZSq15, r0ZSq15, r1ZSq15, r2ZSq15, r3ZSq15, r4ZSq15, r5ZSq15⟩ := pbZSq15
                refine wb e2036 ?_
                obtain ⟨c18, ec18, Wc18, fc18, gc18⟩ := pa_116 Wq15 tw_3 (i := a1) (by omega) (by omega) (x := (-1)) (trivial)
                refine wb ec18 ?_
                have e2050 := (Zfr.gi fc18 t_a0 (by decide)).trans e2023
                have e2051 := (Zfr.gi fc18 t_a0 (by decide)).trans e2024
                have e2052 := (Zfr.gi fc18 t_a0 (by decide)).trans e2025
                have e2053 := (Zfr.gr fc18 t_a0 (by decide)).trans e2026
                have e2054 := (Zfr.ai fc18 tqw_1 (by decide)).trans e2027
                have e2055 := (Zfr.gr fc18 t_a0 (by decide)).trans e2028
                have e2056 := (Zfr.gr fc18 t_a0 (by decide)).trans e2029
                have e2057 := (Zfr.gr fc18 t_a0 (by decide)).trans e2030
                have e2058 := (Zfr.ai fc18 tks0 (by decide)).trans e2031
                have e2059 := (Zfr.ai fc18 tkl0 (by decide)).trans e2032
                have e2060 := (Zfr.ai fc18 tkw0 (by decide)).trans e2033
                have e2061 := (Zfr.gi fc18 t_a0 (by decide)).trans e2034
                have e2062 := (Zfr.gr fc18 t_a0 (by decide)).trans e2035
                have e2063 := (Zfr.gr fc18 t_a0 (by decide)).trans e2036
                have e2064 := (Zfr.ai fc18 tw_2 (by decide)).trans e2037
                have e2065 := (Zfr.gr fc18 t_a0 (by decide)).trans e2039
                have e2066 := (Zfr.ai fc18 tkkq10 (by decide)).trans e2040
                have e2067 := (Zfr.gi fc18 t_a0 (by decide)).trans h0ZSq15
                have e2068 := (Zfr.gi fc18 t_a0 (by decide)).trans h1ZSq15
                have k2069 := GtP_fr k2041 fc18 t_a0 Wq15 (by decide)
                have sc2071 := Sc_fr fc18 t_a0 (by decide) (by decide) (by decide)
                have k2070 := WyN_fr k2042 fc18 t_a0 Wq15 (by decide) sc2071
                have k2072 := TbI_fr k2044 fc18 t_a0 Wq15 (by decide) sc2071
                have k2073 := TbC_fr k2045 fc18 t_a0 Wq15 (by decide) sc2071
                have k2074 := TkN_fr k2046 fc18 t_a0 Wq15 (by decide)
                have k2075 := PB_w68 k2047 Wq15 t_a0 fc18 e2036 ec18 rfl
                have k2076 := TpK_w68 k2048 Wq15 t_a0 fc18 e2036 ec18 rfl
                have F2077 := Zfr.tr F2049 fc18 (by decide)
                refine wb e2062 ?_
                obtain ⟨c20, ec20, Wc20, fc20, gc20⟩ := pa_115 Wc18 tw_2 (i := a1) (by omega) (by omega) (x := 2) (trivial)
                refine wb ec20 ?_
                have e2078 := (Zfr.gi fc20 t_a0 (by decide)).trans e2050
                have e2079 := (Zfr.gi fc20 t_a0 (by decide)).trans e2051
                have e2080 := (Zfr.gi fc20 t_a0 (by decide)).trans e2052
                have e2081 := (Zfr.gr fc20 t_a0 (by decide)).trans e2053
                have e2082 := (Zfr.ai fc20 tqw_1 (by decide)).trans e2054
                have e2083 := (Zfr.gr fc20 t_a0 (by decide)).trans e2055
                have e2084 := (Zfr.gr fc20 t_a0 (by decide)).trans e2056
                have e2085 := (Zfr.gr fc20 t_a0 (by decide)).trans e2057
                have e2086 := (Zfr.ai fc20 tks0 (by decide)).trans e2058
                have e2087 := (Zfr.ai fc20 tkl0 (by decide)).trans e2059
                have e2088 := (Zfr.ai fc20 tkw0 (by decide)).trans e2060
                have e2089 := (Zfr.gi fc20 t_a0 (by decide)).trans e2061
                have e2090 := (Zfr.gr fc20 t_a0 (by decide)).trans e2062
                have e2091 := (Zfr.gr fc20 t_a0 (by decide)).trans e2063
                have e2092 := (Zfr.gr fc20 t_a0 (by decide)).trans e2065
                have e2093 := (Zfr.ai fc20 tkkq10 (by decide)).trans e2066
                have e2094 := (Zfr.gi fc20 t_a0 (by decide)).trans e2067
                have e2095 := (Zfr.gi fc20 t_a0 (by decide)).trans e2068
                have e2096 := (Zfr.ai fc20 tw_3 (by decide)).trans gc18
                have k2097 := GtP_fr k2069 fc20 t_a0 Wc18 (by decide)
                have sc2099 := Sc_fr fc20 t_a0 (by decide) (by decide) (by decide)
                have k2098 := WyN_fr k2070 fc20 t_a0 Wc18 (by decide) sc2099
                have k2100 := TbI_fr k2072 fc20 t_a0 Wc18 (by decide) sc2099
                have k2101 := TbC_fr k2073 fc20 t_a0 Wc18 (by decide) sc2099
                have k2102 := TkN_fr k2074 fc20 t_a0 Wc18 (by decide)
                have k2103 := PB_w67 k2075 Wc18 t_a0 fc20 e2062 ec20 rfl
                have k2104 := TpK_w67 k2076 Wc18 t_a0 fc20 e2062 ec20 rfl
                have F2105 := Zfr.tr F2077 fc20 (by decide)
                refine wi (fun hq2106 => ?_) (fun hq2106 => ?_)
                · have hq2106 := i_eq hq2106
                  unfold f_Mo_reckoned_159
                  obtain ⟨w23, ew23⟩ := go_64 Wc20 t_a0
                  refine wb ew23 ?_
                  have := li_5
                  obtain ⟨q22, eq22, Wq22, fq22, po0q22⟩ := p_Mo_frame hn Wc20 (a1 := 5) t_a0 (by omega) (by omega) e2080
                  refine wb eq22 ?_
                  have e2108 := (Zfr.gi fq22 t_a0 (by decide)).trans e2078
                  have e2109 := (Zfr.gi fq22 t_a0 (by decide)).trans e2079
                  have e2110 := (Zfr.gr fq22 t_a0 (by decide)).trans e2081
                  have e2111 := (Zfr.gr fq22 t_a0 (by decide)).trans e2083
                  have e2112 := (Zfr.gr fq22 t_a0 (by decide)).trans e2084
                  have e2113 := (Zfr.gr fq22 t_a0 (by decide)).trans e2085
                  have e2114 := (Zfr.ai fq22 tks0 (by decide)).trans e2086
                  have e2115 := (Zfr.ai fq22 tkl0 (by decide)).trans e2087
                  have e2116 := (Zfr.ai fq22 tkw0 (by decide)).trans e2088
                  have e2117 := (Zfr.gi fq22 t_a0 (by decide)).trans e2089
                  have e2118 := (Zfr.gr fq22 t_a0 (by decide)).trans e2090
                  have e2119 := (Zfr.gr fq22 t_a0 (by decide)).trans e2091
                  have e2120 := (Zfr.gr fq22 t_a0 (by decide)).trans e2092
                  have e2121 := (Zfr.ai fq22 tkkq10 (by decide)).trans e2093
                  have e2122 := (Zfr.gi fq22 t_a0 (by decide)).trans e2094
                  have e2123 := (Zfr.gi fq22 t_a0 (by decide)).trans e2095
                  have k2124 := GtP_fr k2097 fq22 t_a0 Wc20 (by decide)
                  have sc2126 := Sc_fr fq22 t_a0 (by decide) (by decide) (by decide)
                  have k2125 := WyN_fr k2098 fq22 t_a0 Wc20 (by decide) sc2126
                  have k2127 := TbI_fr k2100 fq22 t_a0 Wc20 (by decide) sc2126
                  have k2128 := TbC_fr k2101 fq22 t_a0 Wc20 (by decide) sc2126
                  have k2129 := TkN_fr k2102 fq22 t_a0 Wc20 (by decide)
                  have k2130 := PI_push k2103 k2104 (psJ (by omega) (by omega) (by omega) (by omega) (by omega)) (by omega) (by omega) (fun y_ => two_i (by omega)) e2094 e2095 (by omega) fq22 t_a0 Wc20 po0q22 e2080 (by omega)
                  have F2132 := Zfr.tr F2105 fq22 (by decide)
                  exact ⟨_, rfl, Wq22, F2132, ⟨bf2q15, bt2q15, dv, bks0, bkl0, bkw0, bna0, blb0, bnw0, bvn0, e2108, e2122, e2123, e2109, e2111, e2112, e2113, e2114, e2115, e2116, e2117, tks0, tkl0, tkw0, by (try dsimp only); omega, by (try dsimp only); omega, by (try dsimp only); omega, by (try dsimp only); omega, by (try dsimp only); omega, by (try dsimp only); omega, by (try dsimp only); omega, by (try dsimp only); omega, by (try dsimp only); omega, by (try dsimp only); omega, by (try dsimp only); omega, by (try dsimp only); omega, by (try dsimp only); omega, by (try dsimp only); omega, by (try dsimp only); omega, by (try dsimp only); omega, by (try dsimp only); omega, by (try dsimp only); omega, by (try dsimp only); omega, by (try dsimp only); omega, k2124, k2125, k2127, k2128, k2129⟩, k2130⟩
                · have hq2106 := i_ne hq2106
                  unfold f_Mo_reckoned_159
                  obtain ⟨w23, ew23⟩ := go_64 Wc20 t_a0
                  refine wb ew23 ?_
                  have := li_4
                  obtain ⟨q22, eq22, Wq22, fq22, po0q22⟩ := p_Mo_frame hn Wc20 (a1 := 4) t_a0 (by omega) (by omega) e2080
                  refine wb eq22 ?_
                  have e2145 := (Zfr.gi fq22 t_a0 (by decide)).trans e2078
                  have e2146 := (Zfr.gi fq22 t_a0 (by decide)).trans e2079
                  have e2147 := (Zfr.gr fq22 t_a0 (by decide)).trans e2081
                  have e2148 := (Zfr.gr fq22 t_a0 (by decide)).trans e2083
                  have e2149 := (Zfr.gr fq22 t_a0 (by decide)).trans e2084
                  have e2150 := (Zfr.gr fq22 t_a0 (by decide)).trans e2085
                  have e2151 := (Zfr.ai fq22 tks0 (by decide)).trans e2086
                  have e2152 := (Zfr.ai fq22 tkl0 (by decide)).trans e2087
                  have e2153 := (Zfr.ai fq22 tkw0 (by decide)).trans e2088
                  have e2154 := (Zfr.gi fq22 t_a0 (by decide)).trans e2089
                  have e2155 := (Zfr.gr fq22 t_a0 (by decide)).trans e2090
                  have e2156 := (Zfr.gr fq22 t_a0 (by decide)).trans e2091
                  have e2157 := (Zfr.gr fq22 t_a0 (by decide)).trans e2092
                  have e2158 := (Zfr.ai fq22 tkkq10 (by decide)).trans e2093
                  have e2159 := (Zfr.gi fq22 t_a0 (by decide)).trans e2094
                  have e2160 := (Zfr.gi fq22 t_a0 (by decide)).trans e2095
                  have k2161 := GtP_fr k2097 fq22 t_a0 Wc20 (by decide)
                  have sc2163 := Sc_fr fq22 t_a0 (by decide) (by decide) (by decide)
                  have k2162 := WyN_fr k2098 fq22 t_a0 Wc20 (by decide) sc2163
                  have k2164 := TbI_fr k2100 fq22 t_a0 Wc20 (by decide) sc2163
                  have k2165 := TbC_fr k2101 fq22 t_a0 Wc20 (by decide) sc2163
                  have k2166 := TkN_fr k2102 fq22 t_a0 Wc20 (by decide)
                  have k2167 := PI_push k2103 k2104 (psJ (by omega) (by omega) (by omega) (by omega) (by omega)) (by omega) (by omega) (fun y_ => two_i (by omega)) e2094 e2095 (by omega) fq22 t_a0 Wc20 po0q22 e2080 (by omega)
                  have F2169 := Zfr.tr F2105 fq22 (by decide)
                  exact ⟨_, rfl, Wq22, F2169, ⟨bf2q15, bt2q15, dv, bks0, bkl0, bkw0, bna0, blb0, bnw0, bvn0, e2145, e2159, e2160, e2146, e2148, e2149, e2150, e2151, e2152, e2153, e2154, tks0, tkl0, tkw0, by (try dsimp only); omega, by (try dsimp only); omega, by (try dsimp only); omega, by (try dsimp only); omega, by (try dsimp only); omega, by (try dsimp only); omega, by (try dsimp only); omega, by (try dsimp only); omega, by (try dsimp only); omega, by (try dsimp only); omega, by (try dsimp only); omega, by (try dsimp only); omega, by (try dsimp only); omega, by (try dsimp only); omega, by (try dsimp only); omega, by (try dsimp only); omega, by (try dsimp only); omega, by (try dsimp only); omega, by (try dsimp only); omega, by (try dsimp only); omega, k2161, k2162, k2164, k2165, k2166⟩, k2167⟩
              · have := li_m1
                have hq2020 := i_nle hq2020
                refine wb e1185 ?_
                have := i_sub (a := fr) (b := 1) (by omega) (by omega)
                obtain ⟨c25, ec25, Wc25, fc25, gc25⟩ := pf_64_69 Wq10 t_a0 (x := (fr - 1)) (rgi (by omega) (by omega))
                refine wb ec25 ?_
                have e2181 := (Zfr.gi fc25 t_a0 (by decide)).trans e1182
                have e2182 := (Zfr.gi fc25 t_a0 (by decide)).trans e1183
                have e2183 := (Zfr.gi fc25 t_a0 (by decide)).trans e1184
                have e2184 := (Zfr.gr fc25 t_a0 (by decide)).trans e1186
                have e2185 := (Zfr.ai fc25 tqw_1 (by decide)).trans e1187
                have e2186 := (Zfr.gr fc25 t_a0 (by decide)).trans e1188
                have e2187 := (Zfr.gr fc25 t_a0 (by decide)).trans e1189
                have e2188 := (Zfr.gr fc25 t_a0 (by decide)).trans e1190
                have e2189 := (Zfr.ai fc25 tks0 (by decide)).trans e1191
                have e2190 := (Zfr.ai fc25 tkl0 (by decide)).trans e1192
                have e2191 := (Zfr.ai fc25 tkw0 (by decide)).trans e1193
                have e2192 := (Zfr.gi fc25 t_a0 (by decide)).trans e1194
                have e2193 := (Zfr.gr fc25 t_a0 (by decide)).trans e1195
                have e2194 := (Zfr.gr fc25 t_a0 (by decide)).trans e1196
                have e2195 := (Zfr.ai fc25 tw_2 (by decide)).trans e1197
                have e2196 := (Zfr.ai fc25 tw_3 (by decide)).trans e1198
                have e2197 := (Zfr.gi fc25 t_a0 (by decide)).trans h0ZScq10
                have e2198 := (Zfr.gr fc25 t_a0 (by decide)).trans h0Zkdq10
                have e2199 := (Zfr.ai fc25 tkkq10 (by decide)).trans h1Zkdq10
                have k2200 := GtP_fr k1199 fc25 t_a0 Wq10 (by decide)
                have sc2202 := Sc_fr fc25 t_a0 (by decide) (by decide) (by decide)
                have k2201 := WyN_fr k1200 fc25 t_a0 Wq10 (by decide) sc2202
                have k2203 := TbI_fr k1202 fc25 t_a0 Wq10 (by decide) sc2202
                have k2204 := TbC_fr k1203 fc25 t_a0 Wq10 (by decide) sc2202
                have k2205 := TkN_fr k1204 fc25 t_a0 Wq10 (by decide)
                have k2206 := PB_s0 k1205 fc25 t_a0 Wq10 (by decide) sc2202
                have k2207 := TpK_fr k1206 fc25 t_a0 Wq10 (by decide)
                have F2208 := Zfr.tr F1207 fc25 (by decide)
                exact ⟨_, rfl, Wc25, F2208, ⟨bf2q10, tv, dv, bks0, bkl0, bkw0, bna0, blb0, bnw0, bvn0, e2181, e2197, e2182, e2183, e2186, e2187, e2188, e2189, e2190, e2191, e2192, tks0, tkl0, tkw0, by (try dsimp only); omega, by (try dsimp only); omega, by (try dsimp only); omega, by (try dsimp only); omega, by (try dsimp only); omega, by (try dsimp only); omega, by (try dsimp only); omega, by (try dsimp only); omega, by (try dsimp only); omega, by (try dsimp only); omega, by (try dsimp only); omega, by (try dsimp only); omega, by (try dsimp only); omega, by (try dsimp only); omega, by (try dsimp only); omega, by (try dsimp only); omega, by (try dsimp only); omega, by (try dsimp only); omega, by (try dsimp only); omega, by (try dsimp only); omega, k2200, k2201, k2203, k2204, k2205⟩, PI_pop k2206 (by omega) (by omega) (by omega) (by omega) gc25 (by omega) (by omega)⟩
  · have := li_3
    have hq6 := i_ne hq6
    unfold f_Mo_reckoned_15
    refine wb ew_2 ?_
    refine wb ew_4 ?_
    refine wi (fun hq2222 => ?_) (fun hq2222 => ?_)
    · have := li_0
      have hq2222 := i_eq hq2222
      refine wb ew_2 ?_
      obtain ⟨c33, ec33, Wc33, fc33, gc33⟩ := pa_115 W tw_2 (i := a1) (by omega) (by omega) (x := 1) (trivial)
      refine wb ec33 ?_
      have e2223 := (Zfr.gi fc33 t_a0 (by decide)).trans h0ZV0
      have e2224 := (Zfr.gi fc33 t_a0 (by decide)).trans h1ZV0
      have e2225 := (Zfr.gi fc33 t_a0 (by decide)).trans h2ZV0
      have e2226 := (Zfr.gi fc33 t_a0 (by decide)).trans h3ZV0
      have e2227 := (Zfr.gi fc33 t_a0 (by decide)).trans eh_fr
      have e2228 := (Zfr.gr fc33 t_a0 (by decide)).trans eh_ksr
      have e2229 := (Zfr.ai fc33 tqw_1 (by decide)).trans eh_sv
      have e2230 := (Zfr.gr fc33 t_a0 (by decide)).trans h4ZV0
      have e2231 := (Zfr.gr fc33 t_a0 (by decide)).trans h5ZV0
      have e2232 := (Zfr.gr fc33 t_a0 (by decide)).trans h6ZV0
      have e2233 := (Zfr.ai fc33 tks0 (by decide)).trans h7ZV0
      have e2234 := (Zfr.ai fc33 tkl0 (by decide)).trans h8ZV0
      have e2235 := (Zfr.ai fc33 tkw0 (by decide)).trans h9ZV0
      have e2236 := (Zfr.gi fc33 t_a0 (by decide)).trans h10ZV0
      have e2237 := (Zfr.gr fc33 t_a0 (by decide)).trans ew_2
      have e2238 := (Zfr.gr fc33 t_a0 (by decide)).trans ew_3
      have e2239 := (Zfr.ai fc33 tw_3 (by decide)).trans ew_5
      have k2240 := GtP_fr k0ZV0 fc33 t_a0 W (by decide)
      have sc2242 := Sc_fr fc33 t_a0 (by decide) (by decide) (by decide)
      have k2241 := WyN_fr k1ZV0 fc33 t_a0 W (by decide) sc2242
      have k2243 := TbI_fr k2ZV0 fc33 t_a0 W (by decide) sc2242
      have k2244 := TbC_fr k3ZV0 fc33 t_a0 W (by decide) sc2242
      have k2245 := TkN_fr k4ZV0 fc33 t_a0 W (by decide)
      have k2246 := PB_w67 pbh W t_a0 fc33 ew_2 ec33 rfl
      have k2247 := TpK_w67 tph W t_a0 fc33 ew_2 ec33 rfl
      have F2248 := Zfr.tr F0 fc33 (by decide)
      refine wi (fun hq2249 => ?_) (fun hq2249 => ?_)
      · have hq2249 := i_eq hq2249
        unfold f_Mo_reckoned_42
        obtain ⟨w36, ew36⟩ := go_64 Wc33 t_a0
        refine wb ew36 ?_
        have := li_5
        obtain ⟨q35, eq35, Wq35, fq35, po0q35⟩ := p_Mo_frame hn Wc33 (a1 := 5) t_a0 (by omega) (by omega) e2227
        refine wb eq35 ?_
        have e2251 := (Zfr.gi fq35 t_a0 (by decide)).trans e2223
        have e2252 := (Zfr.gi fq35 t_a0 (by decide)).trans e2224
        have e2253 := (Zfr.gi fq35 t_a0 (by decide)).trans e2225
        have e2254 := (Zfr.gi fq35 t_a0 (by decide)).trans e2226
        have e2255 := (Zfr.gr fq35 t_a0 (by decide)).trans e2228
        have e2256 := (Zfr.gr fq35 t_a0 (by decide)).trans e2230
        have e2257 := (Zfr.gr fq35 t_a0 (by decide)).trans e2231
        have e2258 := (Zfr.gr fq35 t_a0 (by decide)).trans e2232
        have e2259 := (Zfr.ai fq35 tks0 (by decide)).trans e2233
        have e2260 := (Zfr.ai fq35 tkl0 (by decide)).trans e2234
        have e2261 := (Zfr.ai fq35 tkw0 (by decide)).trans e2235
        have e2262 := (Zfr.gi fq35 t_a0 (by decide)).trans e2236
        have e2263 := (Zfr.gr fq35 t_a0 (by decide)).trans e2237
        have e2264 := (Zfr.gr fq35 t_a0 (by decide)).trans e2238
        have k2265 := GtP_fr k2240 fq35 t_a0 Wc33 (by decide)
        have sc2267 := Sc_fr fq35 t_a0 (by decide) (by decide) (by decide)
        have k2266 := WyN_fr k2241 fq35 t_a0 Wc33 (by decide) sc2267
        have k2268 := TbI_fr k2243 fq35 t_a0 Wc33 (by decide) sc2267
        have k2269 := TbC_fr k2244 fq35 t_a0 Wc33 (by decide) sc2267
        have k2270 := TkN_fr k2245 fq35 t_a0 Wc33 (by decide)
        have := li_1
        have k2271 := PI_push k2246 k2247 (psJ (by omega) (by omega) (by omega) (by omega) (by omega)) (by omega) (by omega) (fun y_ => okt (by omega)) e2224 e2225 (by omega) fq35 t_a0 Wc33 po0q35 e2227 (by omega)
        have F2273 := Zfr.tr F2248 fq35 (by decide)
        exact ⟨_, rfl, Wq35, F2273, ⟨fv, tv, dv, bks0, bkl0, bkw0, bna0, blb0, bnw0, bvn0, e2251, e2252, e2253, e2254, e2256, e2257, e2258, e2259, e2260, e2261, e2262, tks0, tkl0, tkw0, by (try dsimp only); omega, by (try dsimp only); omega, by (try dsimp only); omega, by (try dsimp only); omega, by (try dsimp only); omega, by (try dsimp only); omega, by (try dsimp only); omega, by (try dsimp only); omega, by (try dsimp only); omega, by (try dsimp only); omega, by (try dsimp only); omega, by (try dsimp only); omega, by (try dsimp only); omega, by (try dsimp only); omega, by (try dsimp only); omega, by (try dsimp only); omega, by (try dsimp only); omega, by (try dsimp only); omega, by (try dsimp only); omega, by (try dsimp only); omega, k2265, k2266, k2268, k2269, k2270⟩, k2271⟩
      · have hq2249 := i_ne hq2249
        unfold f_Mo_reckoned_42
        obtain ⟨w36, ew36⟩ := go_64 Wc33 t_a0
        refine wb ew36 ?_
        have := li_4
        obtain ⟨q35, eq35, Wq35, fq35, po0q35⟩ := p_Mo_frame hn Wc33 (a1 := 4) t_a0 (by omega) (by omega) e2227
        refine wb eq35 ?_
        have e2286 := (Zfr.gi fq35 t_a0 (by decide)).trans e2223
        have e2287 := (Zfr.gi fq35 t_a0 (by decide)).trans e2224
        have e2288 := (Zfr.gi fq35 t_a0 (by decide)).trans e2225
        have e2289 := (Zfr.gi fq35 t_a0 (by decide)).trans e2226
        have e2290 := (Zfr.gr fq35 t_a0 (by decide)).trans e2228
        have e2291 := (Zfr.gr fq35 t_a0 (by decide)).trans e2230
        have e2292 := (Zfr.gr fq35 t_a0 (by decide)).trans e2231
        have e2293 := (Zfr.gr fq35 t_a0 (by decide)).trans e2232
        have e2294 := (Zfr.ai fq35 tks0 (by decide)).trans e2233
        have e2295 := (Zfr.ai fq35 tkl0 (by decide)).trans e2234
        have e2296 := (Zfr.ai fq35 tkw0 (by decide)).trans e2235
        have e2297 := (Zfr.gi fq35 t_a0 (by decide)).trans e2236
        have e2298 := (Zfr.gr fq35 t_a0 (by decide)).trans e2237
        have e2299 := (Zfr.gr fq35 t_a0 (by decide)).trans e2238
        have k2300 := GtP_fr k2240 fq35 t_a0 Wc33 (by decide)
        have sc2302 := Sc_fr fq35 t_a0 (by decide) (by decide) (by decide)
        have k2301 := WyN_fr k2241 fq35 t_a0 Wc33 (by decide) sc2302
        have k2303 := TbI_fr k2243 fq35 t_a0 Wc33 (by decide) sc2302
        have k2304 := TbC_fr k2244 fq35 t_a0 Wc33 (by decide) sc2302
        have k2305 := TkN_fr k2245 fq35 t_a0 Wc33 (by decide)
        have := li_1
        have k2306 := PI_push k2246 k2247 (psJ (by omega) (by omega) (by omega) (by omega) (by omega)) (by omega) (by omega) (fun y_ => okt (by omega)) e2224 e2225 (by omega) fq35 t_a0 Wc33 po0q35 e2227 (by omega)
        have F2308 := Zfr.tr F2248 fq35 (by decide)
        exact ⟨_, rfl, Wq35, F2308, ⟨fv, tv, dv, bks0, bkl0, bkw0, bna0, blb0, bnw0, bvn0, e2286, e2287, e2288, e2289, e2291, e2292, e2293, e2294, e2295, e2296, e2297, tks0, tkl0, tkw0, by (try dsimp only); omega, by (try dsimp only); omega, by (try dsimp only); omega, by (try dsimp only); omega, by (try dsimp only); omega, by (try dsimp only); omega, by (try dsimp only); omega, by (try dsimp only); omega, by (try dsimp only); omega, by (try dsimp only); omega, by (try dsimp only); omega, by (try dsimp only); omega, by (try dsimp only); omega, by (try dsimp only); omega, by (try dsimp only); omega, by (try dsimp only); omega, by (try dsimp only); omega, by (try dsimp only); omega, by (try dsimp only); omega, by (try dsimp only); omega, k2300, k2301, k2303, k2304, k2305⟩, k2306⟩
    · have := li_0
      have hq2222 := i_ne hq2222
      refine wb ew_2 ?_
      refine wb ew_4 ?_
      refine wi (fun hq2320 => ?_) (fun hq2320 => ?_)
      · have := li_2
        have hq2320 := i_eq hq2320
        refine wb ew_3 ?_
        refine wb ew_5 ?_
        obtain ⟨w31, ew31⟩ := go_64 W t_a0
        refine wb ew31 ?_
        obtain ⟨w_2322, ew_2322, lw_2322, uw_2322⟩ := gf_64_52 W t_a0
        have := PB_nm pbh h1ZV0 ew_2322 h2ZV0
        obtain ⟨q30, eq30, Wq30, fq30, po0q30⟩ := p_Mo_code hn W (a1 := w_5) (a2 := 0) t_a0 h1ZV0 ew_2322 (by omega)
        refine wb eq30 ?_
        have e2326 := (Zfr.gi fq30 t_a0 (by decide)).trans h0ZV0
        have e2327 := (Zfr.gi fq30 t_a0 (by decide)).trans h1ZV0
        have e2328 := (Zfr.gi fq30 t_a0 (by decide)).trans h2ZV0
        have e2329 := (Zfr.gi fq30 t_a0 (by decide)).trans h3ZV0
        have e2330 := (Zfr.gi fq30 t_a0 (by decide)).trans eh_fr
        have e2331 := (Zfr.gr fq30 t_a0 (by decide)).trans eh_ksr
        have e2332 := (Zfr.ai fq30 tqw_1 (by decide)).trans eh_sv
        have e2333 := (Zfr.gr fq30 t_a0 (by decide)).trans h4ZV0
        have e2334 := (Zfr.gr fq30 t_a0 (by decide)).trans h5ZV0
        have e2335 := (Zfr.gr fq30 t_a0 (by decide)).trans h6ZV0
        have e2336 := (Zfr.ai fq30 tks0 (by decide)).trans h7ZV0
        have e2337 := (Zfr.ai fq30 tkl0 (by decide)).trans h8ZV0
        have e2338 := (Zfr.ai fq30 tkw0 (by decide)).trans h9ZV0
        have e2339 := (Zfr.gi fq30 t_a0 (by decide)).trans h10ZV0
        have e2340 := (Zfr.gr fq30 t_a0 (by decide)).trans ew_2
        have e2341 := (Zfr.gr fq30 t_a0 (by decide)).trans ew_3
        have e2342 := (Zfr.ai fq30 tw_2 (by decide)).trans ew_4
        have e2343 := (Zfr.ai fq30 tw_3 (by decide)).trans ew_5
        have k2344 := GtP_cd k0ZV0 fq30 t_a0 W po0q30
        have sc2346 := Sc_fr fq30 t_a0 (by decide) (by decide) (by decide)
        have k2345 := WyN_fr k1ZV0 fq30 t_a0 W (by decide) sc2346
        have k2347 := TbI_cd k2ZV0 fq30 t_a0 W po0q30
        have k2348 := TbC_cd k3ZV0 fq30 t_a0 W po0q30
        have k2349 := TkN_fr k4ZV0 fq30 t_a0 W (by decide)
        have k2350 := PB_two pbh fq30 t_a0 W po0q30 (okt (by omega)) (by omega)
        have k2351 := TpK_fr tph fq30 t_a0 W (by decide)
        have F2352 := Zfr.tr F0 fq30 (by decide)
        unfold f_Mo_reckoned_67
        obtain ⟨w11, ew11⟩ := go_64 Wq30 t_a0
        refine wb ew11 ?_
        obtain ⟨q10, eq10, Wq10, fq10, pbZScq10, pbZkdq10⟩ := p_Mo_kind hn Wq30  t_a0 (by omega) (by omega) (by omega) (by omega) e2327 e2328
        refine wb eq10 ?_
        have e2355 := (Zfr.gi fq10 t_a0 (by decide)).trans e2326
        have e2356 := (Zfr.gi fq10 t_a0 (by decide)).trans e2328
        have e2357 := (Zfr.gi fq10 t_a0 (by decide)).trans e2329
        have e2358 := (Zfr.gi fq10 t_a0 (by decide)).trans e2330
        have e2359 := (Zfr.gr fq10 t_a0 (by decide)).trans e2331
        have e2360 := (Zfr.ai fq10 tqw_1 (by decide)).trans e2332
        have e2361 := (Zfr.gr fq10 t_a0 (by decide)).trans e2333
        have e2362 := (Zfr.gr fq10 t_a0 (by decide)).trans e2334
        have e2363 := (Zfr.gr fq10 t_a0 (by decide)).trans e2335
        have e2364 := (Zfr.ai fq10 tks0 (by decide)).trans e2336
        have e2365 := (Zfr.ai fq10 tkl0 (by decide)).trans e2337
        have e2366 := (Zfr.ai fq10 tkw0 (by decide)).trans e2338
        have e2367 := (Zfr.gi fq10 t_a0 (by decide)).trans e2339
        have e2368 := (Zfr.gr fq10 t_a0 (by decide)).trans e2340
        have e2369 := (Zfr.gr fq10 t_a0 (by decide)).trans e2341
        have e2370 := (Zfr.ai fq10 tw_2 (by decide)).trans e2342
        have e2371 := (Zfr.ai fq10 tw_3 (by decide)).trans e2343
        have k2372 := GtP_fr k2344 fq10 t_a0 Wq30 (by decide)
        have sc2374 : Sc q30 q10.2 a0 (0) (0) := by
          obtain ⟨yf2, z0y, x0y, x1y, x2y, x3y⟩ := pbZScq10
          exact Sc_mk e2327 z0y e2328 ((Zfr.gi (ci := 12) fq10 t_a0 (by decide)).trans e2328) e2329 ((Zfr.gi (ci := 12) fq10 t_a0 (by decide)).trans e2329) (by omega)
        have k2373 := WyN_fr k2345 fq10 t_a0 Wq30 (by decide) sc2374
        have k2375 := TbI_fr k2347 fq10 t_a0 Wq30 (by decide) sc2374
        have k2376 := TbC_fr k2348 fq10 t_a0 Wq30 (by decide) sc2374
        have k2377 := TkN_fr k2349 fq10 t_a0 Wq30 (by decide)
        have k2378 := PB_s0 k2350 fq10 t_a0 Wq30 (by decide) sc2374
        have k2379 := TpK_fr k2351 fq10 t_a0 Wq30 (by decide)
        have F2380 := Zfr.tr F2352 fq10 (by decide)
        obtain ⟨bf2q10, h0ZScq10, r0ZScq10, r1ZScq10, r2ZScq10, r3ZScq10⟩ := pbZScq10
        obtain ⟨bkkq10, h0Zkdq10, h1Zkdq10, tkkq10⟩ := pbZkdq10
        refine wi (fun hq2381 => ?_) (fun hq2381 => ?_)
        · have hq2381 := i_eq hq2381
          refine wi (fun hq2382 => ?_) (fun hq2382 => ?_)
          · have := li_42
            have := i_ge q10.1
            have := i_up q10.1
            have hq2382 := i_eq hq2382
            unfold f_Mo_reckoned_112
            refine wi (fun hq2383 => ?_) (fun hq2383 => ?_)
            · have := li_6
              have hq2383 := i_le hq2383
              obtain ⟨w16, ew16⟩ := go_64 Wq10 t_a0
              refine wb ew16 ?_
              obtain ⟨q15, eq15, Wq15, fq15, pbZSq15⟩ := p_Mo_pass hn Wq10  t_a0 (by omega) (by omega) (by omega) (by omega) h0ZScq10 e2356
              refine wb eq15 ?_
              have e2386 := (Zfr.gi fq15 t_a0 (by decide)).trans e2355
              have e2387 := (Zfr.gi fq15 t_a0 (by decide)).trans e2357
              have e2388 := (Zfr.gi fq15 t_a0 (by decide)).trans e2358
              have e2389 := (Zfr.gr fq15 t_a0 (by decide)).trans e2359
              have e2390 := (Zfr.ai fq15 tqw_1 (by decide)).trans e2360
              have e2391 := (Zfr.gr fq15 t_a0 (by decide)).trans e2361
              have e2392 := (Zfr.gr fq15 t_a0 (by decide)).trans e2362
              have e2393 := (Zfr.gr fq15 t_a0 (by decide)).trans e2363
              have e2394 := (Zfr.ai fq15 tks0 (by decide)).trans e2364
              have e2395 := (Zfr.ai fq15 tkl0 (by decide)).trans e2365
              have e2396 := (Zfr.ai fq15 tkw0 (by decide)).trans e2366
              have e2397 := (Zfr.gi fq15 t_a0 (by decide)).trans e2367
              have e2398 := (Zfr.gr fq15 t_a0 (by decide)).trans e2368
              have e2399 := (Zfr.gr fq15 t_a0 (by decide)).trans e2369
              have e2400 := (Zfr.ai fq15 tw_2 (by decide)).trans e2370
              have e2401 := (Zfr.ai fq15 tw_3 (by decide)).trans e2371
              have e2402 := (Zfr.gr fq15 t_a0 (by decide)).trans h0Zkdq10
              have e2403 := (Zfr.ai fq15 tkkq10 (by decide)).trans h1Zkdq10
              have k2404 := GtP_fr k2372 fq15 t_a0 Wq10 (by decide)
              have := li_1
              have sc2406 : Sc q10.2 q15 a0 (1) (0) := by
                obtain ⟨yf2, yt2, z0y, z1y, x0y, x1y, x2y, x3y, x4y, x5y⟩ := pbZSq15
                exact Sc_mk h0ZScq10 z0y e2356 z1y e2357 ((Zfr.gi (ci := 12) fq15 t_a0 (by decide)).trans e2357) (by omega)
              have k2405 := WyN_fr k2373 fq15 t_a0 Wq10 (by decide) sc2406
              have k2407 := TbI_fr k2375 fq15 t_a0 Wq10 (by decide) sc2406
              have k2408 := TbC_fr k2376 fq15 t_a0 Wq10 (by decide) sc2406
              have k2409 := TkN_fr k2377 fq15 t_a0 Wq10 (by decide)
              have k2410 := PB_sc k2378 fq15 t_a0 Wq10 (by decide) sc2406 (by omega)
              have k2411 := TpK_fr k2379 fq15 t_a0 Wq10 (by decide)
              have F2412 := Zfr.tr F2380 fq15 (by decide)
              obtain ⟨bf2q15, bt2q15, h0ZSq15, h1ZSq15, r0ZSq15, r1ZSq15, r2ZSq15, r3ZSq15, r4ZSq15, r5ZSq15⟩ := pbZSq15
              refine wb e2399 ?_
              obtain ⟨c18, ec18, Wc18, fc18, gc18⟩ := pa_116 Wq15 tw_3 (i := a1) (by omega) (by omega) (x := 6) (trivial)
              refine wb ec18 ?_
              have e2413 := (Zfr.gi fc18 t_a0 (by decide)).trans e2386
              have e2414 := (Zfr.gi fc18 t_a0 (by decide)).trans e2387
              have e2415 := (Zfr.gi fc18 t_a0 (by decide)).trans e2388
              have e2416 := (Zfr.gr fc18 t_a0 (by decide)).trans e2389
              have e2417 := (Zfr.ai fc18 tqw_1 (by decide)).trans e2390
              have e2418 := (Zfr.gr fc18 t_a0 (by decide)).trans e2391
              have e2419 := (Zfr.gr fc18 t_a0 (by decide)).trans e2392
              have e2420 := (Zfr.gr fc18 t_a0 (by decide)).trans e2393
              have e2421 := (Zfr.ai fc18 tks0 (by decide)).trans e2394
              have e2422 := (Zfr.ai fc18 tkl0 (by decide)).trans e2395
              have e2423 := (Zfr.ai fc18 tkw0 (by decide)).trans e2396
              have e2424 := (Zfr.gi fc18 t_a0 (by decide)).trans e2397
              have e2425 := (Zfr.gr fc18 t_a0 (by decide)).trans e2398
              have e2426 := (Zfr.gr fc18 t_a0 (by decide)).trans e2399
              have e2427 := (Zfr.ai fc18 tw_2 (by decide)).trans e2400
              have e2428 := (Zfr.gr fc18 t_a0 (by decide)).trans e2402
              have e2429 := (Zfr.ai fc18 tkkq10 (by decide)).trans e2403
              have e2430 := (Zfr.gi fc18 t_a0 (by decide)).trans h0ZSq15
              have e2431 := (Zfr.gi fc18 t_a0 (by decide)).trans h1ZSq15
              have k2432 := GtP_fr k2404 fc18 t_a0 Wq15 (by decide)
              have sc2434 := Sc_fr fc18 t_a0 (by decide) (by decide) (by decide)
              have k2433 := WyN_fr k2405 fc18 t_a0 Wq15 (by decide) sc2434
              have k2435 := TbI_fr k2407 fc18 t_a0 Wq15 (by decide) sc2434
              have k2436 := TbC_fr k2408 fc18 t_a0 Wq15 (by decide) sc2434
              have k2437 := TkN_fr k2409 fc18 t_a0 Wq15 (by decide)
              have k2438 := PB_w68 k2410 Wq15 t_a0 fc18 e2399 ec18 rfl
              have k2439 := TpK_w68 k2411 Wq15 t_a0 fc18 e2399 ec18 rfl
              have F2440 := Zfr.tr F2412 fc18 (by decide)
              refine wb e2425 ?_
              obtain ⟨c20, ec20, Wc20, fc20, gc20⟩ := pa_115 Wc18 tw_2 (i := a1) (by omega) (by omega) (x := 2) (trivial)
              refine wb ec20 ?_
              have e2441 := (Zfr.gi fc20 t_a0 (by decide)).trans e2413
              have e2442 := (Zfr.gi fc20 t_a0 (by decide)).trans e2414
              have e2443 := (Zfr.gi fc20 t_a0 (by decide)).trans e2415
              have e2444 := (Zfr.gr fc20 t_a0 (by decide)).trans e2416
              have e2445 := (Zfr.ai fc20 tqw_1 (by decide)).trans e2417
              have e2446 := (Zfr.gr fc20 t_a0 (by decide)).trans e2418
              have e2447 := (Zfr.gr fc20 t_a0 (by decide)).trans e2419
              have e2448 := (Zfr.gr fc20 t_a0 (by decide)).trans e2420
              have e2449 := (Zfr.ai fc20 tks0 (by decide)).trans e2421
              have e2450 := (Zfr.ai fc20 tkl0 (by decide)).trans e2422
              have e2451 := (Zfr.ai fc20 tkw0 (by decide)).trans e2423
              have e2452 := (Zfr.gi fc20 t_a0 (by decide)).trans e2424
              have e2453 := (Zfr.gr fc20 t_a0 (by decide)).trans e2425
              have e2454 := (Zfr.gr fc20 t_a0 (by decide)).trans e2426
              have e2455 := (Zfr.gr fc20 t_a0 (by decide)).trans e2428
              have e2456 := (Zfr.ai fc20 tkkq10 (by decide)).trans e2429
              have e2457 := (Zfr.gi fc20 t_a0 (by decide)).trans e2430
              have e2458 := (Zfr.gi fc20 t_a0 (by decide)).trans e2431
              have e2459 := (Zfr.ai fc20 tw_3 (by decide)).trans gc18
              have k2460 := GtP_fr k2432 fc20 t_a0 Wc18 (by decide)
              have sc2462 := Sc_fr fc20 t_a0 (by decide) (by decide) (by decide)
              have k2461 := WyN_fr k2433 fc20 t_a0 Wc18 (by decide) sc2462
              have k2463 := TbI_fr k2435 fc20 t_a0 Wc18 (by decide) sc2462
              have k2464 := TbC_fr k2436 fc20 t_a0 Wc18 (by decide) sc2462
              have k2465 := TkN_fr k2437 fc20 t_a0 Wc18 (by decide)
              have k2466 := PB_w67 k2438 Wc18 t_a0 fc20 e2425 ec20 rfl
              have k2467 := TpK_w67 k2439 Wc18 t_a0 fc20 e2425 ec20 rfl
              have F2468 := Zfr.tr F2440 fc20 (by decide)
              refine wi (fun hq2469 => ?_) (fun hq2469 => ?_)
              · have hq2469 := i_eq hq2469
                unfold f_Mo_reckoned_159
                obtain ⟨w23, ew23⟩ := go_64 Wc20 t_a0
                refine wb ew23 ?_
                have := li_5
                obtain ⟨q22, eq22, Wq22, fq22, po0q22⟩ := p_Mo_frame hn Wc20 (a1 := 5) t_a0 (by omega) (by omega) e2443
                refine wb eq22 ?_
                have e2471 := (Zfr.gi fq22 t_a0 (by decide)).trans e2441
                have e2472 := (Zfr.gi fq22 t_a0 (by decide)).trans e2442
                have e2473 := (Zfr.gr fq22 t_a0 (by decide)).trans e2444
                have e2474 := (Zfr.gr fq22 t_a0 (by decide)).trans e2446
                have e2475 := (Zfr.gr fq22 t_a0 (by decide)).trans e2447
                have e2476 := (Zfr.gr fq22 t_a0 (by decide)).trans e2448
                have e2477 := (Zfr.ai fq22 tks0 (by decide)).trans e2449
                have e2478 := (Zfr.ai fq22 tkl0 (by decide)).trans e2450
                have e2479 := (Zfr.ai fq22 tkw0 (by decide)).trans e2451
                have e2480 := (Zfr.gi fq22 t_a0 (by decide)).trans e2452
                have e2481 := (Zfr.gr fq22 t_a0 (by decide)).trans e2453
                have e2482 := (Zfr.gr fq22 t_a0 (by decide)).trans e2454
                have e2483 := (Zfr.gr fq22 t_a0 (by decide)).trans e2455
                have e2484 := (Zfr.ai fq22 tkkq10 (by decide)).trans e2456
                have e2485 := (Zfr.gi fq22 t_a0 (by decide)).trans e2457
                have e2486 := (Zfr.gi fq22 t_a0 (by decide)).trans e2458
                have k2487 := GtP_fr k2460 fq22 t_a0 Wc20 (by decide)
                have sc2489 := Sc_fr fq22 t_a0 (by decide) (by decide) (by decide)
                have k2488 := WyN_fr k2461 fq22 t_a0 Wc20 (by decide) sc2489
                have k2490 := TbI_fr k2463 fq22 t_a0 Wc20 (by decide) sc2489
                have k2491 := TbC_fr k2464 fq22 t_a0 Wc20 (by decide) sc2489
                have k2492 := TkN_fr k2465 fq22 t_a0 Wc20 (by decide)
                have k2493 := PI_push k2466 k2467 (psJ (by omega) (by omega) (by omega) (by omega) (by omega)) (by omega) (by omega) (fun y_ => two_i (by omega)) e2457 e2458 (by omega) fq22 t_a0 Wc20 po0q22 e2443 (by omega)
                have F2495 := Zfr.tr F2468 fq22 (by decide)
                exact ⟨_, rfl, Wq22, F2495, ⟨bf2q15, bt2q15, dv, bks0, bkl0, bkw0, bna0, blb0, bnw0, bvn0, e2471, e2485, e2486, e2472, e2474, e2475, e2476, e2477, e2478, e2479, e2480, tks0, tkl0, tkw0, by (try dsimp only); omega, by (try dsimp only); omega, by (try dsimp only); omega, by (try dsimp only); omega, by (try dsimp only); omega, by (try dsimp only); omega, by (try dsimp only); omega, by (try dsimp only); omega, by (try dsimp only); omega, by (try dsimp only); omega, by (try dsimp only); omega, by (try dsimp only); omega, by (try dsimp only); omega, by (try dsimp only); omega, by (try dsimp only); omega, by (try dsimp only); omega, by (try dsimp only); omega, by (try dsimp only); omega, by (try dsimp only); omega, by (try dsimp only); omega, k2487, k2488, k2490, k2491, k2492⟩, k2493⟩
              · have hq2469 := i_ne hq2469
                unfold f_Mo_reckoned_159
                obtain ⟨w23, ew23⟩ := go_64 Wc20 t_a0
                refine wb ew23 ?_
                have := li_4
                obtain ⟨q22, eq22, Wq22, fq22, po0q22⟩ := p_Mo_frame hn Wc20 (a1 := 4) t_a0 (by omega) (by omega) e2443
                refine wb eq22 ?_
                have e2508 := (Zfr.gi fq22 t_a0 (by decide)).trans e2441
                have e2509 := (Zfr.gi fq22 t_a0 (by decide)).trans e2442
                have e2510 := (Zfr.gr fq22 t_a0 (by decide)).trans e2444
                have e2511 := (Zfr.gr fq22 t_a0 (by decide)).trans e2446
                have e2512 := (Zfr.gr fq22 t_a0 (by decide)).trans e2447
                have e2513 := (Zfr.gr fq22 t_a0 (by decide)).trans e2448
                have e2514 := (Zfr.ai fq22 tks0 (by decide)).trans e2449
                have e2515 := (Zfr.ai fq22 tkl0 (by decide)).trans e2450
                have e2516 := (Zfr.ai fq22 tkw0 (by decide)).trans e2451
                have e2517 := (Zfr.gi fq22 t_a0 (by decide)).trans e2452
                have e2518 := (Zfr.gr fq22 t_a0 (by decide)).trans e2453
                have e2519 := (Zfr.gr fq22 t_a0 (by decide)).trans e2454
                have e2520 := (Zfr.gr fq22 t_a0 (by decide)).trans e2455
                have e2521 := (Zfr.ai fq22 tkkq10 (by decide)).trans e2456
                have e2522 := (Zfr.gi fq22 t_a0 (by decide)).trans e2457
                have e2523 := (Zfr.gi fq22 t_a0 (by decide)).trans e2458
                have k2524 := GtP_fr k2460 fq22 t_a0 Wc20 (by decide)
                have sc2526 := Sc_fr fq22 t_a0 (by decide) (by decide) (by decide)
                have k2525 := WyN_fr k2461 fq22 t_a0 Wc20 (by decide) sc2526
                have k2527 := TbI_fr k2463 fq22 t_a0 Wc20 (by decide) sc2526
                have k2528 := TbC_fr k2464 fq22 t_a0 Wc20 (by decide) sc2526
                have k2529 := TkN_fr k2465 fq22 t_a0 Wc20 (by decide)
                have k2530 := PI_push k2466 k2467 (psJ (by omega) (by omega) (by omega) (by omega) (by omega)) (by omega) (by omega) (fun y_ => two_i (by omega)) e2457 e2458 (by omega) fq22 t_a0 Wc20 po0q22 e2443 (by omega)
                have F2532 := Zfr.tr F2468 fq22 (by decide)
                exact ⟨_, rfl, Wq22, F2532, ⟨bf2q15, bt2q15, dv, bks0, bkl0, bkw0, bna0, blb0, bnw0, bvn0, e2508, e2522, e2523, e2509, e2511, e2512, e2513, e2514, e2515, e2516, e2517, tks0, tkl0, tkw0, by (try dsimp only); omega, by (try dsimp only); omega, by (try dsimp only); omega, by (try dsimp only); omega, by (try dsimp only); omega, by (try dsimp only); omega, by (try dsimp only); omega, by (try dsimp only); omega, by (try dsimp only); omega, by (try dsimp only); omega, by (try dsimp only); omega, by (try dsimp only); omega, by (try dsimp only); omega, by (try dsimp only); omega, by (try dsimp only); omega, by (try dsimp only); omega, by (try dsimp only); omega, by (try dsimp only); omega, by (try dsimp only); omega, by (try dsimp only); omega, k2524, k2525, k2527, k2528, k2529⟩, k2530⟩
            · have := li_6
              have hq2383 := i_nle hq2383
              refine wb e2358 ?_
              have := li_1
              have := i_sub (a := fr) (b := 1) (by omega) (by omega)
              obtain ⟨c25, ec25, Wc25, fc25, gc25⟩ := pf_64_69 Wq10 t_a0 (x := (fr - 1)) (rgi (by omega) (by omega))
              refine wb ec25 ?_
              have e2544 := (Zfr.gi fc25 t_a0 (by decide)).trans e2355
              have e2545 := (Zfr.gi fc25 t_a0 (by decide)).trans e2356
              have e2546 := (Zfr.gi fc25 t_a0 (by decide)).trans e2357
              have e2547 := (Zfr.gr fc25 t_a0 (by decide)).trans e2359
              have e2548 := (Zfr.ai fc25 tqw_1 (by decide)).trans e2360
              have e2549 := (Zfr.gr fc25 t_a0 (by decide)).trans e2361
              have e2550 := (Zfr.gr fc25 t_a0 (by decide)).trans e2362
              have e2551 := (Zfr.gr fc25 t_a0 (by decide)).trans e2363
              have e2552 := (Zfr.ai fc25 tks0 (by decide)).trans e2364
              have e2553 := (Zfr.ai fc25 tkl0 (by decide)).trans e2365
              have e2554 := (Zfr.ai fc25 tkw0 (by decide)).trans e2366
              have e2555 := (Zfr.gi fc25 t_a0 (by decide)).trans e2367
              have e2556 := (Zfr.gr fc25 t_a0 (by decide)).trans e2368
              have e2557 := (Zfr.gr fc25 t_a0 (by decide)).trans e2369
              have e2558 := (Zfr.ai fc25 tw_2 (by decide)).trans e2370
              have e2559 := (Zfr.ai fc25 tw_3 (by decide)).trans e2371
              have e2560 := (Zfr.gi fc25 t_a0 (by decide)).trans h0ZScq10
              have e2561 := (Zfr.gr fc25 t_a0 (by decide)).trans h0Zkdq10
              have e2562 := (Zfr.ai fc25 tkkq10 (by decide)).trans h1Zkdq10
              have k2563 := GtP_fr k2372 fc25 t_a0 Wq10 (by decide)
              have sc2565 := Sc_fr fc25 t_a0 (by decide) (by decide) (by decide)
              have k2564 := WyN_fr k2373 fc25 t_a0 Wq10 (by decide) sc2565
              have k2566 := TbI_fr k2375 fc25 t_a0 Wq10 (by decide) sc2565
              have k2567 := TbC_fr k2376 fc25 t_a0 Wq10 (by decide) sc2565
              have k2568 := TkN_fr k2377 fc25 t_a0 Wq10 (by decide)
              have k2569 := PB_s0 k2378 fc25 t_a0 Wq10 (by decide) sc2565
              have k2570 := TpK_fr k2379 fc25 t_a0 Wq10 (by decide)
              have F2571 := Zfr.tr F2380 fc25 (by decide)
              exact ⟨_, rfl, Wc25, F2571, ⟨bf2q10, tv, dv, bks0, bkl0, bkw0, bna0, blb0, bnw0, bvn0, e2544, e2560, e2545, e2546, e2549, e2550, e2551, e2552, e2553, e2554, e2555, tks0, tkl0, tkw0, by (try dsimp only); omega, by (try dsimp only); omega, by (try dsimp only); omega, by (try dsimp only); omega, by (try dsimp only); omega, by (try dsimp only); omega, by (try dsimp only); omega, by (try dsimp only); omega, by (try dsimp only); omega, by (try dsimp only); omega, by (try dsimp only); omega, by (try dsimp only); omega, by (try dsimp only); omega, by (try dsimp only); omega, by (try dsimp only); omega, by (try dsimp only); omega, by (try dsimp only); omega, by (try dsimp only); omega, by (try dsimp only); omega, by (try dsimp only); omega, k2563, k2564, k2566, k2567, k2568⟩, PI_pop k2569 (by omega) (by omega) (by omega) (by omega) gc25 (by omega) (by omega)⟩
          · have := li_42
            have := i_ge q10.1
            have := i_up q10.1
            have hq2382 := i_ne hq2382
            unfold f_Mo_reckoned_112
            refine wi (fun hq2585 => ?_) (fun hq2585 => ?_)
            · have := li_m1
              have hq2585 := i_le hq2585
              obtain ⟨w16, ew16⟩ := go_64 Wq10 t_a0
              refine wb ew16 ?_
              obtain ⟨q15, eq15, Wq15, fq15, pbZSq15⟩ := p_Mo_pass hn Wq10  t_a0 (by omega) (by omega) (by omega) (by omega) h0ZScq10 e2356
              refine wb eq15 ?_
              have e2588 := (Zfr.gi fq15 t_a0 (by decide)).trans e2355
              have e2589 := (Zfr.gi fq15 t_a0 (by decide)).trans e2357
              have e2590 := (Zfr.gi fq15 t_a0 (by decide)).trans e2358
              have e2591 := (Zfr.gr fq15 t_a0 (by decide)).trans e2359
              have e2592 := (Zfr.ai fq15 tqw_1 (by decide)).trans e2360
              have e2593 := (Zfr.gr fq15 t_a0 (by decide)).trans e2361
              have e2594 := (Zfr.gr fq15 t_a0 (by decide)).trans e2362
              have e2595 := (Zfr.gr fq15 t_a0 (by decide)).trans e2363
              have e2596 := (Zfr.ai fq15 tks0 (by decide)).trans e2364
              have e2597 := (Zfr.ai fq15 tkl0 (by decide)).trans e2365
              have e2598 := (Zfr.ai fq15 tkw0 (by decide)).trans e2366
              have e2599 := (Zfr.gi fq15 t_a0 (by decide)).trans e2367
              have e2600 := (Zfr.gr fq15 t_a0 (by decide)).trans e2368
              have e2601 := (Zfr.gr fq15 t_a0 (by decide)).trans e2369
              have e2602 := (Zfr.ai fq15 tw_2 (by decide)).trans e2370
              have e2603 := (Zfr.ai fq15 tw_3 (by decide)).trans e2371
              have e2604 := (Zfr.gr fq15 t_a0 (by decide)).trans h0Zkdq10
              have e2605 := (Zfr.ai fq15 tkkq10 (by decide)).trans h1Zkdq10
              have k2606 := GtP_fr k2372 fq15 t_a0 Wq10 (by decide)
              have := li_1
              have sc2608 : Sc q10.2 q15 a0 (1) (0) := by
                obtain ⟨yf2, yt2, z0y, z1y, x0y, x1y, x2y, x3y, x4y, x5y⟩ := pbZSq15
                exact Sc_mk h0ZScq10 z0y e2356 z1y e2357 ((Zfr.gi (ci := 12) fq15 t_a0 (by decide)).trans e2357) (by omega)
              have k2607 := WyN_fr k2373 fq15 t_a0 Wq10 (by decide) sc2608
              have k2609 := TbI_fr k2375 fq15 t_a0 Wq10 (by decide) sc2608
              have k2610 := TbC_fr k2376 fq15 t_a0 Wq10 (by decide) sc2608
              have k2611 := TkN_fr k2377 fq15 t_a0 Wq10 (by decide)
              have k2612 := PB_sc k2378 fq15 t_a0 Wq10 (by decide) sc2608 (by omega)
              have k2613 := TpK_fr k2379 fq15 t_a0 Wq10 (by decide)
              have F2614 := Zfr.tr F2380 fq15 (by decide)
              obtain ⟨bf2q15, bt2q15, h0ZSq15, h1ZSq15, r0ZSq15, r1ZSq15, r2ZSq15, r3ZSq15, r4ZSq15, r5ZSq15⟩ := pbZSq15
              refine wb e2601 ?_
              obtain ⟨c18, ec18, Wc18, fc18, gc18⟩ := pa_116 Wq15 tw_3 (i := a1) (by omega) (by omega) (x := (-1)) (trivial)
              refine wb ec18 ?_
              have e2615 := (Zfr.gi fc18 t_a0 (by decide)).trans e2588
              have e2616 := (Zfr.gi fc18 t_a0 (by decide)).trans e2589
              have e2617 := (Zfr.gi fc18 t_a0 (by decide)).trans e2590
              have e2618 := (Zfr.gr fc18 t_a0 (by decide)).trans e2591
              have e2619 := (Zfr.ai fc18 tqw_1 (by decide)).trans e2592
              have e2620 := (Zfr.gr fc18 t_a0 (by decide)).trans e2593
              have e2621 := (Zfr.gr fc18 t_a0 (by decide)).trans e2594
              have e2622 := (Zfr.gr fc18 t_a0 (by decide)).trans e2595
              have e2623 := (Zfr.ai fc18 tks0 (by decide)).trans e2596
              have e2624 := (Zfr.ai fc18 tkl0 (by decide)).trans e2597
              have e2625 := (Zfr.ai fc18 tkw0 (by decide)).trans e2598
              have e2626 := (Zfr.gi fc18 t_a0 (by decide)).trans e2599
              have e2627 := (Zfr.gr fc18 t_a0 (by decide)).trans e2600
              have e2628 := (Zfr.gr fc18 t_a0 (by decide)).trans e2601
              have e2629 := (Zfr.ai fc18 tw_2 (by decide)).trans e2602
              have e2630 := (Zfr.gr fc18 t_a0 (by decide)).trans e2604
              have e2631 := (Zfr.ai fc18 tkkq10 (by decide)).trans e2605
              have e2632 := (Zfr.gi fc18 t_a0 (by decide)).trans h0ZSq15
              have e2633 := (Zfr.gi fc18 t_a0 (by decide)).trans h1ZSq15
              have k2634 := GtP_fr k2606 fc18 t_a0 Wq15 (by decide)
              have sc2636 := Sc_fr fc18 t_a0 (by decide) (by decide) (by decide)
              have k2635 := WyN_fr k2607 fc18 t_a0 Wq15 (by decide) sc2636
              have k2637 := TbI_fr k2609 fc18 t_a0 Wq15 (by decide) sc2636
              have k2638 := TbC_fr k2610 fc18 t_a0 Wq15 (by decide) sc2636
              have k2639 := TkN_fr k2611 fc18 t_a0 Wq15 (by decide)
              have k2640 := PB_w68 k2612 Wq15 t_a0 fc18 e2601 ec18 rfl
              have k2641 := TpK_w68 k2613 Wq15 t_a0 fc18 e2601 ec18 rfl
              have F2642 := Zfr.tr F2614 fc18 (by decide)
              refine wb e2627 ?_
              obtain ⟨c20, ec20, Wc20, fc20, gc20⟩ := pa_115 Wc18 tw_2 (i := a1) (by omega) (by omega) (x := 2) (trivial)
              refine wb ec20 ?_
              have e2643 := (Zfr.gi fc20 t_a0 (by decide)).trans e2615
              have e2644 := (Zfr.gi fc20 t_a0 (by decide)).trans e2616
              have e2645 := (Zfr.gi fc20 t_a0 (by decide)).trans e2617
              have e2646 := (Zfr.gr fc20 t_a0 (by decide)).trans e2618
              have e2647 := (Zfr.ai fc20 tqw_1 (by decide)).trans e2619
              have e2648 := (Zfr.gr fc20 t_a0 (by decide)).trans e2620
              have e2649 := (Zfr.gr fc20 t_a0 (by decide)).trans e2621
              have e2650 := (Zfr.gr fc20 t_a0 (by decide)).trans e2622
              have e2651 := (Zfr.ai fc20 tks0 (by decide)).trans e2623
              have e2652 := (Zfr.ai fc20 tkl0 (by decide)).trans e2624
              have e2653 := (Zfr.ai fc20 tkw0 (by decide)).trans e2625
              have e2654 := (Zfr.gi fc20 t_a0 (by decide)).trans e2626
              have e2655 := (Zfr.gr fc20 t_a0 (by decide)).trans e2627
              have e2656 := (Zfr.gr fc20 t_a0 (by decide)).trans e2628
              have e2657 := (Zfr.gr fc20 t_a0 (by decide)).trans e2630
              have e2658 := (Zfr.ai fc20 tkkq10 (by decide)).trans e2631
              have e2659 := (Zfr.gi fc20 t_a0 (by decide)).trans e2632
              have e2660 := (Zfr.gi fc20 t_a0 (by decide)).trans e2633
              have e2661 := (Zfr.ai fc20 tw_3 (by decide)).trans gc18
              have k2662 := GtP_fr k2634 fc20 t_a0 Wc18 (by decide)
              have sc2664 := Sc_fr fc20 t_a0 (by decide) (by decide) (by decide)
              have k2663 := WyN_fr k2635 fc20 t_a0 Wc18 (by decide) sc2664
              have k2665 := TbI_fr k2637 fc20 t_a0 Wc18 (by decide) sc2664
              have k2666 := TbC_fr k2638 fc20 t_a0 Wc18 (by decide) sc2664
              have k2667 := TkN_fr k2639 fc20 t_a0 Wc18 (by decide)
              have k2668 := PB_w67 k2640 Wc18 t_a0 fc20 e2627 ec20 rfl
              have k2669 := TpK_w67 k2641 Wc18 t_a0 fc20 e2627 ec20 rfl
              have F2670 := Zfr.tr F2642 fc20 (by decide)
              refine wi (fun hq2671 => ?_) (fun hq2671 => ?_)
              · have hq2671 := i_eq hq2671
                unfold f_Mo_reckoned_159
                obtain ⟨w23, ew23⟩ := go_64 Wc20 t_a0
                refine wb ew23 ?_
                have := li_5
                obtain ⟨q22, eq22, Wq22, fq22, po0q22⟩ := p_Mo_frame hn Wc20 (a1 := 5) t_a0 (by omega) (by omega) e2645
                refine wb eq22 ?_
                have e2673 := (Zfr.gi fq22 t_a0 (by decide)).trans e2643
                have e2674 := (Zfr.gi fq22 t_a0 (by decide)).trans e2644
                have e2675 := (Zfr.gr fq22 t_a0 (by decide)).trans e2646
                have e2676 := (Zfr.gr fq22 t_a0 (by decide)).trans e2648
                have e2677 := (Zfr.gr fq22 t_a0 (by decide)).trans e2649
                have e2678 := (Zfr.gr fq22 t_a0 (by decide)).trans e2650
                have e2679 := (Zfr.ai fq22 tks0 (by decide)).trans e2651
                have e2680 := (Zfr.ai fq22 tkl0 (by decide)).trans e2652
                have e2681 := (Zfr.ai fq22 tkw0 (by decide)).trans e2653
                have e2682 := (Zfr.gi fq22 t_a0 (by decide)).trans e2654
                have e2683 := (Zfr.gr fq22 t_a0 (by decide)).trans e2655
                have e2684 := (Zfr.gr fq22 t_a0 (by decide)).trans e2656
                have e2685 := (Zfr.gr fq22 t_a0 (by decide)).trans e2657
                have e2686 := (Zfr.ai fq22 tkkq10 (by decide)).trans e2658
                have e2687 := (Zfr.gi fq22 t_a0 (by decide)).trans e2659
                have e2688 := (Zfr.gi fq22 t_a0 (by decide)).trans e2660
                have k2689 := GtP_fr k2662 fq22 t_a0 Wc20 (by decide)
                have sc2691 := Sc_fr fq22 t_a0 (by decide) (by decide) (by decide)
                have k2690 := WyN_fr k2663 fq22 t_a0 Wc20 (by decide) sc2691
                have k2692 := TbI_fr k2665 fq22 t_a0 Wc20 (by decide) sc2691
                have k2693 := TbC_fr k2666 fq22 t_a0 Wc20 (by decide) sc2691
                have k2694 := TkN_fr k2667 fq22 t_a0 Wc20 (by decide)
                have k2695 := PI_push k2668 k2669 (psJ (by omega) (by omega) (by omega) (by omega) (by omega)) (by omega) (by omega) (fun y_ => two_i (by omega)) e2659 e2660 (by omega) fq22 t_a0 Wc20 po0q22 e2645 (by omega)
                have F2697 := Zfr.tr F2670 fq22 (by decide)
                exact ⟨_, rfl, Wq22, F2697, ⟨bf2q15, bt2q15, dv, bks0, bkl0, bkw0, bna0, blb0, bnw0, bvn0, e2673, e2687, e2688, e2674, e2676, e2677, e2678, e2679, e2680, e2681, e2682, tks0, tkl0, tkw0, by (try dsimp only); omega, by (try dsimp only); omega, by (try dsimp only); omega, by (try dsimp only); omega, by (try dsimp only); omega, by (try dsimp only); omega, by (try dsimp only); omega, by (try dsimp only); omega, by (try dsimp only); omega, by (try dsimp only); omega, by (try dsimp only); omega, by (try dsimp only); omega, by (try dsimp only); omega, by (try dsimp only); omega, by (try dsimp only); omega, by (try dsimp only); omega, by (try dsimp only); omega, by (try dsimp only); omega, by (try dsimp only); omega, by (try dsimp only); omega, k2689, k2690, k2692, k2693, k2694⟩, k2695⟩
              · have hq2671 := i_ne hq2671
                unfold f_Mo_reckoned_159
                obtain ⟨w23, ew23⟩ := go_64 Wc20 t_a0
                refine wb ew23 ?_
                have := li_4
                obtain ⟨q22, eq22, Wq22, fq22, po0q22⟩ := p_Mo_frame hn Wc20 (a1 := 4) t_a0 (by omega) (by omega) e2645
                refine wb eq22 ?_
                have e2710 := (Zfr.gi fq22 t_a0 (by decide)).trans e2643
                have e2711 := (Zfr.gi fq22 t_a0 (by decide)).trans e2644
                have e2712 := (Zfr.gr fq22 t_a0 (by decide)).trans e2646
                have e2713 := (Zfr.gr fq22 t_a0 (by decide)).trans e2648
                have e2714 := (Zfr.gr fq22 t_a0 (by decide)).trans e2649
                have e2715 := (Zfr.gr fq22 t_a0 (by decide)).trans e2650
                have e2716 := (Zfr.ai fq22 tks0 (by decide)).trans e2651
                have e2717 := (Zfr.ai fq22 tkl0 (by decide)).trans e2652
                have e2718 := (Zfr.ai fq22 tkw0 (by decide)).trans e2653
                have e2719 := (Zfr.gi fq22 t_a0 (by decide)).trans e2654
                have e2720 := (Zfr.gr fq22 t_a0 (by decide)).trans e2655
                have e2721 := (Zfr.gr fq22 t_a0 (by decide)).trans e2656
                have e2722 := (Zfr.gr fq22 t_a0 (by decide)).trans e2657
                have e2723 := (Zfr.ai fq22 tkkq10 (by decide)).trans e2658
                have e2724 := (Zfr.gi fq22 t_a0 (by decide)).trans e2659
                have e2725 := (Zfr.gi fq22 t_a0 (by decide)).trans e2660
                have k2726 := GtP_fr k2662 fq22 t_a0 Wc20 (by decide)
                have sc2728 := Sc_fr fq22 t_a0 (by decide) (by decide) (by decide)
                have k2727 := WyN_fr k2663 fq22 t_a0 Wc20 (by decide) sc2728
                have k2729 := TbI_fr k2665 fq22 t_a0 Wc20 (by decide) sc2728
                have k2730 := TbC_fr k2666 fq22 t_a0 Wc20 (by decide) sc2728
                have k2731 := TkN_fr k2667 fq22 t_a0 Wc20 (by decide)
                have k2732 := PI_push k2668 k2669 (psJ (by omega) (by omega) (by omega) (by omega) (by omega)) (by omega) (by omega) (fun y_ => two_i (by omega)) e2659 e2660 (by omega) fq22 t_a0 Wc20 po0q22 e2645 (by omega)
                have F2734 := Zfr.tr F2670 fq22 (by decide)
                exact ⟨_, rfl, Wq22, F2734, ⟨bf2q15, bt2q15, dv, bks0, bkl0, bkw0, bna0, blb0, bnw0, bvn0, e2710, e2724, e2725, e2711, e2713, e2714, e2715, e2716, e2717, e2718, e2719, tks0, tkl0, tkw0, by (try dsimp only); omega, by (try dsimp only); omega, by (try dsimp only); omega, by (try dsimp only); omega, by (try dsimp only); omega, by (try dsimp only); omega, by (try dsimp only); omega, by (try dsimp only); omega, by (try dsimp only); omega, by (try dsimp only); omega, by (try dsimp only); omega, by (try dsimp only); omega, by (try dsimp only); omega, by (try dsimp only); omega, by (try dsimp only); omega, by (try dsimp only); omega, by (try dsimp only); omega, by (try dsimp only); omega, by (try dsimp only); omega, by (try dsimp only); omega, k2726, k2727, k2729, k2730, k2731⟩, k2732⟩
            · have := li_m1
              have hq2585 := i_nle hq2585
              refine wb e2358 ?_
              have := li_1
              have := i_sub (a := fr) (b := 1) (by omega) (by omega)
              obtain ⟨c25, ec25, Wc25, fc25, gc25⟩ := pf_64_69 Wq10 t_a0 (x := (fr - 1)) (rgi (by omega) (by omega))
              refine wb ec25 ?_
              have e2746 := (Zfr.gi fc25 t_a0 (by decide)).trans e2355
              have e2747 := (Zfr.gi fc25 t_a0 (by decide)).trans e2356
              have e2748 := (Zfr.gi fc25 t_a0 (by decide)).trans e2357
              have e2749 := (Zfr.gr fc25 t_a0 (by decide)).trans e2359
              have e2750 := (Zfr.ai fc25 tqw_1 (by decide)).trans e2360
              have e2751 := (Zfr.gr fc25 t_a0 (by decide)).trans e2361
              have e2752 := (Zfr.gr fc25 t_a0 (by decide)).trans e2362
              have e2753 := (Zfr.gr fc25 t_a0 (by decide)).trans e2363
              have e2754 := (Zfr.ai fc25 tks0 (by decide)).trans e2364
              have e2755 := (Zfr.ai fc25 tkl0 (by decide)).trans e2365
              have e2756 := (Zfr.ai fc25 tkw0 (by decide)).trans e2366
              have e2757 := (Zfr.gi fc25 t_a0 (by decide)).trans e2367
              have e2758 := (Zfr.gr fc25 t_a0 (by decide)).trans e2368
              have e2759 := (Zfr.gr fc25 t_a0 (by decide)).trans e2369
              have e2760 := (Zfr.ai fc25 tw_2 (by decide)).trans e2370
              have e2761 := (Zfr.ai fc25 tw_3 (by decide)).trans e2371
              have e2762 := (Zfr.gi fc25 t_a0 (by decide)).trans h0ZScq10
              have e2763 := (Zfr.gr fc25 t_a0 (by decide)).trans h0Zkdq10
              have e2764 := (Zfr.ai fc25 tkkq10 (by decide)).trans h1Zkdq10
              have k2765 := GtP_fr k2372 fc25 t_a0 Wq10 (by decide)
              have sc2767 := Sc_fr fc25 t_a0 (by decide) (by decide) (by decide)
              have k2766 := WyN_fr k2373 fc25 t_a0 Wq10 (by decide) sc2767
              have k2768 := TbI_fr k2375 fc25 t_a0 Wq10 (by decide) sc2767
              have k2769 := TbC_fr k2376 fc25 t_a0 Wq10 (by decide) sc2767
              have k2770 := TkN_fr k2377 fc25 t_a0 Wq10 (by decide)
              have k2771 := PB_s0 k2378 fc25 t_a0 Wq10 (by decide) sc2767
              have k2772 := TpK_fr k2379 fc25 t_a0 Wq10 (by decide)
              have F2773 := Zfr.tr F2380 fc25 (by decide)
              exact ⟨_, rfl, Wc25, F2773, ⟨bf2q10, tv, dv, bks0, bkl0, bkw0, bna0, blb0, bnw0, bvn0, e2746, e2762, e2747, e2748, e2751, e2752, e2753, e2754, e2755, e2756, e2757, tks0, tkl0, tkw0, by (try dsimp only); omega, by (try dsimp only); omega, by (try dsimp only); omega, by (try dsimp only); omega, by (try dsimp only); omega, by (try dsimp only); omega, by (try dsimp only); omega, by (try dsimp only); omega, by (try dsimp only); omega, by (try dsimp only); omega, by (try dsimp only); omega, by (try dsimp only); omega, by (try dsimp only); omega, by (try dsimp only); omega, by (try dsimp only); omega, by (try dsimp only); omega, by (try dsimp only); omega, by (try dsimp only); omega, by (try dsimp only); omega, by (try dsimp only); omega, k2765, k2766, k2768, k2769, k2770⟩, PI_pop k2771 (by omega) (by omega) (by omega) (by omega) gc25 (by omega) (by omega)⟩
        · have hq2381 := i_ne hq2381
          refine wi (fun hq2787 => ?_) (fun hq2787 => ?_)
          · have := li_43
            have := i_ge q10.1
            have := i_up q10.1
            have hq2787 := i_eq hq2787
            unfold f_Mo_reckoned_112
            refine wi (fun hq2788 => ?_) (fun hq2788 => ?_)
            · have := li_4
              have hq2788 := i_le hq2788
              obtain ⟨w16, ew16⟩ := go_64 Wq10 t_a0
              refine wb ew16 ?_
              obtain ⟨q15, eq15, Wq15, fq15, pbZSq15⟩ := p_Mo_pass hn Wq10  t_a0 (by omega) (by omega) (by omega) (by omega) h0ZScq10 e2356
              refine wb eq15 ?_
              have e2791 := (Zfr.gi fq15 t_a0 (by decide)).trans e2355
              have e2792 := (Zfr.gi fq15 t_a0 (by decide)).trans e2357
              have e2793 := (Zfr.gi fq15 t_a0 (by decide)).trans e2358
              have e2794 := (Zfr.gr fq15 t_a0 (by decide)).trans e2359
              have e2795 := (Zfr.ai fq15 tqw_1 (by decide)).trans e2360
              have e2796 := (Zfr.gr fq15 t_a0 (by decide)).trans e2361
              have e2797 := (Zfr.gr fq15 t_a0 (by decide)).trans e2362
              have e2798 := (Zfr.gr fq15 t_a0 (by decide)).trans e2363
              have e2799 := (Zfr.ai fq15 tks0 (by decide)).trans e2364
              have e2800 := (Zfr.ai fq15 tkl0 (by decide)).trans e2365
              have e2801 := (Zfr.ai fq15 tkw0 (by decide)).trans e2366
              have e2802 := (Zfr.gi fq15 t_a0 (by decide)).trans e2367
              have e2803 := (Zfr.gr fq15 t_a0 (by decide)).trans e2368
              have e2804 := (Zfr.gr fq15 t_a0 (by decide)).trans e2369
              have e2805 := (Zfr.ai fq15 tw_2 (by decide)).trans e2370
              have e2806 := (Zfr.ai fq15 tw_3 (by decide)).trans e2371
              have e2807 := (Zfr.gr fq15 t_a0 (by decide)).trans h0Zkdq10
              have e2808 := (Zfr.ai fq15 tkkq10 (by decide)).trans h1Zkdq10
              have k2809 := GtP_fr k2372 fq15 t_a0 Wq10 (by decide)
              have := li_1
              have sc2811 : Sc q10.2 q15 a0 (1) (0) := by
                obtain ⟨yf2, yt2, z0y, z1y, x0y, x1y, x2y, x3y, x4y, x5y⟩ := pbZSq15
                exact Sc_mk h0ZScq10 z0y e2356 z1y e2357 ((Zfr.gi (ci := 12) fq15 t_a0 (by decide)).trans e2357) (by omega)
              have k2810 := WyN_fr k2373 fq15 t_a0 Wq10 (by decide) sc2811
              have k2812 := TbI_fr k2375 fq15 t_a0 Wq10 (by decide) sc2811
              have k2813 := TbC_fr k2376 fq15 t_a0 Wq10 (by decide) sc2811
              have k2814 := TkN_fr k2377 fq15 t_a0 Wq10 (by decide)
              have k2815 := PB_sc k2378 fq15 t_a0 Wq10 (by decide) sc2811 (by omega)
              have k2816 := TpK_fr k2379 fq15 t_a0 Wq10 (by decide)
              have F2817 := Zfr.tr F2380 fq15 (by decide)
              obtain ⟨bf2q15, bt2q15, h0ZSq15, h1ZSq15, r0ZSq15, r1ZSq15, r2ZSq15, r3ZSq15, r4ZSq15, r5ZSq15⟩ := pbZSq15
              refine wb e2804 ?_
              obtain ⟨c18, ec18, Wc18, fc18, gc18⟩ := pa_116 Wq15 tw_3 (i := a1) (by omega) (by omega) (x := 4) (trivial)
              refine wb ec18 ?_
              have e2818 := (Zfr.gi fc18 t_a0 (by decide)).trans e2791
              have e2819 := (Zfr.gi fc18 t_a0 (by decide)).trans e2792
              have e2820 := (Zfr.gi fc18 t_a0 (by decide)).trans e2793
              have e2821 := (Zfr.gr fc18 t_a0 (by decide)).trans e2794
              have e2822 := (Zfr.ai fc18 tqw_1 (by decide)).trans e2795
              have e2823 := (Zfr.gr fc18 t_a0 (by decide)).trans e2796
              have e2824 := (Zfr.gr fc18 t_a0 (by decide)).trans e2797
              have e2825 := (Zfr.gr fc18 t_a0 (by decide)).trans e2798
              have e2826 := (Zfr.ai fc18 tks0 (by decide)).trans e2799
              have e2827 := (Zfr.ai fc18 tkl0 (by decide)).trans e2800
              have e2828 := (Zfr.ai fc18 tkw0 (by decide)).trans e2801
              have e2829 := (Zfr.gi fc18 t_a0 (by decide)).trans e2802
              have e2830 := (Zfr.gr fc18 t_a0 (by decide)).trans e2803
              have e2831 := (Zfr.gr fc18 t_a0 (by decide)).trans e2804
              have e2832 := (Zfr.ai fc18 tw_2 (by decide)).trans e2805
              have e2833 := (Zfr.gr fc18 t_a0 (by decide)).trans e2807
              have e2834 := (Zfr.ai fc18 tkkq10 (by decide)).trans e2808
              have e2835 := (Zfr.gi fc18 t_a0 (by decide)).trans h0ZSq15
              have e2836 := (Zfr.gi fc18 t_a0 (by decide)).trans h1ZSq15
              have k2837 := GtP_fr k2809 fc18 t_a0 Wq15 (by decide)
              have sc2839 := Sc_fr fc18 t_a0 (by decide) (by decide) (by decide)
              have k2838 := WyN_fr k2810 fc18 t_a0 Wq15 (by decide) sc2839
              have k2840 := TbI_fr k2812 fc18 t_a0 Wq15 (by decide) sc2839
              have k2841 := TbC_fr k2813 fc18 t_a0 Wq15 (by decide) sc2839
              have k2842 := TkN_fr k2814 fc18 t_a0 Wq15 (by decide)
              have k2843 := PB_w68 k2815 Wq15 t_a0 fc18 e2804 ec18 rfl
              have k2844 := TpK_w68 k2816 Wq15 t_a0 fc18 e2804 ec18 rfl
              have F2845 := Zfr.tr F2817 fc18 (by decide)
              refine wb e2830 ?_
              obtain ⟨c20, ec20, Wc20, fc20, gc20⟩ := pa_115 Wc18 tw_2 (i := a1) (by omega) (by omega) (x := 2) (trivial)
              refine wb ec20 ?_
              have e2846 := (Zfr.gi fc20 t_a0 (by decide)).trans e2818
              have e2847 := (Zfr.gi fc20 t_a0 (by decide)).trans e2819
              have e2848 := (Zfr.gi fc20 t_a0 (by decide)).trans e2820
              have e2849 := (Zfr.gr fc20 t_a0 (by decide)).trans e2821
              have e2850 := (Zfr.ai fc20 tqw_1 (by decide)).trans e2822
              have e2851 := (Zfr.gr fc20 t_a0 (by decide)).trans e2823
              have e2852 := (Zfr.gr fc20 t_a0 (by decide)).trans e2824
              have e2853 := (Zfr.gr fc20 t_a0 (by decide)).trans e2825
              have e2854 := (Zfr.ai fc20 tks0 (by decide)).trans e2826
              have e2855 := (Zfr.ai fc20 tkl0 (by decide)).trans e2827
              have e2856 := (Zfr.ai fc20 tkw0 (by decide)).trans e2828
              have e2857 := (Zfr.gi fc20 t_a0 (by decide)).trans e2829
              have e2858 := (Zfr.gr fc20 t_a0 (by decide)).trans e2830
              have e2859 := (Zfr.gr fc20 t_a0 (by decide)).trans e2831
              have e2860 := (Zfr.gr fc20 t_a0 (by decide)).trans e2833
              have e2861 := (Zfr.ai fc20 tkkq10 (by decide)).trans e2834
              have e2862 := (Zfr.gi fc20 t_a0 (by decide)).trans e2835
              have e2863 := (Zfr.gi fc20 t_a0 (by decide)).trans e2836
              have e2864 := (Zfr.ai fc20 tw_3 (by decide)).trans gc18
              have k2865 := GtP_fr k2837 fc20 t_a0 Wc18 (by decide)
              have sc2867 := Sc_fr fc20 t_a0 (by decide) (by decide) (by decide)
              have k2866 := WyN_fr k2838 fc20 t_a0 Wc18 (by decide) sc2867
              have k2868 := TbI_fr k2840 fc20 t_a0 Wc18 (by decide) sc2867
              have k2869 := TbC_fr k2841 fc20 t_a0 Wc18 (by decide) sc2867
              have k2870 := TkN_fr k2842 fc20 t_a0 Wc18 (by decide)
              have k2871 := PB_w67 k2843 Wc18 t_a0 fc20 e2830 ec20 rfl
              have k2872 := TpK_w67 k2844 Wc18 t_a0 fc20 e2830 ec20 rfl
              have F2873 := Zfr.tr F2845 fc20 (by decide)
              refine wi (fun hq2874 => ?_) (fun hq2874 => ?_)
              · have hq2874 := i_eq hq2874
                unfold f_Mo_reckoned_159
                obtain ⟨w23, ew23⟩ := go_64 Wc20 t_a0
                refine wb ew23 ?_
                have := li_5
                obtain ⟨q22, eq22, Wq22, fq22, po0q22⟩ := p_Mo_frame hn Wc20 (a1 := 5) t_a0 (by omega) (by omega) e2848
                refine wb eq22 ?_
                have e2876 := (Zfr.gi fq22 t_a0 (by decide)).trans e2846
                have e2877 := (Zfr.gi fq22 t_a0 (by decide)).trans e2847
                have e2878 := (Zfr.gr fq22 t_a0 (by decide)).trans e2849
                have e2879 := (Zfr.gr fq22 t_a0 (by decide)).trans e2851
                have e2880 := (Zfr.gr fq22 t_a0 (by decide)).trans e2852
                have e2881 := (Zfr.gr fq22 t_a0 (by decide)).trans e2853
                have e2882 := (Zfr.ai fq22 tks0 (by decide)).trans e2854
                have e2883 := (Zfr.ai fq22 tkl0 (by decide)).trans e2855
                have e2884 := (Zfr.ai fq22 tkw0 (by decide)).trans e2856
                have e2885 := (Zfr.gi fq22 t_a0 (by decide)).trans e2857
                have e2886 := (Zfr.gr fq22 t_a0 (by decide)).trans e2858
                have e2887 := (Zfr.gr fq22 t_a0 (by decide)).trans e2859
                have e2888 := (Zfr.gr fq22 t_a0 (by decide)).trans e2860
                have e2889 := (Zfr.ai fq22 tkkq10 (by decide)).trans e2861
                have e2890 := (Zfr.gi fq22 t_a0 (by decide)).trans e2862
                have e2891 := (Zfr.gi fq22 t_a0 (by decide)).trans e2863
                have k2892 := GtP_fr k2865 fq22 t_a0 Wc20 (by decide)
                have sc2894 := Sc_fr fq22 t_a0 (by decide) (by decide) (by decide)
                have k2893 := WyN_fr k2866 fq22 t_a0 Wc20 (by decide) sc2894
                have k2895 := TbI_fr k2868 fq22 t_a0 Wc20 (by decide) sc2894
                have k2896 := TbC_fr k2869 fq22 t_a0 Wc20 (by decide) sc2894
                have k2897 := TkN_fr k2870 fq22 t_a0 Wc20 (by decide)
                have k2898 := PI_push k2871 k2872 (psJ (by omega) (by omega) (by omega) (by omega) (by omega)) (by omega) (by omega) (fun y_ => two_i (by omega)) e2862 e2863 (by omega) fq22 t_a0 Wc20 po0q22 e2848 (by omega)
                have F2900 := Zfr.tr F2873 fq22 (by decide)
                exact ⟨_, rfl, Wq22, F2900, ⟨bf2q15, bt2q15, dv, bks0, bkl0, bkw0, bna0, blb0, bnw0, bvn0, e2876, e2890, e2891, e2877, e2879, e2880, e2881, e2882, e2883, e2884, e2885, tks0, tkl0, tkw0, by (try dsimp only); omega, by (try dsimp only); omega, by (try dsimp only); omega, by (try dsimp only); omega, by (try dsimp only); omega, by (try dsimp only); omega, by (try dsimp only); omega, by (try dsimp only); omega, by (try dsimp only); omega, by (try dsimp only); omega, by (try dsimp only); omega, by (try dsimp only); omega, by (try dsimp only); omega, by (try dsimp only); omega, by (try dsimp only); omega, by (try dsimp only); omega, by (try dsimp only); omega, by (try dsimp only); omega, by (try dsimp only); omega, by (try dsimp only); omega, k2892, k2893, k2895, k2896, k2897⟩, k2898⟩
              · have hq2874 := i_ne hq2874
                unfold f_Mo_reckoned_159
                obtain ⟨w23, ew23⟩ := go_64 Wc20 t_a0
                refine wb ew23 ?_
                obtain ⟨q22, eq22, Wq22, fq22, po0q22⟩ := p_Mo_frame hn Wc20 (a1 := 4) t_a0 (by omega) (by omega) e2848
                refine wb eq22 ?_
                have e2913 := (Zfr.gi fq22 t_a0 (by decide)).trans e2846
                have e2914 := (Zfr.gi fq22 t_a0 (by decide)).trans e2847
                have e2915 := (Zfr.gr fq22 t_a0 (by decide)).trans e2849
                have e2916 := (Zfr.gr fq22 t_a0 (by decide)).trans e2851
                have e2917 := (Zfr.gr fq22 t_a0 (by decide)).trans e2852
                have e2918 := (Zfr.gr fq22 t_a0 (by decide)).trans e2853
                have e2919 := (Zfr.ai fq22 tks0 (by decide)).trans e2854
                have e2920 := (Zfr.ai fq22 tkl0 (by decide)).trans e2855
                have e2921 := (Zfr.ai fq22 tkw0 (by decide)).trans e2856
                have e2922 := (Zfr.gi fq22 t_a0 (by decide)).trans e2857
                have e2923 := (Zfr.gr fq22 t_a0 (by decide)).trans e2858
                have e2924 := (Zfr.gr fq22 t_a0 (by decide)).trans e2859
                have e2925 := (Zfr.gr fq22 t_a0 (by decide)).trans e2860
                have e2926 := (Zfr.ai fq22 tkkq10 (by decide)).trans e2861
                have e2927 := (Zfr.gi fq22 t_a0 (by decide)).trans e2862
                have e2928 := (Zfr.gi fq22 t_a0 (by decide)).trans e2863
                have k2929 := GtP_fr k2865 fq22 t_a0 Wc20 (by decide)
                have sc2931 := Sc_fr fq22 t_a0 (by decide) (by decide) (by decide)
                have k2930 := WyN_fr k2866 fq22 t_a0 Wc20 (by decide) sc2931
                have k2932 := TbI_fr k2868 fq22 t_a0 Wc20 (by decide) sc2931
                have k2933 := TbC_fr k2869 fq22 t_a0 Wc20 (by decide) sc2931
                have k2934 := TkN_fr k2870 fq22 t_a0 Wc20 (by decide)
                have k2935 := PI_push k2871 k2872 (psJ (by omega) (by omega) (by omega) (by omega) (by omega)) (by omega) (by omega) (fun y_ => two_i (by omega)) e2862 e2863 (by omega) fq22 t_a0 Wc20 po0q22 e2848 (by omega)
                have F2937 := Zfr.tr F2873 fq22 (by decide)
                exact ⟨_, rfl, Wq22, F2937, ⟨bf2q15, bt2q15, dv, bks0, bkl0, bkw0, bna0, blb0, bnw0, bvn0, e2913, e2927, e2928, e2914, e2916, e2917, e2918, e2919, e2920, e2921, e2922, tks0, tkl0, tkw0, by (try dsimp only); omega, by (try dsimp only); omega, by (try dsimp only); omega, by (try dsimp only); omega, by (try dsimp only); omega, by (try dsimp only); omega, by (try dsimp only); omega, by (try dsimp only); omega, by (try dsimp only); omega, by (try dsimp only); omega, by (try dsimp only); omega, by (try dsimp only); omega, by (try dsimp only); omega, by (try dsimp only); omega, by (try dsimp only); omega, by (try dsimp only); omega, by (try dsimp only); omega, by (try dsimp only); omega, by (try dsimp only); omega, by (try dsimp only); omega, k2929, k2930, k2932, k2933, k2934⟩, k2935⟩
            · have := li_4
              have hq2788 := i_nle hq2788
              refine wb e2358 ?_
              have := li_1
              have := i_sub (a := fr) (b := 1) (by omega) (by omega)
              obtain ⟨c25, ec25, Wc25, fc25, gc25⟩ := pf_64_69 Wq10 t_a0 (x := (fr - 1)) (rgi (by omega) (by omega))
              refine wb ec25 ?_
              have e2949 := (Zfr.gi fc25 t_a0 (by decide)).trans e2355
              have e2950 := (Zfr.gi fc25 t_a0 (by decide)).trans e2356
              have e2951 := (Zfr.gi fc25 t_a0 (by decide)).trans e2357
              have e2952 := (Zfr.gr fc25 t_a0 (by decide)).trans e2359
              have e2953 := (Zfr.ai fc25 tqw_1 (by decide)).trans e2360
              have e2954 := (Zfr.gr fc25 t_a0 (by decide)).trans e2361
              have e2955 := (Zfr.gr fc25 t_a0 (by decide)).trans e2362
              have e2956 := (Zfr.gr fc25 t_a0 (by decide)).trans e2363
              have e2957 := (Zfr.ai fc25 tks0 (by decide)).trans e2364
              have e2958 := (Zfr.ai fc25 tkl0 (by decide)).trans e2365
              have e2959 := (Zfr.ai fc25 tkw0 (by decide)).trans e2366
              have e2960 := (Zfr.gi fc25 t_a0 (by decide)).trans e2367
              have e2961 := (Zfr.gr fc25 t_a0 (by decide)).trans e2368
              have e2962 := (Zfr.gr fc25 t_a0 (by decide)).trans e2369
              have e2963 := (Zfr.ai fc25 tw_2 (by decide)).trans e2370
              have e2964 := (Zfr.ai fc25 tw_3 (by decide)).trans e2371
              have e2965 := (Zfr.gi fc25 t_a0 (by decide)).trans h0ZScq10
              have e2966 := (Zfr.gr fc25 t_a0 (by decide)).trans h0Zkdq10
              have e2967 := (Zfr.ai fc25 tkkq10 (by decide)).trans h1Zkdq10
              have k2968 := GtP_fr k2372 fc25 t_a0 Wq10 (by decide)
              have sc2970 := Sc_fr fc25 t_a0 (by decide) (by decide) (by decide)
              have k2969 := WyN_fr k2373 fc25 t_a0 Wq10 (by decide) sc2970
              have k2971 := TbI_fr k2375 fc25 t_a0 Wq10 (by decide) sc2970
              have k2972 := TbC_fr k2376 fc25 t_a0 Wq10 (by decide) sc2970
              have k2973 := TkN_fr k2377 fc25 t_a0 Wq10 (by decide)
              have k2974 := PB_s0 k2378 fc25 t_a0 Wq10 (by decide) sc2970
              have k2975 := TpK_fr k2379 fc25 t_a0 Wq10 (by decide)
              have F2976 := Zfr.tr F2380 fc25 (by decide)
              exact ⟨_, rfl, Wc25, F2976, ⟨bf2q10, tv, dv, bks0, bkl0, bkw0, bna0, blb0, bnw0, bvn0, e2949, e2965, e2950, e2951, e2954, e2955, e2956, e2957, e2958, e2959, e2960, tks0, tkl0, tkw0, by (try dsimp only); omega, by (try dsimp only); omega, by (try dsimp only); omega, by (try dsimp only); omega, by (try dsimp only); omega, by (try dsimp only); omega, by (try dsimp only); omega, by (try dsimp only); omega, by (try dsimp only); omega, by (try dsimp only); omega, by (try dsimp only); omega, by (try dsimp only); omega, by (try dsimp only); omega, by (try dsimp only); omega, by (try dsimp only); omega, by (try dsimp only); omega, by (try dsimp only); omega, by (try dsimp only); omega, by (try dsimp only); omega, by (try dsimp only); omega, k2968, k2969, k2971, k2972, k2973⟩, PI_pop k2974 (by omega) (by omega) (by omega) (by omega) gc25 (by omega) (by omega)⟩
          · have := li_43
            have := i_ge q10.1
            have := i_up q10.1
            have hq2787 := i_ne hq2787
            refine wi (fun hq2990 => ?_) (fun hq2990 => ?_)
            · have := li_45
              have hq2990 := i_eq hq2990
              unfold f_Mo_reckoned_112
              refine wi (fun hq2991 => ?_) (fun hq2991 => ?_)
              · have := li_5
                have hq2991 := i_le hq2991
                obtain ⟨w16, ew16⟩ := go_64 Wq10 t_a0
                refine wb ew16 ?_
                obtain ⟨q15, eq15, Wq15, fq15, pbZSq15⟩ := p_Mo_pass hn Wq10  t_a0 (by omega) (by omega) (by omega) (by omega) h0ZScq10 e2356
                refine wb eq15 ?_
                have e2994 := (Zfr.gi fq15 t_a0 (by decide)).trans e2355
                have e2995 := (Zfr.gi fq15 t_a0 (by decide)).trans e2357
                have e2996 := (Zfr.gi fq15 t_a0 (by decide)).trans e2358
                have e2997 := (Zfr.gr fq15 t_a0 (by decide)).trans e2359
                have e2998 := (Zfr.ai fq15 tqw_1 (by decide)).trans e2360
                have e2999 := (Zfr.gr fq15 t_a0 (by decide)).trans e2361
                have e3000 := (Zfr.gr fq15 t_a0 (by decide)).trans e2362
                have e3001 := (Zfr.gr fq15 t_a0 (by decide)).trans e2363
                have e3002 := (Zfr.ai fq15 tks0 (by decide)).trans e2364
                have e3003 := (Zfr.ai fq15 tkl0 (by decide)).trans e2365
                have e3004 := (Zfr.ai fq15 tkw0 (by decide)).trans e2366
                have e3005 := (Zfr.gi fq15 t_a0 (by decide)).trans e2367
                have e3006 := (Zfr.gr fq15 t_a0 (by decide)).trans e2368
                have e3007 := (Zfr.gr fq15 t_a0 (by decide)).trans e2369
                have e3008 := (Zfr.ai fq15 tw_2 (by decide)).trans e2370
                have e3009 := (Zfr.ai fq15 tw_3 (by decide)).trans e2371
                have e3010 := (Zfr.gr fq15 t_a0 (by decide)).trans h0Zkdq10
                have e3011 := (Zfr.ai fq15 tkkq10 (by decide)).trans h1Zkdq10
                have k3012 := GtP_fr k2372 fq15 t_a0 Wq10 (by decide)
                have := li_1
                have sc3014 : Sc q10.2 q15 a0 (1) (0) := by
                  obtain ⟨yf2, yt2, z0y, z1y, x0y, x1y, x2y, x3y, x4y, x5y⟩ := pbZSq15
                  exact Sc_mk h0ZScq10 z0y e2356 z1y e2357 ((Zfr.gi (ci := 12) fq15 t_a0 (by decide)).trans e2357) (by omega)
                have k3013 := WyN_fr k2373 fq15 t_a0 Wq10 (by decide) sc3014
                have k3015 := TbI_fr k2375 fq15 t_a0 Wq10 (by decide) sc3014
                have k3016 := TbC_fr k2376 fq15 t_a0 Wq10 (by decide) sc3014
                have k3017 := TkN_fr k2377 fq15 t_a0 Wq10 (by decide)
                have k3018 := PB_sc k2378 fq15 t_a0 Wq10 (by decide) sc3014 (by omega)
                have k3019 := TpK_fr k2379 fq15 t_a0 Wq10 (by decide)
                have F3020 := Zfr.tr F2380 fq15 (by decide)
                obtain ⟨bf2q15, bt2q15, h0ZSq15, h1ZSq15, r0ZSq15, r1ZSq15, r2ZSq15, r3ZSq15, r4ZSq15, r5ZSq15⟩ := pbZSq15
                refine wb e3007 ?_
                obtain ⟨c18, ec18, Wc18, fc18, gc18⟩ := pa_116 Wq15 tw_3 (i := a1) (by omega) (by omega) (x := 5) (trivial)
                refine wb ec18 ?_
                have e3021 := (Zfr.gi fc18 t_a0 (by decide)).trans e2994
                have e3022 := (Zfr.gi fc18 t_a0 (by decide)).trans e2995
                have e3023 := (Zfr.gi fc18 t_a0 (by decide)).trans e2996
                have e3024 := (Zfr.gr fc18 t_a0 (by decide)).trans e2997
                have e3025 := (Zfr.ai fc18 tqw_1 (by decide)).trans e2998
                have e3026 := (Zfr.gr fc18 t_a0 (by decide)).trans e2999
                have e3027 := (Zfr.gr fc18 t_a0 (by decide)).trans e3000
                have e3028 := (Zfr.gr fc18 t_a0 (by decide)).trans e3001
                have e3029 := (Zfr.ai fc18 tks0 (by decide)).trans e3002
                have e3030 := (Zfr.ai fc18 tkl0 (by decide)).trans e3003
                have e3031 := (Zfr.ai fc18 tkw0 (by decide)).trans e3004
                have e3032 := (Zfr.gi fc18 t_a0 (by decide)).trans e3005
                have e3033 := (Zfr.gr fc18 t_a0 (by decide)).trans e3006
                have e3034 := (Zfr.gr fc18 t_a0 (by decide)).trans e3007
                have e3035 := (Zfr.ai fc18 tw_2 (by decide)).trans e3008
                have e3036 := (Zfr.gr fc18 t_a0 (by decide)).trans e3010
                have e3037 := (Zfr.ai fc18 tkkq10 (by decide)).trans e3011
                have e3038 := (Zfr.gi fc18 t_a0 (by decide)).trans h0ZSq15
                have e3039 := (Zfr.gi fc18 t_a0 (by decide)).trans h1ZSq15
                have k3040 := GtP_fr k3012 fc18 t_a0 Wq15 (by decide)
                have sc3042 := Sc_fr fc18 t_a0 (by decide) (by decide) (by decide)
                have k3041 := WyN_fr k3013 fc18 t_a0 Wq15 (by decide) sc3042
                have k3043 := TbI_fr k3015 fc18 t_a0 Wq15 (by decide) sc3042
                have k3044 := TbC_fr k3016 fc18 t_a0 Wq15 (by decide) sc3042
                have k3045 := TkN_fr k3017 fc18 t_a0 Wq15 (by decide)
                have k3046 := PB_w68 k3018 Wq15 t_a0 fc18 e3007 ec18 rfl
                have k3047 := TpK_w68 k3019 Wq15 t_a0 fc18 e3007 ec18 rfl
                have F3048 := Zfr.tr F3020 fc18 (by decide)
                refine wb e3033 ?_
                obtain ⟨c20, ec20, Wc20, fc20, gc20⟩ := pa_115 Wc18 tw_2 (i := a1) (by omega) (by omega) (x := 2) (trivial)
                refine wb ec20 ?_
                have e3049 := (Zfr.gi fc20 t_a0 (by decide)).trans e3021
                have e3050 := (Zfr.gi fc20 t_a0 (by decide)).trans e3022
                have e3051 := (Zfr.gi fc20 t_a0 (by decide)).trans e3023
                have e3052 := (Zfr.gr fc20 t_a0 (by decide)).trans e3024
                have e3053 := (Zfr.ai fc20 tqw_1 (by decide)).trans e3025
                have e3054 := (Zfr.gr fc20 t_a0 (by decide)).trans e3026
                have e3055 := (Zfr.gr fc20 t_a0 (by decide)).trans e3027
                have e3056 := (Zfr.gr fc20 t_a0 (by decide)).trans e3028
                have e3057 := (Zfr.ai fc20 tks0 (by decide)).trans e3029
                have e3058 := (Zfr.ai fc20 tkl0 (by decide)).trans e3030
                have e3059 := (Zfr.ai fc20 tkw0 (by decide)).trans e3031
                have e3060 := (Zfr.gi fc20 t_a0 (by decide)).trans e3032
                have e3061 := (Zfr.gr fc20 t_a0 (by decide)).trans e3033
                have e3062 := (Zfr.gr fc20 t_a0 (by decide)).trans e3034
                have e3063 := (Zfr.gr fc20 t_a0 (by decide)).trans e3036
                have e3064 := (Zfr.ai fc20 tkkq10 (by decide)).trans e3037
                have e3065 := (Zfr.gi fc20 t_a0 (by decide)).trans e3038
                have e3066 := (Zfr.gi fc20 t_a0 (by decide)).trans e3039
                have e3067 := (Zfr.ai fc20 tw_3 (by decide)).trans gc18
                have k3068 := GtP_fr k3040 fc20 t_a0 Wc18 (by decide)
                have sc3070 := Sc_fr fc20 t_a0 (by decide) (by decide) (by decide)
                have k3069 := WyN_fr k3041 fc20 t_a0 Wc18 (by decide) sc3070
                have k3071 := TbI_fr k3043 fc20 t_a0 Wc18 (by decide) sc3070
                have k3072 := TbC_fr k3044 fc20 t_a0 Wc18 (by decide) sc3070
                have k3073 := TkN_fr k3045 fc20 t_a0 Wc18 (by decide)
                have k3074 := PB_w67 k3046 Wc18 t_a0 fc20 e3033 ec20 rfl
                have k3075 := TpK_w67 k3047 Wc18 t_a0 fc20 e3033 ec20 rfl
                have F3076 := Zfr.tr F3048 fc20 (by decide)
                refine wi (fun hq3077 => ?_) (fun hq3077 => ?_)
                · have hq3077 := i_eq hq3077
                  unfold f_Mo_reckoned_159
                  obtain ⟨w23, ew23⟩ := go_64 Wc20 t_a0
                  refine wb ew23 ?_
                  obtain ⟨q22, eq22, Wq22, fq22, po0q22⟩ := p_Mo_frame hn Wc20 (a1 := 5) t_a0 (by omega) (by omega) e3051
                  refine wb eq22 ?_
                  have e3079 := (Zfr.gi fq22 t_a0 (by decide)).trans e3049
                  have e3080 := (Zfr.gi fq22 t_a0 (by decide)).trans e3050
                  have e3081 := (Zfr.gr fq22 t_a0 (by decide)).trans e3052
                  have e3082 := (Zfr.gr fq22 t_a0 (by decide)).trans e3054
                  have e3083 := (Zfr.gr fq22 t_a0 (by decide)).trans e3055
                  have e3084 := (Zfr.gr fq22 t_a0 (by decide)).trans e3056
                  have e3085 := (Zfr.ai fq22 tks0 (by decide)).trans e3057
                  have e3086 := (Zfr.ai fq22 tkl0 (by decide)).trans e3058
                  have e3087 := (Zfr.ai fq22 tkw0 (by decide)).trans e3059
                  have e3088 := (Zfr.gi fq22 t_a0 (by decide)).trans e3060
                  have e3089 := (Zfr.gr fq22 t_a0 (by decide)).trans e3061
                  have e3090 := (Zfr.gr fq22 t_a0 (by decide)).trans e3062
                  have e3091 := (Zfr.gr fq22 t_a0 (by decide)).trans e3063
                  have e3092 := (Zfr.ai fq22 tkkq10 (by decide)).trans e3064
                  have e3093 := (Zfr.gi fq22 t_a0 (by decide)).trans e3065
                  have e3094 := (Zfr.gi fq22 t_a0 (by decide)).trans e3066
                  have k3095 := GtP_fr k3068 fq22 t_a0 Wc20 (by decide)
                  have sc3097 := Sc_fr fq22 t_a0 (by decide) (by decide) (by decide)
                  have k3096 := WyN_fr k3069 fq22 t_a0 Wc20 (by decide) sc3097
                  have k3098 := TbI_fr k3071 fq22 t_a0 Wc20 (by decide) sc3097
                  have k3099 := TbC_fr k3072 fq22 t_a0 Wc20 (by decide) sc3097
                  have k3100 := TkN_fr k3073 fq22 t_a0 Wc20 (by decide)
                  have k3101 := PI_push k3074 k3075 (psJ (by omega) (by omega) (by omega) (by omega) (by omega)) (by omega) (by omega) (fun y_ => two_i (by omega)) e3065 e3066 (by omega) fq22 t_a0 Wc20 po0q22 e3051 (by omega)
                  have F3103 := Zfr.tr F3076 fq22 (by decide)
                  exact ⟨_, rfl, Wq22, F3103, ⟨bf2q15, bt2q15, dv, bks0, bkl0, bkw0, bna0, blb0, bnw0, bvn0, e3079, e3093, e3094, e3080, e3082, e3083, e3084, e3085, e3086, e3087, e3088, tks0, tkl0, tkw0, by (try dsimp only); omega, by (try dsimp only); omega, by (try dsimp only); omega, by (try dsimp only); omega, by (try dsimp only); omega, by (try dsimp only); omega, by (try dsimp only); omega, by (try dsimp only); omega, by (try dsimp only); omega, by (try dsimp only); omega, by (try dsimp only); omega, by (try dsimp only); omega, by (try dsimp only); omega, by (try dsimp only); omega, by (try dsimp only); omega, by (try dsimp only); omega, by (try dsimp only); omega, by (try dsimp only); omega, by (try dsimp only); omega, by (try dsimp only); omega, k3095, k3096, k3098, k3099, k3100⟩, k3101⟩
                · have hq3077 := i_ne hq3077
                  unfold f_Mo_reckoned_159
                  obtain ⟨w23, ew23⟩ := go_64 Wc20 t_a0
                  refine wb ew23 ?_
                  have := li_4
                  obtain ⟨q22, eq22, Wq22, fq22, po0q22⟩ := p_Mo_frame hn Wc20 (a1 := 4) t_a0 (by omega) (by omega) e3051
                  refine wb eq22 ?_
                  have e3116 := (Zfr.gi fq22 t_a0 (by decide)).trans e3049
                  have e3117 := (Zfr.gi fq22 t_a0 (by decide)).trans e3050
                  have e3118 := (Zfr.gr fq22 t_a0 (by decide)).trans e3052
                  have e3119 := (Zfr.gr fq22 t_a0 (by decide)).trans e3054
                  have e3120 := (Zfr.gr fq22 t_a0 (by decide)).trans e3055
                  have e3121 := (Zfr.gr fq22 t_a0 (by decide)).trans e3056
                  have e3122 := (Zfr.ai fq22 tks0 (by decide)).trans e3057
                  have e3123 := (Zfr.ai fq22 tkl0 (by decide)).trans e3058
                  have e3124 := (Zfr.ai fq22 tkw0 (by decide)).trans e3059
                  have e3125 := (Zfr.gi fq22 t_a0 (by decide)).trans e3060
                  have e3126 := (Zfr.gr fq22 t_a0 (by decide)).trans e3061
                  have e3127 := (Zfr.gr fq22 t_a0 (by decide)).trans e3062
                  have e3128 := (Zfr.gr fq22 t_a0 (by decide)).trans e3063
                  have e3129 := (Zfr.ai fq22 tkkq10 (by decide)).trans e3064
                  have e3130 := (Zfr.gi fq22 t_a0 (by decide)).trans e3065
                  have e3131 := (Zfr.gi fq22 t_a0 (by decide)).trans e3066
                  have k3132 := GtP_fr k3068 fq22 t_a0 Wc20 (by decide)
                  have sc3134 := Sc_fr fq22 t_a0 (by decide) (by decide) (by decide)
                  have k3133 := WyN_fr k3069 fq22 t_a0 Wc20 (by decide) sc3134
                  have k3135 := TbI_fr k3071 fq22 t_a0 Wc20 (by decide) sc3134
                  have k3136 := TbC_fr k3072 fq22 t_a0 Wc20 (by decide) sc3134
                  have k3137 := TkN_fr k3073 fq22 t_a0 Wc20 (by decide)
                  have k3138 := PI_push k3074 k3075 (psJ (by omega) (by omega) (by omega) (by omega) (by omega)) (by omega) (by omega) (fun y_ => two_i (by omega)) e3065 e3066 (by omega) fq22 t_a0 Wc20 po0q22 e3051 (by omega)
                  have F3140 := Zfr.tr F3076 fq22 (by decide)
                  exact ⟨_, rfl, Wq22, F3140, ⟨bf2q15, bt2q15, dv, bks0, bkl0, bkw0, bna0, blb0, bnw0, bvn0, e3116, e3130, e3131, e3117, e3119, e3120, e3121, e3122, e3123, e3124, e3125, tks0, tkl0, tkw0, by (try dsimp only); omega, by (try dsimp only); omega, by (try dsimp only); omega, by (try dsimp only); omega, by (try dsimp only); omega, by (try dsimp only); omega, by (try dsimp only); omega, by (try dsimp only); omega, by (try dsimp only); omega, by (try dsimp only); omega, by (try dsimp only); omega, by (try dsimp only); omega, by (try dsimp only); omega, by (try dsimp only); omega, by (try dsimp only); omega, by (try dsimp only); omega, by (try dsimp only); omega, by (try dsimp only); omega, by (try dsimp only); omega, by (try dsimp only); omega, k3132, k3133, k3135, k3136, k3137⟩, k3138⟩
              · have := li_5
                have hq2991 := i_nle hq2991
                refine wb e2358 ?_
                have := li_1
                have := i_sub (a := fr) (b := 1) (by omega) (by omega)
                obtain ⟨c25, ec25, Wc25, fc25, gc25⟩ := pf_64_69 Wq10 t_a0 (x := (fr - 1)) (rgi (by omega) (by omega))
                refine wb ec25 ?_
                have e3152 := (Zfr.gi fc25 t_a0 (by decide)).trans e2355
                have e3153 := (Zfr.gi fc25 t_a0 (by decide)).trans e2356
                have e3154 := (Zfr.gi fc25 t_a0 (by decide)).trans e2357
                have e3155 := (Zfr.gr fc25 t_a0 (by decide)).trans e2359
                have e3156 := (Zfr.ai fc25 tqw_1 (by decide)).trans e2360
                have e3157 := (Zfr.gr fc25 t_a0 (by decide)).trans e2361
                have e3158 := (Zfr.gr fc25 t_a0 (by decide)).trans e2362
                have e3159 := (Zfr.gr fc25 t_a0 (by decide)).trans e2363
                have e3160 := (Zfr.ai fc25 tks0 (by decide)).trans e2364
                have e3161 := (Zfr.ai fc25 tkl0 (by decide)).trans e2365
                have e3162 := (Zfr.ai fc25 tkw0 (by decide)).trans e2366
                have e3163 := (Zfr.gi fc25 t_a0 (by decide)).trans e2367
                have e3164 := (Zfr.gr fc25 t_a0 (by decide)).trans e2368
                have e3165 := (Zfr.gr fc25 t_a0 (by decide)).trans e2369
                have e3166 := (Zfr.ai fc25 tw_2 (by decide)).trans e2370
                have e3167 := (Zfr.ai fc25 tw_3 (by decide)).trans e2371
                have e3168 := (Zfr.gi fc25 t_a0 (by decide)).trans h0ZScq10
                have e3169 := (Zfr.gr fc25 t_a0 (by decide)).trans h0Zkdq10
                have e3170 := (Zfr.ai fc25 tkkq10 (by decide)).trans h1Zkdq10
                have k3171 := GtP_fr k2372 fc25 t_a0 Wq10 (by decide)
                have sc3173 := Sc_fr fc25 t_a0 (by decide) (by decide) (by decide)
                have k3172 := WyN_fr k2373 fc25 t_a0 Wq10 (by decide) sc3173
                have k3174 := TbI_fr k2375 fc25 t_a0 Wq10 (by decide) sc3173
                have k3175 := TbC_fr k2376 fc25 t_a0 Wq10 (by decide) sc3173
                have k3176 := TkN_fr k2377 fc25 t_a0 Wq10 (by decide)
                have k3177 := PB_s0 k2378 fc25 t_a0 Wq10 (by decide) sc3173
                have k3178 := TpK_fr k2379 fc25 t_a0 Wq10 (by decide)
                have F3179 := Zfr.tr F2380 fc25 (by decide)
                exact ⟨_, rfl, Wc25, F3179, ⟨bf2q10, tv, dv, bks0, bkl0, bkw0, bna0, blb0, bnw0, bvn0, e3152, e3168, e3153, e3154, e3157, e3158, e3159, e3160, e3161, e3162, e3163, tks0, tkl0, tkw0, by (try dsimp only); omega, by (try dsimp only); omega, by (try dsimp only); omega, by (try dsimp only); omega, by (try dsimp only); omega, by (try dsimp only); omega, by (try dsimp only); omega, by (try dsimp only); omega, by (try dsimp only); omega, by (try dsimp only); omega, by (try dsimp only); omega, by (try dsimp only); omega, by (try dsimp only); omega, by (try dsimp only); omega, by (try dsimp only); omega, by (try dsimp only); omega, by (try dsimp only); omega, by (try dsimp only); omega, by (try dsimp only); omega, by (try dsimp only); omega, k3171, k3172, k3174, k3175, k3176⟩, PI_pop k3177 (by omega) (by omega) (by omega) (by omega) gc25 (by omega) (by omega)⟩
            · have := li_45
              have hq2990 := i_ne hq2990
              unfold f_Mo_reckoned_112
              refine wi (fun hq3193 => ?_) (fun hq3193 => ?_)
              · have := li_m1
                have hq3193 := i_le hq3193
                obtain ⟨w16, ew16⟩ := go_64 Wq10 t_a0
                refine wb ew16 ?_
                obtain ⟨q15, eq15, Wq15, fq15, pbZSq15⟩ := p_Mo_pass hn Wq10  t_a0 (by omega) (by omega) (by omega) (by omega) h0ZScq10 e2356
                refine wb eq15 ?_
                have e3196 := (Zfr.gi fq15 t_a0 (by decide)).trans e2355
                have e3197 := (Zfr.gi fq15 t_a0 (by decide)).trans e2357
                have e3198 := (Zfr.gi fq15 t_a0 (by decide)).trans e2358
                have e3199 := (Zfr.gr fq15 t_a0 (by decide)).trans e2359
                have e3200 := (Zfr.ai fq15 tqw_1 (by decide)).trans e2360
                have e3201 := (Zfr.gr fq15 t_a0 (by decide)).trans e2361
                have e3202 := (Zfr.gr fq15 t_a0 (by decide)).trans e2362
                have e3203 := (Zfr.gr fq15 t_a0 (by decide)).trans e2363
                have e3204 := (Zfr.ai fq15 tks0 (by decide)).trans e2364
                have e3205 := (Zfr.ai fq15 tkl0 (by decide)).trans e2365
                have e3206 := (Zfr.ai fq15 tkw0 (by decide)).trans e2366
                have e3207 := (Zfr.gi fq15 t_a0 (by decide)).trans e2367
                have e3208 := (Zfr.gr fq15 t_a0 (by decide)).trans e2368
                have e3209 := (Zfr.gr fq15 t_a0 (by decide)).trans e2369
                have e3210 := (Zfr.ai fq15 tw_2 (by decide)).trans e2370
                have e3211 := (Zfr.ai fq15 tw_3 (by decide)).trans e2371
                have e3212 := (Zfr.gr fq15 t_a0 (by decide)).trans h0Zkdq10
                have e3213 := (Zfr.ai fq15 tkkq10 (by decide)).trans h1Zkdq10
                have k3214 := GtP_fr k2372 fq15 t_a0 Wq10 (by decide)
                have := li_1
                have sc3216 : Sc q10.2 q15 a0 (1) (0) := by
                  obtain ⟨yf2, yt2, z0y, z1y, x0y, x1y, x2y, x3y, x4y, x5y⟩ := pbZSq15
                  exact Sc_mk h0ZScq10 z0y e2356 z1y e2357 ((Zfr.gi (ci := 12) fq15 t_a0 (by decide)).trans e2357) (by omega)
                have k3215 := WyN_fr k2373 fq15 t_a0 Wq10 (by decide) sc3216
                have k3217 := TbI_fr k2375 fq15 t_a0 Wq10 (by decide) sc3216
                have k3218 := TbC_fr k2376 fq15 t_a0 Wq10 (by decide) sc3216
                have k3219 := TkN_fr k2377 fq15 t_a0 Wq10 (by decide)
                have k3220 := PB_sc k2378 fq15 t_a0 Wq10 (by decide) sc3216 (by omega)
                have k3221 := TpK_fr k2379 fq15 t_a0 Wq10 (by decide)
                have F3222 := Zfr.tr F2380 fq15 (by decide)
                obtain ⟨bf2q15, bt2q15, h0ZSq15, h1ZSq15, r0ZSq15, r1ZSq15, r2ZSq15, r3ZSq15, r4ZSq15, r5ZSq15⟩ := pbZSq15
                refine wb e3209 ?_
                obtain ⟨c18, ec18, Wc18, fc18, gc18⟩ := pa_116 Wq15 tw_3 (i := a1) (by omega) (by omega) (x := (-1)) (trivial)
                refine wb ec18 ?_
                have e3223 := (Zfr.gi fc18 t_a0 (by decide)).trans e3196
                have e3224 := (Zfr.gi fc18 t_a0 (by decide)).trans e3197
                have e3225 := (Zfr.gi fc18 t_a0 (by decide)).trans e3198
                have e3226 := (Zfr.gr fc18 t_a0 (by decide)).trans e3199
                have e3227 := (Zfr.ai fc18 tqw_1 (by decide)).trans e3200
                have e3228 := (Zfr.gr fc18 t_a0 (by decide)).trans e3201
                have e3229 := (Zfr.gr fc18 t_a0 (by decide)).trans e3202
                have e3230 := (Zfr.gr fc18 t_a0 (by decide)).trans e3203
                have e3231 := (Zfr.ai fc18 tks0 (by decide)).trans e3204
                have e3232 := (Zfr.ai fc18 tkl0 (by decide)).trans e3205
                have e3233 := (Zfr.ai fc18 tkw0 (by decide)).trans e3206
                have e3234 := (Zfr.gi fc18 t_a0 (by decide)).trans e3207
                have e3235 := (Zfr.gr fc18 t_a0 (by decide)).trans e3208
                have e3236 := (Zfr.gr fc18 t_a0 (by decide)).trans e3209
                have e3237 := (Zfr.ai fc18 tw_2 (by decide)).trans e3210
                have e3238 := (Zfr.gr fc18 t_a0 (by decide)).trans e3212
                have e3239 := (Zfr.ai fc18 tkkq10 (by decide)).trans e3213
                have e3240 := (Zfr.gi fc18 t_a0 (by decide)).trans h0ZSq15
                have e3241 := (Zfr.gi fc18 t_a0 (by decide)).trans h1ZSq15
                have k3242 := GtP_fr k3214 fc18 t_a0 Wq15 (by decide)
                have sc3244 := Sc_fr fc18 t_a0 (by decide) (by decide) (by decide)
                have k3243 := WyN_fr k3215 fc18 t_a0 Wq15 (by decide) sc3244
                have k3245 := TbI_fr k3217 fc18 t_a0 Wq15 (by decide) sc3244
                have k3246 := TbC_fr k3218 fc18 t_a0 Wq15 (by decide) sc3244
                have k3247 := TkN_fr k3219 fc18 t_a0 Wq15 (by decide)
                have k3248 := PB_w68 k3220 Wq15 t_a0 fc18 e3209 ec18 rfl
                have k3249 := TpK_w68 k3221 Wq15 t_a0 fc18 e3209 ec18 rfl
                have F3250 := Zfr.tr F3222 fc18 (by decide)
                refine wb e3235 ?_
                obtain ⟨c20, ec20, Wc20, fc20, gc20⟩ := pa_115 Wc18 tw_2 (i := a1) (by omega) (by omega) (x := 2) (trivial)
                refine wb ec20 ?_
                have e3251 := (Zfr.gi fc20 t_a0 (by decide)).trans e3223
                have e3252 := (Zfr.gi fc20 t_a0 (by decide)).trans e3224
                have e3253 := (Zfr.gi fc20 t_a0 (by decide)).trans e3225
                have e3254 := (Zfr.gr fc20 t_a0 (by decide)).trans e3226
                have e3255 := (Zfr.ai fc20 tqw_1 (by decide)).trans e3227
                have e3256 := (Zfr.gr fc20 t_a0 (by decide)).trans e3228
                have e3257 := (Zfr.gr fc20 t_a0 (by decide)).trans e3229
                have e3258 := (Zfr.gr fc20 t_a0 (by decide)).trans e3230
                have e3259 := (Zfr.ai fc20 tks0 (by decide)).trans e3231
                have e3260 := (Zfr.ai fc20 tkl0 (by decide)).trans e3232
                have e3261 := (Zfr.ai fc20 tkw0 (by decide)).trans e3233
                have e3262 := (Zfr.gi fc20 t_a0 (by decide)).trans e3234
                have e3263 := (Zfr.gr fc20 t_a0 (by decide)).trans e3235
                have e3264 := (Zfr.gr fc20 t_a0 (by decide)).trans e3236
                have e3265 := (Zfr.gr fc20 t_a0 (by decide)).trans e3238
                have e3266 := (Zfr.ai fc20 tkkq10 (by decide)).trans e3239
                have e3267 := (Zfr.gi fc20 t_a0 (by decide)).trans e3240
                have e3268 := (Zfr.gi fc20 t_a0 (by decide)).trans e3241
                have e3269 := (Zfr.ai fc20 tw_3 (by decide)).trans gc18
                have k3270 := GtP_fr k3242 fc20 t_a0 Wc18 (by decide)
                have sc3272 := Sc_fr fc20 t_a0 (by decide) (by decide) (by decide)
                have k3271 := WyN_fr k3243 fc20 t_a0 Wc18 (by decide) sc3272
                have k3273 := TbI_fr k3245 fc20 t_a0 Wc18 (by decide) sc3272
                have k3274 := TbC_fr k3246 fc20 t_a0 Wc18 (by decide) sc3272
                have k3275 := TkN_fr k3247 fc20 t_a0 Wc18 (by decide)
                have k3276 := PB_w67 k3248 Wc18 t_a0 fc20 e3235 ec20 rfl
                have k3277 := TpK_w67 k3249 Wc18 t_a0 fc20 e3235 ec20 rfl
                have F3278 := Zfr.tr F3250 fc20 (by decide)
                refine wi (fun hq3279 => ?_) (fun hq3279 => ?_)
                · have hq3279 := i_eq hq3279
                  unfold f_Mo_reckoned_159
                  obtain ⟨w23, ew23⟩ := go_64 Wc20 t_a0
                  refine wb ew23 ?_
                  have := li_5
                  obtain ⟨q22, eq22, Wq22, fq22, po0q22⟩ := p_Mo_frame hn Wc20 (a1 := 5) t_a0 (by omega) (by omega) e3253
                  refine wb eq22 ?_
                  have e3281 := (Zfr.gi fq22 t_a0 (by decide)).trans e3251
                  have e3282 := (Zfr.gi fq22 t_a0 (by decide)).trans e3252
                  have e3283 := (Zfr.gr fq22 t_a0 (by decide)).trans e3254
                  have e3284 := (Zfr.gr fq22 t_a0 (by decide)).trans e3256
                  have e3285 := (Zfr.gr fq22 t_a0 (by decide)).trans e3257
                  have e3286 := (Zfr.gr fq22 t_a0 (by decide)).trans e3258
                  have e3287 := (Zfr.ai fq22 tks0 (by decide)).trans e3259
                  have e3288 := (Zfr.ai fq22 tkl0 (by decide)).trans e3260
                  have e3289 := (Zfr.ai fq22 tkw0 (by decide)).trans e3261
                  have e3290 := (Zfr.gi fq22 t_a0 (by decide)).trans e3262
                  have e3291 := (Zfr.gr fq22 t_a0 (by decide)).trans e3263
                  have e3292 := (Zfr.gr fq22 t_a0 (by decide)).trans e3264
                  have e3293 := (Zfr.gr fq22 t_a0 (by decide)).trans e3265
                  have e3294 := (Zfr.ai fq22 tkkq10 (by decide)).trans e3266
                  have e3295 := (Zfr.gi fq22 t_a0 (by decide)).trans e3267
                  have e3296 := (Zfr.gi fq22 t_a0 (by decide)).trans e3268
                  have k3297 := GtP_fr k3270 fq22 t_a0 Wc20 (by decide)
                  have sc3299 := Sc_fr fq22 t_a0 (by decide) (by decide) (by decide)
                  have k3298 := WyN_fr k3271 fq22 t_a0 Wc20 (by decide) sc3299
                  have k3300 := TbI_fr k3273 fq22 t_a0 Wc20 (by decide) sc3299
                  have k3301 := TbC_fr k3274 fq22 t_a0 Wc20 (by decide) sc3299
                  have k3302 := TkN_fr k3275 fq22 t_a0 Wc20 (by decide)
                  have k3303 := PI_push k3276 k3277 (psJ (by omega) (by omega) (by omega) (by omega) (by omega)) (by omega) (by omega) (fun y_ => two_i (by omega)) e3267 e3268 (by omega) fq22 t_a0 Wc20 po0q22 e3253 (by omega)
                  have F3305 := Zfr.tr F3278 fq22 (by decide)
                  exact ⟨_, rfl, Wq22, F3305, ⟨bf2q15, bt2q15, dv, bks0, bkl0, bkw0, bna0, blb0, bnw0, bvn0, e3281, e3295, e3296, e3282, e3284, e3285, e3286, e3287, e3288, e3289, e3290, tks0, tkl0, tkw0, by (try dsimp only); omega, by (try dsimp only); omega, by (try dsimp only); omega, by (try dsimp only); omega, by (try dsimp only); omega, by (try dsimp only); omega, by (try dsimp only); omega, by (try dsimp only); omega, by (try dsimp only); omega, by (try dsimp only); omega, by (try dsimp only); omega, by (try dsimp only); omega, by (try dsimp only); omega, by (try dsimp only); omega, by (try dsimp only); omega, by (try dsimp only); omega, by (try dsimp only); omega, by (try dsimp only); omega, by (try dsimp only); omega, by (try dsimp only); omega, k3297, k3298, k3300, k3301, k3302⟩, k3303⟩
                · have hq3279 := i_ne hq3279
                  unfold f_Mo_reckoned_159
                  obtain ⟨w23, ew23⟩ := go_64 Wc20 t_a0
                  refine wb ew23 ?_
                  have := li_4
                  obtain ⟨q22, eq22, Wq22, fq22, po0q22⟩ := p_Mo_frame hn Wc20 (a1 := 4) t_a0 (by omega) (by omega) e3253
                  refine wb eq22 ?_
                  have e3318 := (Zfr.gi fq22 t_a0 (by decide)).trans e3251
                  have e3319 := (Zfr.gi fq22 t_a0 (by decide)).trans e3252
                  have e3320 := (Zfr.gr fq22 t_a0 (by decide)).trans e3254
                  have e3321 := (Zfr.gr fq22 t_a0 (by decide)).trans e3256
                  have e3322 := (Zfr.gr fq22 t_a0 (by decide)).trans e3257
                  have e3323 := (Zfr.gr fq22 t_a0 (by decide)).trans e3258
                  have e3324 := (Zfr.ai fq22 tks0 (by decide)).trans e3259
                  have e3325 := (Zfr.ai fq22 tkl0 (by decide)).trans e3260
                  have e3326 := (Zfr.ai fq22 tkw0 (by decide)).trans e3261
                  have e3327 := (Zfr.gi fq22 t_a0 (by decide)).trans e3262
                  have e3328 := (Zfr.gr fq22 t_a0 (by decide)).trans e3263
                  have e3329 := (Zfr.gr fq22 t_a0 (by decide)).trans e3264
                  have e3330 := (Zfr.gr fq22 t_a0 (by decide)).trans e3265
                  have e3331 := (Zfr.ai fq22 tkkq10 (by decide)).trans e3266
                  have e3332 := (Zfr.gi fq22 t_a0 (by decide)).trans e3267
                  have e3333 := (Zfr.gi fq22 t_a0 (by decide)).trans e3268
                  have k3334 := GtP_fr k3270 fq22 t_a0 Wc20 (by decide)
                  have sc3336 := Sc_fr fq22 t_a0 (by decide) (by decide) (by decide)
                  have k3335 := WyN_fr k3271 fq22 t_a0 Wc20 (by decide) sc3336
                  have k3337 := TbI_fr k3273 fq22 t_a0 Wc20 (by decide) sc3336
                  have k3338 := TbC_fr k3274 fq22 t_a0 Wc20 (by decide) sc3336
                  have k3339 := TkN_fr k3275 fq22 t_a0 Wc20 (by decide)
                  have k3340 := PI_push k3276 k3277 (psJ (by omega) (by omega) (by omega) (by omega) (by omega)) (by omega) (by omega) (fun y_ => two_i (by omega)) e3267 e3268 (by omega) fq22 t_a0 Wc20 po0q22 e3253 (by omega)
                  have F3342 := Zfr.tr F3278 fq22 (by decide)
                  exact ⟨_, rfl, Wq22, F3342, ⟨bf2q15, bt2q15, dv, bks0, bkl0, bkw0, bna0, blb0, bnw0, bvn0, e3318, e3332, e3333, e3319, e3321, e3322, e3323, e3324, e3325, e3326, e3327, tks0, tkl0, tkw0, by (try dsimp only); omega, by (try dsimp only); omega, by (try dsimp only); omega, by (try dsimp only); omega, by (try dsimp only); omega, by (try dsimp only); omega, by (try dsimp only); omega, by (try dsimp only); omega, by (try dsimp only); omega, by (try dsimp only); omega, by (try dsimp only); omega, by (try dsimp only); omega, by (try dsimp only); omega, by (try dsimp only); omega, by (try dsimp only); omega, by (try dsimp only); omega, by (try dsimp only); omega, by (try dsimp only); omega, by (try dsimp only); omega, by (try dsimp only); omega, k3334, k3335, k3337, k3338, k3339⟩, k3340⟩
              · have := li_m1
                have hq3193 := i_nle hq3193
                refine wb e2358 ?_
                have := li_1
                have := i_sub (a := fr) (b := 1) (by omega) (by omega)
                obtain ⟨c25, ec25, Wc25, fc25, gc25⟩ := pf_64_69 Wq10 t_a0 (x := (fr - 1)) (rgi (by omega) (by omega))
                refine wb ec25 ?_
                have e3354 := (Zfr.gi fc25 t_a0 (by decide)).trans e2355
                have e3355 := (Zfr.gi fc25 t_a0 (by decide)).trans e2356
                have e3356 := (Zfr.gi fc25 t_a0 (by decide)).trans e2357
                have e3357 := (Zfr.gr fc25 t_a0 (by decide)).trans e2359
                have e3358 := (Zfr.ai fc25 tqw_1 (by decide)).trans e2360
                have e3359 := (Zfr.gr fc25 t_a0 (by decide)).trans e2361
                have e3360 := (Zfr.gr fc25 t_a0 (by decide)).trans e2362
                have e3361 := (Zfr.gr fc25 t_a0 (by decide)).trans e2363
                have e3362 := (Zfr.ai fc25 tks0 (by decide)).trans e2364
                have e3363 := (Zfr.ai fc25 tkl0 (by decide)).trans e2365
                have e3364 := (Zfr.ai fc25 tkw0 (by decide)).trans e2366
                have e3365 := (Zfr.gi fc25 t_a0 (by decide)).trans e2367
                have e3366 := (Zfr.gr fc25 t_a0 (by decide)).trans e2368
                have e3367 := (Zfr.gr fc25 t_a0 (by decide)).trans e2369
                have e3368 := (Zfr.ai fc25 tw_2 (by decide)).trans e2370
                have e3369 := (Zfr.ai fc25 tw_3 (by decide)).trans e2371
                have e3370 := (Zfr.gi fc25 t_a0 (by decide)).trans h0ZScq10
                have e3371 := (Zfr.gr fc25 t_a0 (by decide)).trans h0Zkdq10
                have e3372 := (Zfr.ai fc25 tkkq10 (by decide)).trans h1Zkdq10
                have k3373 := GtP_fr k2372 fc25 t_a0 Wq10 (by decide)
                have sc3375 := Sc_fr fc25 t_a0 (by decide) (by decide) (by decide)
                have k3374 := WyN_fr k2373 fc25 t_a0 Wq10 (by decide) sc3375
                have k3376 := TbI_fr k2375 fc25 t_a0 Wq10 (by decide) sc3375
                have k3377 := TbC_fr k2376 fc25 t_a0 Wq10 (by decide) sc3375
                have k3378 := TkN_fr k2377 fc25 t_a0 Wq10 (by decide)
                have k3379 := PB_s0 k2378 fc25 t_a0 Wq10 (by decide) sc3375
                have k3380 := TpK_fr k2379 fc25 t_a0 Wq10 (by decide)
                have F3381 := Zfr.tr F2380 fc25 (by decide)
                exact ⟨_, rfl, Wc25, F3381, ⟨bf2q10, tv, dv, bks0, bkl0, bkw0, bna0, blb0, bnw0, bvn0, e3354, e3370, e3355, e3356, e3359, e3360, e3361, e3362, e3363, e3364, e3365, tks0, tkl0, tkw0, by (try dsimp only); omega, by (try dsimp only); omega, by (try dsimp only); omega, by (try dsimp only); omega, by (try dsimp only); omega, by (try dsimp only); omega, by (try dsimp only); omega, by (try dsimp only); omega, by (try dsimp only); omega, by (try dsimp only); omega, by (try dsimp only); omega, by (try dsimp only); omega, by (try dsimp only); omega, by (try dsimp only); omega, by (try dsimp only); omega, by (try dsimp only); omega, by (try dsimp only); omega, by (try dsimp only); omega, by (try dsimp only); omega, by (try dsimp only); omega, k3373, k3374, k3376, k3377, k3378⟩, PI_pop k3379 (by omega) (by omega) (by omega) (by omega) gc25 (by omega) (by omega)⟩
      · have := li_2
        have hq2320 := i_ne hq2320
        unfold f_Mo_reckoned_67
        obtain ⟨w11, ew11⟩ := go_64 W t_a0
        refine wb ew11 ?_
        obtain ⟨q10, eq10, Wq10, fq10, pbZScq10, pbZkdq10⟩ := p_Mo_kind hn W  t_a0 (by omega) (by omega) (by omega) (by omega) h1ZV0 h2ZV0
        refine wb eq10 ?_
        have e3397 := (Zfr.gi fq10 t_a0 (by decide)).trans h0ZV0
        have e3398 := (Zfr.gi fq10 t_a0 (by decide)).trans h2ZV0
        have e3399 := (Zfr.gi fq10 t_a0 (by decide)).trans h3ZV0
        have e3400 := (Zfr.gi fq10 t_a0 (by decide)).trans eh_fr
        have e3401 := (Zfr.gr fq10 t_a0 (by decide)).trans eh_ksr
        have e3402 := (Zfr.ai fq10 tqw_1 (by decide)).trans eh_sv
        have e3403 := (Zfr.gr fq10 t_a0 (by decide)).trans h4ZV0
        have e3404 := (Zfr.gr fq10 t_a0 (by decide)).trans h5ZV0
        have e3405 := (Zfr.gr fq10 t_a0 (by decide)).trans h6ZV0
        have e3406 := (Zfr.ai fq10 tks0 (by decide)).trans h7ZV0
        have e3407 := (Zfr.ai fq10 tkl0 (by decide)).trans h8ZV0
        have e3408 := (Zfr.ai fq10 tkw0 (by decide)).trans h9ZV0
        have e3409 := (Zfr.gi fq10 t_a0 (by decide)).trans h10ZV0
        have e3410 := (Zfr.gr fq10 t_a0 (by decide)).trans ew_2
        have e3411 := (Zfr.gr fq10 t_a0 (by decide)).trans ew_3
        have e3412 := (Zfr.ai fq10 tw_2 (by decide)).trans ew_4
        have e3413 := (Zfr.ai fq10 tw_3 (by decide)).trans ew_5
        have k3414 := GtP_fr k0ZV0 fq10 t_a0 W (by decide)
        have sc3416 : Sc c q10.2 a0 (0) (0) := by
          obtain ⟨yf2, z0y, x0y, x1y, x2y, x3y⟩ := pbZScq10
          exact Sc_mk h1ZV0 z0y h2ZV0 ((Zfr.gi (ci := 12) fq10 t_a0 (by decide)).trans h2ZV0) h3ZV0 ((Zfr.gi (ci := 12) fq10 t_a0 (by decide)).trans h3ZV0) (by omega)
        have k3415 := WyN_fr k1ZV0 fq10 t_a0 W (by decide) sc3416
        have k3417 := TbI_fr k2ZV0 fq10 t_a0 W (by decide) sc3416
        have k3418 := TbC_fr k3ZV0 fq10 t_a0 W (by decide) sc3416
        have k3419 := TkN_fr k4ZV0 fq10 t_a0 W (by decide)
        have k3420 := PB_s0 pbh fq10 t_a0 W (by decide) sc3416
        have k3421 := TpK_fr tph fq10 t_a0 W (by decide)
        have F3422 := Zfr.tr F0 fq10 (by decide)
        obtain ⟨bf2q10, h0ZScq10, r0ZScq10, r1ZScq10, r2ZScq10, r3ZScq10⟩ := pbZScq10
        obtain ⟨bkkq10, h0Zkdq10, h1Zkdq10, tkkq10⟩ := pbZkdq10
        refine wi (fun hq3423 => ?_) (fun hq3423 => ?_)
        · have hq3423 := i_eq hq3423
          refine wi (fun hq3424 => ?_) (fun hq3424 => ?_)
          · have := li_42
            have := i_ge q10.1
            have := i_up q10.1
            have hq3424 := i_eq hq3424
            unfold f_Mo_reckoned_112
            refine wi (fun hq3425 => ?_) (fun hq3425 => ?_)
            · have := li_6
              have hq3425 := i_le hq3425
              obtain ⟨w16, ew16⟩ := go_64 Wq10 t_a0
              refine wb ew16 ?_
              obtain ⟨q15, eq15, Wq15, fq15, pbZSq15⟩ := p_Mo_pass hn Wq10  t_a0 (by omega) (by omega) (by omega) (by omega) h0ZScq10 e3398
              refine wb eq15 ?_
              have e3428 := (Zfr.gi fq15 t_a0 (by decide)).trans e3397
              have e3429 := (Zfr.gi fq15 t_a0 (by decide)).trans e3399
              have e3430 := (Zfr.gi fq15 t_a0 (by decide)).trans e3400
              have e3431 := (Zfr.gr fq15 t_a0 (by decide)).trans e3401
              have e3432 := (Zfr.ai fq15 tqw_1 (by decide)).trans e3402
              have e3433 := (Zfr.gr fq15 t_a0 (by decide)).trans e3403
              have e3434 := (Zfr.gr fq15 t_a0 (by decide)).trans e3404
              have e3435 := (Zfr.gr fq15 t_a0 (by decide)).trans e3405
              have e3436 := (Zfr.ai fq15 tks0 (by decide)).trans e3406
              have e3437 := (Zfr.ai fq15 tkl0 (by decide)).trans e3407
              have e3438 := (Zfr.ai fq15 tkw0 (by decide)).trans e3408
              have e3439 := (Zfr.gi fq15 t_a0 (by decide)).trans e3409
              have e3440 := (Zfr.gr fq15 t_a0 (by decide)).trans e3410
              have e3441 := (Zfr.gr fq15 t_a0 (by decide)).trans e3411
              have e3442 := (Zfr.ai fq15 tw_2 (by decide)).trans e3412
              have e3443 := (Zfr.ai fq15 tw_3 (by decide)).trans e3413
              have e3444 := (Zfr.gr fq15 t_a0 (by decide)).trans h0Zkdq10
              have e3445 := (Zfr.ai fq15 tkkq10 (by decide)).trans h1Zkdq10
              have k3446 := GtP_fr k3414 fq15 t_a0 Wq10 (by decide)
              have := li_1
              have sc3448 : Sc q10.2 q15 a0 (1) (0) := by
                obtain ⟨yf2, yt2, z0y, z1y, x0y, x1y, x2y, x3y, x4y, x5y⟩ := pbZSq15
                exact Sc_mk h0ZScq10 z0y e3398 z1y e3399 ((Zfr.gi (ci := 12) fq15 t_a0 (by decide)).trans e3399) (by omega)
              have k3447 := WyN_fr k3415 fq15 t_a0 Wq10 (by decide) sc3448
              have k3449 := TbI_fr k3417 fq15 t_a0 Wq10 (by decide) sc3448
              have k3450 := TbC_fr k3418 fq15 t_a0 Wq10 (by decide) sc3448
              have k3451 := TkN_fr k3419 fq15 t_a0 Wq10 (by decide)
              have k3452 := PB_sc k3420 fq15 t_a0 Wq10 (by decide) sc3448 (by omega)
              have k3453 := TpK_fr k3421 fq15 t_a0 Wq10 (by decide)
              have F3454 := Zfr.tr F3422 fq15 (by decide)
              obtain ⟨bf2q15, bt2q15, h0ZSq15, h1ZSq15, r0ZSq15, r1ZSq15, r2ZSq15, r3ZSq15, r4ZSq15, r5ZSq15⟩ := pbZSq15
              refine wb e3441 ?_
              obtain ⟨c18, ec18, Wc18, fc18, gc18⟩ := pa_116 Wq15 tw_3 (i := a1) (by omega) (by omega) (x := 6) (trivial)
              refine wb ec18 ?_
              have e3455 := (Zfr.gi fc18 t_a0 (by decide)).trans e3428
              have e3456 := (Zfr.gi fc18 t_a0 (by decide)).trans e3429
              have e3457 := (Zfr.gi fc18 t_a0 (by decide)).trans e3430
              have e3458 := (Zfr.gr fc18 t_a0 (by decide)).trans e3431
              have e3459 := (Zfr.ai fc18 tqw_1 (by decide)).trans e3432
              have e3460 := (Zfr.gr fc18 t_a0 (by decide)).trans e3433
              have e3461 := (Zfr.gr fc18 t_a0 (by decide)).trans e3434
              have e3462 := (Zfr.gr fc18 t_a0 (by decide)).trans e3435
              have e3463 := (Zfr.ai fc18 tks0 (by decide)).trans e3436
              have e3464 := (Zfr.ai fc18 tkl0 (by decide)).trans e3437
              have e3465 := (Zfr.ai fc18 tkw0 (by decide)).trans e3438
              have e3466 := (Zfr.gi fc18 t_a0 (by decide)).trans e3439
              have e3467 := (Zfr.gr fc18 t_a0 (by decide)).trans e3440
              have e3468 := (Zfr.gr fc18 t_a0 (by decide)).trans e3441
              have e3469 := (Zfr.ai fc18 tw_2 (by decide)).trans e3442
              have e3470 := (Zfr.gr fc18 t_a0 (by decide)).trans e3444
              have e3471 := (Zfr.ai fc18 tkkq10 (by decide)).trans e3445
              have e3472 := (Zfr.gi fc18 t_a0 (by decide)).trans h0ZSq15
              have e3473 := (Zfr.gi fc18 t_a0 (by decide)).trans h1ZSq15
              have k3474 := GtP_fr k3446 fc18 t_a0 Wq15 (by decide)
              have sc3476 := Sc_fr fc18 t_a0 (by decide) (by decide) (by decide)
              have k3475 := WyN_fr k3447 fc18 t_a0 Wq15 (by decide) sc3476
              have k3477 := TbI_fr k3449 fc18 t_a0 Wq15 (by decide) sc3476
              have k3478 := TbC_fr k3450 fc18 t_a0 Wq15 (by decide) sc3476
              have k3479 := TkN_fr k3451 fc18 t_a0 Wq15 (by decide)
              have k3480 := PB_w68 k3452 Wq15 t_a0 fc18 e3441 ec18 rfl
              have k3481 := TpK_w68 k3453 Wq15 t_a0 fc18 e3441 ec18 rfl
              have F3482 := Zfr.tr F3454 fc18 (by decide)
              refine wb e3467 ?_
              obtain ⟨c20, ec20, Wc20, fc20, gc20⟩ := pa_115 Wc18 tw_2 (i := a1) (by omega) (by omega) (x := 2) (trivial)
              refine wb ec20 ?_
              have e3483 := (Zfr.gi fc20 t_a0 (by decide)).trans e3455
              have e3484 := (Zfr.gi fc20 t_a0 (by decide)).trans e3456
              have e3485 := (Zfr.gi fc20 t_a0 (by decide)).trans e3457
              have e3486 := (Zfr.gr fc20 t_a0 (by decide)).trans e3458
              have e3487 := (Zfr.ai fc20 tqw_1 (by decide)).trans e3459
              have e3488 := (Zfr.gr fc20 t_a0 (by decide)).trans e3460
              have e3489 := (Zfr.gr fc20 t_a0 (by decide)).trans e3461
              have e3490 := (Zfr.gr fc20 t_a0 (by decide)).trans e3462
              have e3491 := (Zfr.ai fc20 tks0 (by decide)).trans e3463
              have e3492 := (Zfr.ai fc20 tkl0 (by decide)).trans e3464
              have e3493 := (Zfr.ai fc20 tkw0 (by decide)).trans e3465
              have e3494 := (Zfr.gi fc20 t_a0 (by decide)).trans e3466
              have e3495 := (Zfr.gr fc20 t_a0 (by decide)).trans e3467
              have e3496 := (Zfr.gr fc20 t_a0 (by decide)).trans e3468
              have e3497 := (Zfr.gr fc20 t_a0 (by decide)).trans e3470
              have e3498 := (Zfr.ai fc20 tkkq10 (by decide)).trans e3471
              have e3499 := (Zfr.gi fc20 t_a0 (by decide)).trans e3472
              have e3500 := (Zfr.gi fc20 t_a0 (by decide)).trans e3473
              have e3501 := (Zfr.ai fc20 tw_3 (by decide)).trans gc18
              have k3502 := GtP_fr k3474 fc20 t_a0 Wc18 (by decide)
              have sc3504 := Sc_fr fc20 t_a0 (by decide) (by decide) (by decide)
              have k3503 := WyN_fr k3475 fc20 t_a0 Wc18 (by decide) sc3504
              have k3505 := TbI_fr k3477 fc20 t_a0 Wc18 (by decide) sc3504
              have k3506 := TbC_fr k3478 fc20 t_a0 Wc18 (by decide) sc3504
              have k3507 := TkN_fr k3479 fc20 t_a0 Wc18 (by decide)
              have k3508 := PB_w67 k3480 Wc18 t_a0 fc20 e3467 ec20 rfl
              have k3509 := TpK_w67 k3481 Wc18 t_a0 fc20 e3467 ec20 rfl
              have F3510 := Zfr.tr F3482 fc20 (by decide)
              refine wi (fun hq3511 => ?_) (fun hq3511 => ?_)
              · have hq3511 := i_eq hq3511
                unfold f_Mo_reckoned_159
                obtain ⟨w23, ew23⟩ := go_64 Wc20 t_a0
                refine wb ew23 ?_
                have := li_5
                obtain ⟨q22, eq22, Wq22, fq22, po0q22⟩ := p_Mo_frame hn Wc20 (a1 := 5) t_a0 (by omega) (by omega) e3485
                refine wb eq22 ?_
                have e3513 := (Zfr.gi fq22 t_a0 (by decide)).trans e3483
                have e3514 := (Zfr.gi fq22 t_a0 (by decide)).trans e3484
                have e3515 := (Zfr.gr fq22 t_a0 (by decide)).trans e3486
                have e3516 := (Zfr.gr fq22 t_a0 (by decide)).trans e3488
                have e3517 := (Zfr.gr fq22 t_a0 (by decide)).trans e3489
                have e3518 := (Zfr.gr fq22 t_a0 (by decide)).trans e3490
                have e3519 := (Zfr.ai fq22 tks0 (by decide)).trans e3491
                have e3520 := (Zfr.ai fq22 tkl0 (by decide)).trans e3492
                have e3521 := (Zfr.ai fq22 tkw0 (by decide)).trans e3493
                have e3522 := (Zfr.gi fq22 t_a0 (by decide)).trans e3494
                have e3523 := (Zfr.gr fq22 t_a0 (by decide)).trans e3495
                have e3524 := (Zfr.gr fq22 t_a0 (by decide)).trans e3496
                have e3525 := (Zfr.gr fq22 t_a0 (by decide)).trans e3497
                have e3526 := (Zfr.ai fq22 tkkq10 (by decide)).trans e3498
                have e3527 := (Zfr.gi fq22 t_a0 (by decide)).trans e3499
                have e3528 := (Zfr.gi fq22 t_a0 (by decide)).trans e3500
                have k3529 := GtP_fr k3502 fq22 t_a0 Wc20 (by decide)
                have sc3531 := Sc_fr fq22 t_a0 (by decide) (by decide) (by decide)
                have k3530 := WyN_fr k3503 fq22 t_a0 Wc20 (by decide) sc3531
                have k3532 := TbI_fr k3505 fq22 t_a0 Wc20 (by decide) sc3531
                have k3533 := TbC_fr k3506 fq22 t_a0 Wc20 (by decide) sc3531
                have k3534 := TkN_fr k3507 fq22 t_a0 Wc20 (by decide)
                have k3535 := PI_push k3508 k3509 (psJ (by omega) (by omega) (by omega) (by omega) (by omega)) (by omega) (by omega) (fun y_ => two_i (by omega)) e3499 e3500 (by omega) fq22 t_a0 Wc20 po0q22 e3485 (by omega)
                have F3537 := Zfr.tr F3510 fq22 (by decide)
                exact ⟨_, rfl, Wq22, F3537, ⟨bf2q15, bt2q15, dv, bks0, bkl0, bkw0, bna0, blb0, bnw0, bvn0, e3513, e3527, e3528, e3514, e3516, e3517, e3518, e3519, e3520, e3521, e3522, tks0, tkl0, tkw0, by (try dsimp only); omega, by (try dsimp only); omega, by (try dsimp only); omega, by (try dsimp only); omega, by (try dsimp only); omega, by (try dsimp only); omega, by (try dsimp only); omega, by (try dsimp only); omega, by (try dsimp only); omega, by (try dsimp only); omega, by (try dsimp only); omega, by (try dsimp only); omega, by (try dsimp only); omega, by (try dsimp only); omega, by (try dsimp only); omega, by (try dsimp only); omega, by (try dsimp only); omega, by (try dsimp only); omega, by (try dsimp only); omega, by (try dsimp only); omega, k3529, k3530, k3532, k3533, k3534⟩, k3535⟩
              · have hq3511 := i_ne hq3511
                unfold f_Mo_reckoned_159
                obtain ⟨w23, ew23⟩ := go_64 Wc20 t_a0
                refine wb ew23 ?_
                have := li_4
                obtain ⟨q22, eq22, Wq22, fq22, po0q22⟩ := p_Mo_frame hn Wc20 (a1 := 4) t_a0 (by omega) (by omega) e3485
                refine wb eq22 ?_
                have e3550 := (Zfr.gi fq22 t_a0 (by decide)).trans e3483
                have e3551 := (Zfr.gi fq22 t_a0 (by decide)).trans e3484
                have e3552 := (Zfr.gr fq22 t_a0 (by decide)).trans e3486
                have e3553 := (Zfr.gr fq22 t_a0 (by decide)).trans e3488
                have e3554 := (Zfr.gr fq22 t_a0 (by decide)).trans e3489
                have e3555 := (Zfr.gr fq22 t_a0 (by decide)).trans e3490
                have e3556 := (Zfr.ai fq22 tks0 (by decide)).trans e3491
                have e3557 := (Zfr.ai fq22 tkl0 (by decide)).trans e3492
                have e3558 := (Zfr.ai fq22 tkw0 (by decide)).trans e3493
                have e3559 := (Zfr.gi fq22 t_a0 (by decide)).trans e3494
                have e3560 := (Zfr.gr fq22 t_a0 (by decide)).trans e3495
                have e3561 := (Zfr.gr fq22 t_a0 (by decide)).trans e3496
                have e3562 := (Zfr.gr fq22 t_a0 (by decide)).trans e3497
                have e3563 := (Zfr.ai fq22 tkkq10 (by decide)).trans e3498
                have e3564 := (Zfr.gi fq22 t_a0 (by decide)).trans e3499
                have e3565 := (Zfr.gi fq22 t_a0 (by decide)).trans e3500
                have k3566 := GtP_fr k3502 fq22 t_a0 Wc20 (by decide)
                have sc3568 := Sc_fr fq22 t_a0 (by decide) (by decide) (by decide)
                have k3567 := WyN_fr k3503 fq22 t_a0 Wc20 (by decide) sc3568
                have k3569 := TbI_fr k3505 fq22 t_a0 Wc20 (by decide) sc3568
                have k3570 := TbC_fr k3506 fq22 t_a0 Wc20 (by decide) sc3568
                have k3571 := TkN_fr k3507 fq22 t_a0 Wc20 (by decide)
                have k3572 := PI_push k3508 k3509 (psJ (by omega) (by omega) (by omega) (by omega) (by omega)) (by omega) (by omega) (fun y_ => two_i (by omega)) e3499 e3500 (by omega) fq22 t_a0 Wc20 po0q22 e3485 (by omega)
                have F3574 := Zfr.tr F3510 fq22 (by decide)
                exact ⟨_, rfl, Wq22, F3574, ⟨bf2q15, bt2q15, dv, bks0, bkl0, bkw0, bna0, blb0, bnw0, bvn0, e3550, e3564, e3565, e3551, e3553, e3554, e3555, e3556, e3557, e3558, e3559, tks0, tkl0, tkw0, by (try dsimp only); omega, by (try dsimp only); omega, by (try dsimp only); omega, by (try dsimp only); omega, by (try dsimp only); omega, by (try dsimp only); omega, by (try dsimp only); omega, by (try dsimp only); omega, by (try dsimp only); omega, by (try dsimp only); omega, by (try dsimp only); omega, by (try dsimp only); omega, by (try dsimp only); omega, by (try dsimp only); omega, by (try dsimp only); omega, by (try dsimp only); omega, by (try dsimp only); omega, by (try dsimp only); omega, by (try dsimp only); omega, by (try dsimp only); omega, k3566, k3567, k3569, k3570, k3571⟩, k3572⟩
            · have := li_6
              have hq3425 := i_nle hq3425
              refine wb e3400 ?_
              have := li_1
              have := i_sub (a := fr) (b := 1) (by omega) (by omega)
              obtain ⟨c25, ec25, Wc25, fc25, gc25⟩ := pf_64_69 Wq10 t_a0 (x := (fr - 1)) (rgi (by omega) (by omega))
              refine wb ec25 ?_
              have e3586 := (Zfr.gi fc25 t_a0 (by decide)).trans e3397
              have e3587 := (Zfr.gi fc25 t_a0 (by decide)).trans e3398
              have e3588 := (Zfr.gi fc25 t_a0 (by decide)).trans e3399
              have e3589 := (Zfr.gr fc25 t_a0 (by decide)).trans e3401
              have e3590 := (Zfr.ai fc25 tqw_1 (by decide)).trans e3402
              have e3591 := (Zfr.gr fc25 t_a0 (by decide)).trans e3403
              have e3592 := (Zfr.gr fc25 t_a0 (by decide)).trans e3404
              have e3593 := (Zfr.gr fc25 t_a0 (by decide)).trans e3405
              have e3594 := (Zfr.ai fc25 tks0 (by decide)).trans e3406
              have e3595 := (Zfr.ai fc25 tkl0 (by decide)).trans e3407
              have e3596 := (Zfr.ai fc25 tkw0 (by decide)).trans e3408
              have e3597 := (Zfr.gi fc25 t_a0 (by decide)).trans e3409
              have e3598 := (Zfr.gr fc25 t_a0 (by decide)).trans e3410
              have e3599 := (Zfr.gr fc25 t_a0 (by decide)).trans e3411
              have e3600 := (Zfr.ai fc25 tw_2 (by decide)).trans e3412
              have e3601 := (Zfr.ai fc25 tw_3 (by decide)).trans e3413
              have e3602 := (Zfr.gi fc25 t_a0 (by decide)).trans h0ZScq10
              have e3603 := (Zfr.gr fc25 t_a0 (by decide)).trans h0Zkdq10
              have e3604 := (Zfr.ai fc25 tkkq10 (by decide)).trans h1Zkdq10
              have k3605 := GtP_fr k3414 fc25 t_a0 Wq10 (by decide)
              have sc3607 := Sc_fr fc25 t_a0 (by decide) (by decide) (by decide)
              have k3606 := WyN_fr k3415 fc25 t_a0 Wq10 (by decide) sc3607
              have k3608 := TbI_fr k3417 fc25 t_a0 Wq10 (by decide) sc3607
              have k3609 := TbC_fr k3418 fc25 t_a0 Wq10 (by decide) sc3607
              have k3610 := TkN_fr k3419 fc25 t_a0 Wq10 (by decide)
              have k3611 := PB_s0 k3420 fc25 t_a0 Wq10 (by decide) sc3607
              have k3612 := TpK_fr k3421 fc25 t_a0 Wq10 (by decide)
              have F3613 := Zfr.tr F3422 fc25 (by decide)
              exact ⟨_, rfl, Wc25, F3613, ⟨bf2q10, tv, dv, bks0, bkl0, bkw0, bna0, blb0, bnw0, bvn0, e3586, e3602, e3587, e3588, e3591, e3592, e3593, e3594, e3595, e3596, e3597, tks0, tkl0, tkw0, by (try dsimp only); omega, by (try dsimp only); omega, by (try dsimp only); omega, by (try dsimp only); omega, by (try dsimp only); omega, by (try dsimp only); omega, by (try dsimp only); omega, by (try dsimp only); omega, by (try dsimp only); omega, by (try dsimp only); omega, by (try dsimp only); omega, by (try dsimp only); omega, by (try dsimp only); omega, by (try dsimp only); omega, by (try dsimp only); omega, by (try dsimp only); omega, by (try dsimp only); omega, by (try dsimp only); omega, by (try dsimp only); omega, by (try dsimp only); omega, k3605, k3606, k3608, k3609, k3610⟩, PI_pop k3611 (by omega) (by omega) (by omega) (by omega) gc25 (by omega) (by omega)⟩
          · have := li_42
            have := i_ge q10.1
            have := i_up q10.1
            have hq3424 := i_ne hq3424
            unfold f_Mo_reckoned_112
            refine wi (fun hq3627 => ?_) (fun hq3627 => ?_)
            · have := li_m1
              have hq3627 := i_le hq3627
              obtain ⟨w16, ew16⟩ := go_64 Wq10 t_a0
              refine wb ew16 ?_
              obtain ⟨q15, eq15, Wq15, fq15, pbZSq15⟩ := p_Mo_pass hn Wq10  t_a0 (by omega) (by omega) (by omega) (by omega) h0ZScq10 e3398
              refine wb eq15 ?_
              have e3630 := (Zfr.gi fq15 t_a0 (by decide)).trans e3397
              have e3631 := (Zfr.gi fq15 t_a0 (by decide)).trans e3399
              have e3632 := (Zfr.gi fq15 t_a0 (by decide)).trans e3400
              have e3633 := (Zfr.gr fq15 t_a0 (by decide)).trans e3401
              have e3634 := (Zfr.ai fq15 tqw_1 (by decide)).trans e3402
              have e3635 := (Zfr.gr fq15 t_a0 (by decide)).trans e3403
              have e3636 := (Zfr.gr fq15 t_a0 (by decide)).trans e3404
              have e3637 := (Zfr.gr fq15 t_a0 (by decide)).trans e3405
              have e3638 := (Zfr.ai fq15 tks0 (by decide)).trans e3406
              have e3639 := (Zfr.ai fq15 tkl0 (by decide)).trans e3407
              have e3640 := (Zfr.ai fq15 tkw0 (by decide)).trans e3408
              have e3641 := (Zfr.gi fq15 t_a0 (by decide)).trans e3409
              have e3642 := (Zfr.gr fq15 t_a0 (by decide)).trans e3410
              have e3643 := (Zfr.gr fq15 t_a0 (by decide)).trans e3411
              have e3644 := (Zfr.ai fq15 tw_2 (by decide)).trans e3412
              have e3645 := (Zfr.ai fq15 tw_3 (by decide)).trans e3413
              have e3646 := (Zfr.gr fq15 t_a0 (by decide)).trans h0Zkdq10
              have e3647 := (Zfr.ai fq15 tkkq10 (by decide)).trans h1Zkdq10
              have k3648 := GtP_fr k3414 fq15 t_a0 Wq10 (by decide)
              have := li_1
              have sc3650 : Sc q10.2 q15 a0 (1) (0) := by
                obtain ⟨yf2, yt2, z0y, z1y, x0y, x1y, x2y, x3y, x4y, x5y⟩ := pbZSq15
                exact Sc_mk h0ZScq10 z0y e3398 z1y e3399 ((Zfr.gi (ci := 12) fq15 t_a0 (by decide)).trans e3399) (by omega)
              have k3649 := WyN_fr k3415 fq15 t_a0 Wq10 (by decide) sc3650
              have k3651 := TbI_fr k3417 fq15 t_a0 Wq10 (by decide) sc3650
              have k3652 := TbC_fr k3418 fq15 t_a0 Wq10 (by decide) sc3650
              have k3653 := TkN_fr k3419 fq15 t_a0 Wq10 (by decide)
              have k3654 := PB_sc k3420 fq15 t_a0 Wq10 (by decide) sc3650 (by omega)
              have k3655 := TpK_fr k3421 fq15 t_a0 Wq10 (by decide)
              have F3656 := Zfr.tr F3422 fq15 (by decide)
              obtain ⟨bf2q15, bt2q15, h0ZSq15, h1ZSq15, r0ZSq15, r1ZSq15, r2ZSq15, r3ZSq15, r4ZSq15, r5ZSq15⟩ := pbZSq15
              refine wb e3643 ?_
              obtain ⟨c18, ec18, Wc18, fc18, gc18⟩ := pa_116 Wq15 tw_3 (i := a1) (by omega) (by omega) (x := (-1)) (trivial)
              refine wb ec18 ?_
              have e3657 := (Zfr.gi fc18 t_a0 (by decide)).trans e3630
              have e3658 := (Zfr.gi fc18 t_a0 (by decide)).trans e3631
              have e3659 := (Zfr.gi fc18 t_a0 (by decide)).trans e3632
              have e3660 := (Zfr.gr fc18 t_a0 (by decide)).trans e3633
              have e3661 := (Zfr.ai fc18 tqw_1 (by decide)).trans e3634
              have e3662 := (Zfr.gr fc18 t_a0 (by decide)).trans e3635
              have e3663 := (Zfr.gr fc18 t_a0 (by decide)).trans e3636
              have e3664 := (Zfr.gr fc18 t_a0 (by decide)).trans e3637
              have e3665 := (Zfr.ai fc18 tks0 (by decide)).trans e3638
              have e3666 := (Zfr.ai fc18 tkl0 (by decide)).trans e3639
              have e3667 := (Zfr.ai fc18 tkw0 (by decide)).trans e3640
              have e3668 := (Zfr.gi fc18 t_a0 (by decide)).trans e3641
              have e3669 := (Zfr.gr fc18 t_a0 (by decide)).trans e3642
              have e3670 := (Zfr.gr fc18 t_a0 (by decide)).trans e3643
              have e3671 := (Zfr.ai fc18 tw_2 (by decide)).trans e3644
              have e3672 := (Zfr.gr fc18 t_a0 (by decide)).trans e3646
              have e3673 := (Zfr.ai fc18 tkkq10 (by decide)).trans e3647
              have e3674 := (Zfr.gi fc18 t_a0 (by decide)).trans h0ZSq15
              have e3675 := (Zfr.gi fc18 t_a0 (by decide)).trans h1ZSq15
              have k3676 := GtP_fr k3648 fc18 t_a0 Wq15 (by decide)
              have sc3678 := Sc_fr fc18 t_a0 (by decide) (by decide) (by decide)
              have k3677 := WyN_fr k3649 fc18 t_a0 Wq15 (by decide) sc3678
              have k3679 := TbI_fr k3651 fc18 t_a0 Wq15 (by decide) sc3678
              have k3680 := TbC_fr k3652 fc18 t_a0 Wq15 (by decide) sc3678
              have k3681 := TkN_fr k3653 fc18 t_a0 Wq15 (by decide)
              have k3682 := PB_w68 k3654 Wq15 t_a0 fc18 e3643 ec18 rfl
              have k3683 := TpK_w68 k3655 Wq15 t_a0 fc18 e3643 ec18 rfl
              have F3684 := Zfr.tr F3656 fc18 (by decide)
              refine wb e3669 ?_
              obtain ⟨c20, ec20, Wc20, fc20, gc20⟩ := pa_115 Wc18 tw_2 (i := a1) (by omega) (by omega) (x := 2) (trivial)
              refine wb ec20 ?_
              have e3685 := (Zfr.gi fc20 t_a0 (by decide)).trans e3657
              have e3686 := (Zfr.gi fc20 t_a0 (by decide)).trans e3658
              have e3687 := (Zfr.gi fc20 t_a0 (by decide)).trans e3659
              have e3688 := (Zfr.gr fc20 t_a0 (by decide)).trans e3660
              have e3689 := (Zfr.ai fc20 tqw_1 (by decide)).trans e3661
              have e3690 := (Zfr.gr fc20 t_a0 (by decide)).trans e3662
              have e3691 := (Zfr.gr fc20 t_a0 (by decide)).trans e3663
              have e3692 := (Zfr.gr fc20 t_a0 (by decide)).trans e3664
              have e3693 := (Zfr.ai fc20 tks0 (by decide)).trans e3665
              have e3694 := (Zfr.ai fc20 tkl0 (by decide)).trans e3666
              have e3695 := (Zfr.ai fc20 tkw0 (by decide)).trans e3667
              have e3696 := (Zfr.gi fc20 t_a0 (by decide)).trans e3668
              have e3697 := (Zfr.gr fc20 t_a0 (by decide)).trans e3669
              have e3698 := (Zfr.gr fc20 t_a0 (by decide)).trans e3670
              have e3699 := (Zfr.gr fc20 t_a0 (by decide)).trans e3672
              have e3700 := (Zfr.ai fc20 tkkq10 (by decide)).trans e3673
              have e3701 := (Zfr.gi fc20 t_a0 (by decide)).trans e3674
              have e3702 := (Zfr.gi fc20 t_a0 (by decide)).trans e3675
              have e3703 := (Zfr.ai fc20 tw_3 (by decide)).trans gc18
              have k3704 := GtP_fr k3676 fc20 t_a0 Wc18 (by decide)
              have sc3706 := Sc_fr fc20 t_a0 (by decide) (by decide) (by decide)
              have k3705 := WyN_fr k3677 fc20 t_a0 Wc18 (by decide) sc3706
              have k3707 := TbI_fr k3679 fc20 t_a0 Wc18 (by decide) sc3706
              have k3708 := TbC_fr k3680 fc20 t_a0 Wc18 (by decide) sc3706
              have k3709 := TkN_fr k3681 fc20 t_a0 Wc18 (by decide)
              have k3710 := PB_w67 k3682 Wc18 t_a0 fc20 e3669 ec20 rfl
              have k3711 := TpK_w67 k3683 Wc18 t_a0 fc20 e3669 ec20 rfl
              have F3712 := Zfr.tr F3684 fc20 (by decide)
              refine wi (fun hq3713 => ?_) (fun hq3713 => ?_)
              · have hq3713 := i_eq hq3713
                unfold f_Mo_reckoned_159
                obtain ⟨w23, ew23⟩ := go_64 Wc20 t_a0
                refine wb ew23 ?_
                have := li_5
                obtain ⟨q22, eq22, Wq22, fq22, po0q22⟩ := p_Mo_frame hn Wc20 (a1 := 5) t_a0 (by omega) (by omega) e3687
                refine wb eq22 ?_
                have e3715 := (Zfr.gi fq22 t_a0 (by decide)).trans e3685
                have e3716 := (Zfr.gi fq22 t_a0 (by decide)).trans e3686
                have e3717 := (Zfr.gr fq22 t_a0 (by decide)).trans e3688
                have e3718 := (Zfr.gr fq22 t_a0 (by decide)).trans e3690
                have e3719 := (Zfr.gr fq22 t_a0 (by decide)).trans e3691
                have e3720 := (Zfr.gr fq22 t_a0 (by decide)).trans e3692
                have e3721 := (Zfr.ai fq22 tks0 (by decide)).trans e3693
                have e3722 := (Zfr.ai fq22 tkl0 (by decide)).trans e3694
                have e3723 := (Zfr.ai fq22 tkw0 (by decide)).trans e3695
                have e3724 := (Zfr.gi fq22 t_a0 (by decide)).trans e3696
                have e3725 := (Zfr.gr fq22 t_a0 (by decide)).trans e3697
                have e3726 := (Zfr.gr fq22 t_a0 (by decide)).trans e3698
                have e3727 := (Zfr.gr fq22 t_a0 (by decide)).trans e3699
                have e3728 := (Zfr.ai fq22 tkkq10 (by decide)).trans e3700
                have e3729 := (Zfr.gi fq22 t_a0 (by decide)).trans e3701
                have e3730 := (Zfr.gi fq22 t_a0 (by decide)).trans e3702
                have k3731 := GtP_fr k3704 fq22 t_a0 Wc20 (by decide)
                have sc3733 := Sc_fr fq22 t_a0 (by decide) (by decide) (by decide)
                have k3732 := WyN_fr k3705 fq22 t_a0 Wc20 (by decide) sc3733
                have k3734 := TbI_fr k3707 fq22 t_a0 Wc20 (by decide) sc3733
                have k3735 := TbC_fr k3708 fq22 t_a0 Wc20 (by decide) sc3733
                have k3736 := TkN_fr k3709 fq22 t_a0 Wc20 (by decide)
                have k3737 := PI_push k3710 k3711 (psJ (by omega) (by omega) (by omega) (by omega) (by omega)) (by omega) (by omega) (fun y_ => two_i (by omega)) e3701 e3702 (by omega) fq22 t_a0 Wc20 po0q22 e3687 (by omega)
                have F3739 := Zfr.tr F3712 fq22 (by decide)
                exact ⟨_, rfl, Wq22, F3739, ⟨bf2q15, bt2q15, dv, bks0, bkl0, bkw0, bna0, blb0, bnw0, bvn0, e3715, e3729, e3730, e3716, e3718, e3719, e3720, e3721, e3722, e3723, e3724, tks0, tkl0, tkw0, by (try dsimp only); omega, by (try dsimp only); omega, by (try dsimp only); omega, by (try dsimp only); omega, by (try dsimp only); omega, by (try dsimp only); omega, by (try dsimp only); omega, by (try dsimp only); omega, by (try dsimp only); omega, by (try dsimp only); omega, by (try dsimp only); omega, by (try dsimp only); omega, by (try dsimp only); omega, by (try dsimp only); omega, by (try dsimp only); omega, by (try dsimp only); omega, by (try dsimp only); omega, by (try dsimp only); omega, by (try dsimp only); omega, by (try dsimp only); omega, k3731, k3732, k3734, k3735, k3736⟩, k3737⟩
              · have hq3713 := i_ne hq3713
                unfold f_Mo_reckoned_159
                obtain ⟨w23, ew23⟩ := go_64 Wc20 t_a0
                refine wb ew23 ?_
                have := li_4
                obtain ⟨q22, eq22, Wq22, fq22, po0q22⟩ := p_Mo_frame hn Wc20 (a1 := 4) t_a0 (by omega) (by omega) e3687
                refine wb eq22 ?_
                have e3752 := (Zfr.gi fq22 t_a0 (by decide)).trans e3685
                have e3753 := (Zfr.gi fq22 t_a0 (by decide)).trans e3686
                have e3754 := (Zfr.gr fq22 t_a0 (by decide)).trans e3688
                have e3755 := (Zfr.gr fq22 t_a0 (by decide)).trans e3690
                have e3756 := (Zfr.gr fq22 t_a0 (by decide)).trans e3691
                have e3757 := (Zfr.gr fq22 t_a0 (by decide)).trans e3692
                have e3758 := (Zfr.ai fq22 tks0 (by decide)).trans e3693
                have e3759 := (Zfr.ai fq22 tkl0 (by decide)).trans e3694
                have e3760 := (Zfr.ai fq22 tkw0 (by decide)).trans e3695
                have e3761 := (Zfr.gi fq22 t_a0 (by decide)).trans e3696
                have e3762 := (Zfr.gr fq22 t_a0 (by decide)).trans e3697
                have e3763 := (Zfr.gr fq22 t_a0 (by decide)).trans e3698
                have e3764 := (Zfr.gr fq22 t_a0 (by decide)).trans e3699
                have e3765 := (Zfr.ai fq22 tkkq10 (by decide)).trans e3700
                have e3766 := (Zfr.gi fq22 t_a0 (by decide)).trans e3701
                have e3767 := (Zfr.gi fq22 t_a0 (by decide)).trans e3702
                have k3768 := GtP_fr k3704 fq22 t_a0 Wc20 (by decide)
                have sc3770 := Sc_fr fq22 t_a0 (by decide) (by decide) (by decide)
                have k3769 := WyN_fr k3705 fq22 t_a0 Wc20 (by decide) sc3770
                have k3771 := TbI_fr k3707 fq22 t_a0 Wc20 (by decide) sc3770
                have k3772 := TbC_fr k3708 fq22 t_a0 Wc20 (by decide) sc3770
                have k3773 := TkN_fr k3709 fq22 t_a0 Wc20 (by decide)
                have k3774 := PI_push k3710 k3711 (psJ (by omega) (by omega) (by omega) (by omega) (by omega)) (by omega) (by omega) (fun y_ => two_i (by omega)) e3701 e3702 (by omega) fq22 t_a0 Wc20 po0q22 e3687 (by omega)
                have F3776 := Zfr.tr F3712 fq22 (by decide)
                exact ⟨_, rfl, Wq22, F3776, ⟨bf2q15, bt2q15, dv, bks0, bkl0, bkw0, bna0, blb0, bnw0, bvn0, e3752, e3766, e3767, e3753, e3755, e3756, e3757, e3758, e3759, e3760, e3761, tks0, tkl0, tkw0, by (try dsimp only); omega, by (try dsimp only); omega, by (try dsimp only); omega, by (try dsimp only); omega, by (try dsimp only); omega, by (try dsimp only); omega, by (try dsimp only); omega, by (try dsimp only); omega, by (try dsimp only); omega, by (try dsimp only); omega, by (try dsimp only); omega, by (try dsimp only); omega, by (try dsimp only); omega, by (try dsimp only); omega, by (try dsimp only); omega, by (try dsimp only); omega, by (try dsimp only); omega, by (try dsimp only); omega, by (try dsimp only); omega, by (try dsimp only); omega, k3768, k3769, k3771, k3772, k3773⟩, k3774⟩
            · have := li_m1
              have hq3627 := i_nle hq3627
              refine wb e3400 ?_
              have := li_1
              have := i_sub (a := fr) (b := 1) (by omega) (by omega)
              obtain ⟨c25, ec25, Wc25, fc25, gc25⟩ := pf_64_69 Wq10 t_a0 (x := (fr - 1)) (rgi (by omega) (by omega))
              refine wb ec25 ?_
              have e3788 := (Zfr.gi fc25 t_a0 (by decide)).trans e3397
              have e3789 := (Zfr.gi fc25 t_a0 (by decide)).trans e3398
              have e3790 := (Zfr.gi fc25 t_a0 (by decide)).trans e3399
              have e3791 := (Zfr.gr fc25 t_a0 (by decide)).trans e3401
              have e3792 := (Zfr.ai fc25 tqw_1 (by decide)).trans e3402
              have e3793 := (Zfr.gr fc25 t_a0 (by decide)).trans e3403
              have e3794 := (Zfr.gr fc25 t_a0 (by decide)).trans e3404
              have e3795 := (Zfr.gr fc25 t_a0 (by decide)).trans e3405
              have e3796 := (Zfr.ai fc25 tks0 (by decide)).trans e3406
              have e3797 := (Zfr.ai fc25 tkl0 (by decide)).trans e3407
              have e3798 := (Zfr.ai fc25 tkw0 (by decide)).trans e3408
              have e3799 := (Zfr.gi fc25 t_a0 (by decide)).trans e3409
              have e3800 := (Zfr.gr fc25 t_a0 (by decide)).trans e3410
              have e3801 := (Zfr.gr fc25 t_a0 (by decide)).trans e3411
              have e3802 := (Zfr.ai fc25 tw_2 (by decide)).trans e3412
              have e3803 := (Zfr.ai fc25 tw_3 (by decide)).trans e3413
              have e3804 := (Zfr.gi fc25 t_a0 (by decide)).trans h0ZScq10
              have e3805 := (Zfr.gr fc25 t_a0 (by decide)).trans h0Zkdq10
              have e3806 := (Zfr.ai fc25 tkkq10 (by decide)).trans h1Zkdq10
              have k3807 := GtP_fr k3414 fc25 t_a0 Wq10 (by decide)
              have sc3809 := Sc_fr fc25 t_a0 (by decide) (by decide) (by decide)
              have k3808 := WyN_fr k3415 fc25 t_a0 Wq10 (by decide) sc3809
              have k3810 := TbI_fr k3417 fc25 t_a0 Wq10 (by decide) sc3809
              have k3811 := TbC_fr k3418 fc25 t_a0 Wq10 (by decide) sc3809
              have k3812 := TkN_fr k3419 fc25 t_a0 Wq10 (by decide)
              have k3813 := PB_s0 k3420 fc25 t_a0 Wq10 (by decide) sc3809
              have k3814 := TpK_fr k3421 fc25 t_a0 Wq10 (by decide)
              have F3815 := Zfr.tr F3422 fc25 (by decide)
              exact ⟨_, rfl, Wc25, F3815, ⟨bf2q10, tv, dv, bks0, bkl0, bkw0, bna0, blb0, bnw0, bvn0, e3788, e3804, e3789, e3790, e3793, e3794, e3795, e3796, e3797, e3798, e3799, tks0, tkl0, tkw0, by (try dsimp only); omega, by (try dsimp only); omega, by (try dsimp only); omega, by (try dsimp only); omega, by (try dsimp only); omega, by (try dsimp only); omega, by (try dsimp only); omega, by (try dsimp only); omega, by (try dsimp only); omega, by (try dsimp only); omega, by (try dsimp only); omega, by (try dsimp only); omega, by (try dsimp only); omega, by (try dsimp only); omega, by (try dsimp only); omega, by (try dsimp only); omega, by (try dsimp only); omega, by (try dsimp only); omega, by (try dsimp only); omega, by (try dsimp only); omega, k3807, k3808, k3810, k3811, k3812⟩, PI_pop k3813 (by omega) (by omega) (by omega) (by omega) gc25 (by omega) (by omega)⟩
        · have hq3423 := i_ne hq3423
          refine wi (fun hq3829 => ?_) (fun hq3829 => ?_)
          · have := li_43
            have := i_ge q10.1
            have := i_up q10.1
            have hq3829 := i_eq hq3829
            unfold f_Mo_reckoned_112
            refine wi (fun hq3830 => ?_) (fun hq3830 => ?_)
            · have := li_4
              have hq3830 := i_le hq3830
              obtain ⟨w16, ew16⟩ := go_64 Wq10 t_a0
              refine wb ew16 ?_
              obtain ⟨q15, eq15, Wq15, fq15, pbZSq15⟩ := p_Mo_pass hn Wq10  t_a0 (by omega) (by omega) (by omega) (by omega) h0ZScq10 e3398
              refine wb eq15 ?_
              have e3833 := (Zfr.gi fq15 t_a0 (by decide)).trans e3397
              have e3834 := (Zfr.gi fq15 t_a0 (by decide)).trans e3399
              have e3835 := (Zfr.gi fq15 t_a0 (by decide)).trans e3400
              have e3836 := (Zfr.gr fq15 t_a0 (by decide)).trans e3401
              have e3837 := (Zfr.ai fq15 tqw_1 (by decide)).trans e3402
              have e3838 := (Zfr.gr fq15 t_a0 (by decide)).trans e3403
              have e3839 := (Zfr.gr fq15 t_a0 (by decide)).trans e3404
              have e3840 := (Zfr.gr fq15 t_a0 (by decide)).trans e3405
              have e3841 := (Zfr.ai fq15 tks0 (by decide)).trans e3406
              have e3842 := (Zfr.ai fq15 tkl0 (by decide)).trans e3407
              have e3843 := (Zfr.ai fq15 tkw0 (by decide)).trans e3408
              have e3844 := (Zfr.gi fq15 t_a0 (by decide)).trans e3409
              have e3845 := (Zfr.gr fq15 t_a0 (by decide)).trans e3410
              have e3846 := (Zfr.gr fq15 t_a0 (by decide)).trans e3411
              have e3847 := (Zfr.ai fq15 tw_2 (by decide)).trans e3412
              have e3848 := (Zfr.ai fq15 tw_3 (by decide)).trans e3413
              have e3849 := (Zfr.gr fq15 t_a0 (by decide)).trans h0Zkdq10
              have e3850 := (Zfr.ai fq15 tkkq10 (by decide)).trans h1Zkdq10
              have k3851 := GtP_fr k3414 fq15 t_a0 Wq10 (by decide)
              have := li_1
              have sc3853 : Sc q10.2 q15 a0 (1) (0) := by
                obtain ⟨yf2, yt2, z0y, z1y, x0y, x1y, x2y, x3y, x4y, x5y⟩ := pbZSq15
                exact Sc_mk h0ZScq10 z0y e3398 z1y e3399 ((Zfr.gi (ci := 12) fq15 t_a0 (by decide)).trans e3399) (by omega)
              have k3852 := WyN_fr k3415 fq15 t_a0 Wq10 (by decide) sc3853
              have k3854 := TbI_fr k3417 fq15 t_a0 Wq10 (by decide) sc3853
              have k3855 := TbC_fr k3418 fq15 t_a0 Wq10 (by decide) sc3853
              have k3856 := TkN_fr k3419 fq15 t_a0 Wq10 (by decide)
              have k3857 := PB_sc k3420 fq15 t_a0 Wq10 (by decide) sc3853 (by omega)
              have k3858 := TpK_fr k3421 fq15 t_a0 Wq10 (by decide)
              have F3859 := Zfr.tr F3422 fq15 (by decide)
              obtain ⟨bf2q15, bt2q15, h0ZSq15, h1ZSq15, r0ZSq15, r1ZSq15, r2ZSq15, r3ZSq15, r4ZSq15, r5ZSq15⟩ := pbZSq15
              refine wb e3846 ?_
              obtain ⟨c18, ec18, Wc18, fc18, gc18⟩ := pa_116 Wq15 tw_3 (i := a1) (by omega) (by omega) (x := 4) (trivial)
              refine wb ec18 ?_
              have e3860 := (Zfr.gi fc18 t_a0 (by decide)).trans e3833
              have e3861 := (Zfr.gi fc18 t_a0 (by decide)).trans e3834
              have e3862 := (Zfr.gi fc18 t_a0 (by decide)).trans e3835
              have e3863 := (Zfr.gr fc18 t_a0 (by decide)).trans e3836
              have e3864 := (Zfr.ai fc18 tqw_1 (by decide)).trans e3837
              have e3865 := (Zfr.gr fc18 t_a0 (by decide)).trans e3838
              have e3866 := (Zfr.gr fc18 t_a0 (by decide)).trans e3839
              have e3867 := (Zfr.gr fc18 t_a0 (by decide)).trans e3840
              have e3868 := (Zfr.ai fc18 tks0 (by decide)).trans e3841
              have e3869 := (Zfr.ai fc18 tkl0 (by decide)).trans e3842
              have e3870 := (Zfr.ai fc18 tkw0 (by decide)).trans e3843
              have e3871 := (Zfr.gi fc18 t_a0 (by decide)).trans e3844
              have e3872 := (Zfr.gr fc18 t_a0 (by decide)).trans e3845
              have e3873 := (Zfr.gr fc18 t_a0 (by decide)).trans e3846
              have e3874 := (Zfr.ai fc18 tw_2 (by decide)).trans e3847
              have e3875 := (Zfr.gr fc18 t_a0 (by decide)).trans e3849
              have e3876 := (Zfr.ai fc18 tkkq10 (by decide)).trans e3850
              have e3877 := (Zfr.gi fc18 t_a0 (by decide)).trans h0ZSq15
              have e3878 := (Zfr.gi fc18 t_a0 (by decide)).trans h1ZSq15
              have k3879 := GtP_fr k3851 fc18 t_a0 Wq15 (by decide)
              have sc3881 := Sc_fr fc18 t_a0 (by decide) (by decide) (by decide)
              have k3880 := WyN_fr k3852 fc18 t_a0 Wq15 (by decide) sc3881
              have k3882 := TbI_fr k3854 fc18 t_a0 Wq15 (by decide) sc3881
              have k3883 := TbC_fr k3855 fc18 t_a0 Wq15 (by decide) sc3881
              have k3884 := TkN_fr k3856 fc18 t_a0 Wq15 (by decide)
              have k3885 := PB_w68 k3857 Wq15 t_a0 fc18 e3846 ec18 rfl
              have k3886 := TpK_w68 k3858 Wq15 t_a0 fc18 e3846 ec18 rfl
              have F3887 := Zfr.tr F3859 fc18 (by decide)
              refine wb e3872 ?_
              obtain ⟨c20, ec20, Wc20, fc20, gc20⟩ := pa_115 Wc18 tw_2 (i := a1) (by omega) (by omega) (x := 2) (trivial)
              refine wb ec20 ?_
              have e3888 := (Zfr.gi fc20 t_a0 (by decide)).trans e3860
              have e3889 := (Zfr.gi fc20 t_a0 (by decide)).trans e3861
              have e3890 := (Zfr.gi fc20 t_a0 (by decide)).trans e3862
              have e3891 := (Zfr.gr fc20 t_a0 (by decide)).trans e3863
              have e3892 := (Zfr.ai fc20 tqw_1 (by decide)).trans e3864
              have e3893 := (Zfr.gr fc20 t_a0 (by decide)).trans e3865
              have e3894 := (Zfr.gr fc20 t_a0 (by decide)).trans e3866
              have e3895 := (Zfr.gr fc20 t_a0 (by decide)).trans e3867
              have e3896 := (Zfr.ai fc20 tks0 (by decide)).trans e3868
              have e3897 := (Zfr.ai fc20 tkl0 (by decide)).trans e3869
              have e3898 := (Zfr.ai fc20 tkw0 (by decide)).trans e3870
              have e3899 := (Zfr.gi fc20 t_a0 (by decide)).trans e3871
              have e3900 := (Zfr.gr fc20 t_a0 (by decide)).trans e3872
              have e3901 := (Zfr.gr fc20 t_a0 (by decide)).trans e3873
              have e3902 := (Zfr.gr fc20 t_a0 (by decide)).trans e3875
              have e3903 := (Zfr.ai fc20 tkkq10 (by decide)).trans e3876
              have e3904 := (Zfr.gi fc20 t_a0 (by decide)).trans e3877
              have e3905 := (Zfr.gi fc20 t_a0 (by decide)).trans e3878
              have e3906 := (Zfr.ai fc20 tw_3 (by decide)).trans gc18
              have k3907 := GtP_fr k3879 fc20 t_a0 Wc18 (by decide)
              have sc3909 := Sc_fr fc20 t_a0 (by decide) (by decide) (by decide)
              have k3908 := WyN_fr k3880 fc20 t_a0 Wc18 (by decide) sc3909
              have k3910 := TbI_fr k3882 fc20 t_a0 Wc18 (by decide) sc3909
              have k3911 := TbC_fr k3883 fc20 t_a0 Wc18 (by decide) sc3909
              have k3912 := TkN_fr k3884 fc20 t_a0 Wc18 (by decide)
              have k3913 := PB_w67 k3885 Wc18 t_a0 fc20 e3872 ec20 rfl
              have k3914 := TpK_w67 k3886 Wc18 t_a0 fc20 e3872 ec20 rfl
              have F3915 := Zfr.tr F3887 fc20 (by decide)
              refine wi (fun hq3916 => ?_) (fun hq3916 => ?_)
              · have hq3916 := i_eq hq3916
                unfold f_Mo_reckoned_159
                obtain ⟨w23, ew23⟩ := go_64 Wc20 t_a0
                refine wb ew23 ?_
                have := li_5
                obtain ⟨q22, eq22, Wq22, fq22, po0q22⟩ := p_Mo_frame hn Wc20 (a1 := 5) t_a0 (by omega) (by omega) e3890
                refine wb eq22 ?_
                have e3918 := (Zfr.gi fq22 t_a0 (by decide)).trans e3888
                have e3919 := (Zfr.gi fq22 t_a0 (by decide)).trans e3889
                have e3920 := (Zfr.gr fq22 t_a0 (by decide)).trans e3891
                have e3921 := (Zfr.gr fq22 t_a0 (by decide)).trans e3893
                have e3922 := (Zfr.gr fq22 t_a0 (by decide)).trans e3894
                have e3923 := (Zfr.gr fq22 t_a0 (by decide)).trans e3895
                have e3924 := (Zfr.ai fq22 tks0 (by decide)).trans e3896
                have e3925 := (Zfr.ai fq22 tkl0 (by decide)).trans e3897
                have e3926 := (Zfr.ai fq22 tkw0 (by decide)).trans e3898
                have e3927 := (Zfr.gi fq22 t_a0 (by decide)).trans e3899
                have e3928 := (Zfr.gr fq22 t_a0 (by decide)).trans e3900
                have e3929 := (Zfr.gr fq22 t_a0 (by decide)).trans e3901
                have e3930 := (Zfr.gr fq22 t_a0 (by decide)).trans e3902
                have e3931 := (Zfr.ai fq22 tkkq10 (by decide)).trans e3903
                have e3932 := (Zfr.gi fq22 t_a0 (by decide)).trans e3904
                have e3933 := (Zfr.gi fq22 t_a0 (by decide)).trans e3905
                have k3934 := GtP_fr k3907 fq22 t_a0 Wc20 (by decide)
                have sc3936 := Sc_fr fq22 t_a0 (by decide) (by decide) (by decide)
                have k3935 := WyN_fr k3908 fq22 t_a0 Wc20 (by decide) sc3936
                have k3937 := TbI_fr k3910 fq22 t_a0 Wc20 (by decide) sc3936
                have k3938 := TbC_fr k3911 fq22 t_a0 Wc20 (by decide) sc3936
                have k3939 := TkN_fr k3912 fq22 t_a0 Wc20 (by decide)
                have k3940 := PI_push k3913 k3914 (psJ (by omega) (by omega) (by omega) (by omega) (by omega)) (by omega) (by omega) (fun y_ => two_i (by omega)) e3904 e3905 (by omega) fq22 t_a0 Wc20 po0q22 e3890 (by omega)
                have F3942 := Zfr.tr F3915 fq22 (by decide)
                exact ⟨_, rfl, Wq22, F3942, ⟨bf2q15, bt2q15, dv, bks0, bkl0, bkw0, bna0, blb0, bnw0, bvn0, e3918, e3932, e3933, e3919, e3921, e3922, e3923, e3924, e3925, e3926, e3927, tks0, tkl0, tkw0, by (try dsimp only); omega, by (try dsimp only); omega, by (try dsimp only); omega, by (try dsimp only); omega, by (try dsimp only); omega, by (try dsimp only); omega, by (try dsimp only); omega, by (try dsimp only); omega, by (try dsimp only); omega, by (try dsimp only); omega, by (try dsimp only); omega, by (try dsimp only); omega, by (try dsimp only); omega, by (try dsimp only); omega, by (try dsimp only); omega, by (try dsimp only); omega, by (try dsimp only); omega, by (try dsimp only); omega, by (try dsimp only); omega, by (try dsimp only); omega, k3934, k3935, k3937, k3938, k3939⟩, k3940⟩
              · have hq3916 := i_ne hq3916
                unfold f_Mo_reckoned_159
                obtain ⟨w23, ew23⟩ := go_64 Wc20 t_a0
                refine wb ew23 ?_
                obtain ⟨q22, eq22, Wq22, fq22, po0q22⟩ := p_Mo_frame hn Wc20 (a1 := 4) t_a0 (by omega) (by omega) e3890
                refine wb eq22 ?_
                have e3955 := (Zfr.gi fq22 t_a0 (by decide)).trans e3888
                have e3956 := (Zfr.gi fq22 t_a0 (by decide)).trans e3889
                have e3957 := (Zfr.gr fq22 t_a0 (by decide)).trans e3891
                have e3958 := (Zfr.gr fq22 t_a0 (by decide)).trans e3893
                have e3959 := (Zfr.gr fq22 t_a0 (by decide)).trans e3894
                have e3960 := (Zfr.gr fq22 t_a0 (by decide)).trans e3895
                have e3961 := (Zfr.ai fq22 tks0 (by decide)).trans e3896
                have e3962 := (Zfr.ai fq22 tkl0 (by decide)).trans e3897
                have e3963 := (Zfr.ai fq22 tkw0 (by decide)).trans e3898
                have e3964 := (Zfr.gi fq22 t_a0 (by decide)).trans e3899
                have e3965 := (Zfr.gr fq22 t_a0 (by decide)).trans e3900
                have e3966 := (Zfr.gr fq22 t_a0 (by decide)).trans e3901
                have e3967 := (Zfr.gr fq22 t_a0 (by decide)).trans e3902
                have e3968 := (Zfr.ai fq22 tkkq10 (by decide)).trans e3903
                have e3969 := (Zfr.gi fq22 t_a0 (by decide)).trans e3904
                have e3970 := (Zfr.gi fq22 t_a0 (by decide)).trans e3905
                have k3971 := GtP_fr k3907 fq22 t_a0 Wc20 (by decide)
                have sc3973 := Sc_fr fq22 t_a0 (by decide) (by decide) (by decide)
                have k3972 := WyN_fr k3908 fq22 t_a0 Wc20 (by decide) sc3973
                have k3974 := TbI_fr k3910 fq22 t_a0 Wc20 (by decide) sc3973
                have k3975 := TbC_fr k3911 fq22 t_a0 Wc20 (by decide) sc3973
                have k3976 := TkN_fr k3912 fq22 t_a0 Wc20 (by decide)
                have k3977 := PI_push k3913 k3914 (psJ (by omega) (by omega) (by omega) (by omega) (by omega)) (by omega) (by omega) (fun y_ => two_i (by omega)) e3904 e3905 (by omega) fq22 t_a0 Wc20 po0q22 e3890 (by omega)
                have F3979 := Zfr.tr F3915 fq22 (by decide)
                exact ⟨_, rfl, Wq22, F3979, ⟨bf2q15, bt2q15, dv, bks0, bkl0, bkw0, bna0, blb0, bnw0, bvn0, e3955, e3969, e3970, e3956, e3958, e3959, e3960, e3961, e3962, e3963, e3964, tks0, tkl0, tkw0, by (try dsimp only); omega, by (try dsimp only); omega, by (try dsimp only); omega, by (try dsimp only); omega, by (try dsimp only); omega, by (try dsimp only); omega, by (try dsimp only); omega, by (try dsimp only); omega, by (try dsimp only); omega, by (try dsimp only); omega, by (try dsimp only); omega, by (try dsimp only); omega, by (try dsimp only); omega, by (try dsimp only); omega, by (try dsimp only); omega, by (try dsimp only); omega, by (try dsimp only); omega, by (try dsimp only); omega, by (try dsimp only); omega, by (try dsimp only); omega, k3971, k3972, k3974, k3975, k3976⟩, k3977⟩
            · have := li_4
              have hq3830 := i_nle hq3830
              refine wb e3400 ?_
              have := li_1
              have := i_sub (a := fr) (b := 1) (by omega) (by omega)
              obtain ⟨c25, ec25, Wc25, fc25, gc25⟩ := pf_64_69 Wq10 t_a0 (x := (fr - 1)) (rgi (by omega) (by omega))
              refine wb ec25 ?_
              have e3991 := (Zfr.gi fc25 t_a0 (by decide)).trans e3397
              have e3992 := (Zfr.gi fc25 t_a0 (by decide)).trans e3398
              have e3993 := (Zfr.gi fc25 t_a0 (by decide)).trans e3399
              have e3994 := (Zfr.gr fc25 t_a0 (by decide)).trans e3401
              have e3995 := (Zfr.ai fc25 tqw_1 (by decide)).trans e3402
              have e3996 := (Zfr.gr fc25 t_a0 (by decide)).trans e3403
              have e3997 := (Zfr.gr fc25 t_a0 (by decide)).trans e3404
              have e3998 := (Zfr.gr fc25 t_a0 (by decide)).trans e3405
              have e3999 := (Zfr.ai fc25 tks0 (by decide)).trans e3406
              have e4000 := (Zfr.ai fc25 tkl0 (by decide)).trans e3407
              have e4001 := (Zfr.ai fc25 tkw0 (by decide)).trans e3408
              have e4002 := (Zfr.gi fc25 t_a0 (by decide)).trans e3409
              have e4003 := (Zfr.gr fc25 t_a0 (by decide)).trans e3410
              have e4004 := (Zfr.gr fc25 t_a0 (by decide)).trans e3411
              have e4005 := (Zfr.ai fc25 tw_2 (by decide)).trans e3412
              have e4006 := (Zfr.ai fc25 tw_3 (by decide)).trans e3413
              have e4007 := (Zfr.gi fc25 t_a0 (by decide)).trans h0ZScq10
              have e4008 := (Zfr.gr fc25 t_a0 (by decide)).trans h0Zkdq10
              have e4009 := (Zfr.ai fc25 tkkq10 (by decide)).trans h1Zkdq10
              have k4010 := GtP_fr k3414 fc25 t_a0 Wq10 (by decide)
              have sc4012 := Sc_fr fc25 t_a0 (by decide) (by decide) (by decide)
              have k4011 := WyN_fr k3415 fc25 t_a0 Wq10 (by decide) sc4012
              have k4013 := TbI_fr k3417 fc25 t_a0 Wq10 (by decide) sc4012
              have k4014 := TbC_fr k3418 fc25 t_a0 Wq10 (by decide) sc4012
              have k4015 := TkN_fr k3419 fc25 t_a0 Wq10 (by decide)
              have k4016 := PB_s0 k3420 fc25 t_a0 Wq10 (by decide) sc4012
              have k4017 := TpK_fr k3421 fc25 t_a0 Wq10 (by decide)
              have F4018 := Zfr.tr F3422 fc25 (by decide)
              exact ⟨_, rfl, Wc25, F4018, ⟨bf2q10, tv, dv, bks0, bkl0, bkw0, bna0, blb0, bnw0, bvn0, e3991, e4007, e3992, e3993, e3996, e3997, e3998, e3999, e4000, e4001, e4002, tks0, tkl0, tkw0, by (try dsimp only); omega, by (try dsimp only); omega, by (try dsimp only); omega, by (try dsimp only); omega, by (try dsimp only); omega, by (try dsimp only); omega, by (try dsimp only); omega, by (try dsimp only); omega, by (try dsimp only); omega, by (try dsimp only); omega, by (try dsimp only); omega, by (try dsimp only); omega, by (try dsimp only); omega, by (try dsimp only); omega, by (try dsimp only); omega, by (try dsimp only); omega, by (try dsimp only); omega, by (try dsimp only); omega, by (try dsimp only); omega, by (try dsimp only); omega, k4010, k4011, k4013, k4014, k4015⟩, PI_pop k4016 (by omega) (by omega) (by omega) (by omega) gc25 (by omega) (by omega)⟩
          · have := li_43
            have := i_ge q10.1
            have := i_up q10.1
            have hq3829 := i_ne hq3829
            refine wi (fun hq4032 => ?_) (fun hq4032 => ?_)
            · have := li_45
              have hq4032 := i_eq hq4032
              unfold f_Mo_reckoned_112
              refine wi (fun hq4033 => ?_) (fun hq4033 => ?_)
              · have := li_5
                have hq4033 := i_le hq4033
                obtain ⟨w16, ew16⟩ := go_64 Wq10 t_a0
                refine wb ew16 ?_
                obtain ⟨q15, eq15, Wq15, fq15, pbZSq15⟩ := p_Mo_pass hn Wq10  t_a0 (by omega) (by omega) (by omega) (by omega) h0ZScq10 e3398
                refine wb eq15 ?_
                have e4036 := (Zfr.gi fq15 t_a0 (by decide)).trans e3397
                have e4037 := (Zfr.gi fq15 t_a0 (by decide)).trans e3399
                have e4038 := (Zfr.gi fq15 t_a0 (by decide)).trans e3400
                have e4039 := (Zfr.gr fq15 t_a0 (by decide)).trans e3401
                have e4040 := (Zfr.ai fq15 tqw_1 (by decide)).trans e3402
                have e4041 := (Zfr.gr fq15 t_a0 (by decide)).trans e3403
                have e4042 := (Zfr.gr fq15 t_a0 (by decide)).trans e3404
                have e4043 := (Zfr.gr fq15 t_a0 (by decide)).trans e3405
                have e4044 := (Zfr.ai fq15 tks0 (by decide)).trans e3406
                have e4045 := (Zfr.ai fq15 tkl0 (by decide)).trans e3407
                have e4046 := (Zfr.ai fq15 tkw0 (by decide)).trans e3408
                have e4047 := (Zfr.gi fq15 t_a0 (by decide)).trans e3409
                have e4048 := (Zfr.gr fq15 t_a0 (by decide)).trans e3410
                have e4049 := (Zfr.gr fq15 t_a0 (by decide)).trans e3411
                have e4050 := (Zfr.ai fq15 tw_2 (by decide)).trans e3412
                have e4051 := (Zfr.ai fq15 tw_3 (by decide)).trans e3413
                have e4052 := (Zfr.gr fq15 t_a0 (by decide)).trans h0Zkdq10
                have e4053 := (Zfr.ai fq15 tkkq10 (by decide)).trans h1Zkdq10
                have k4054 := GtP_fr k3414 fq15 t_a0 Wq10 (by decide)
                have := li_1
                have sc4056 : Sc q10.2 q15 a0 (1) (0) := by
                  obtain ⟨yf2, yt2, z0y, z1y, x0y, x1y, x2y, x3y, x4y, x5y⟩ := pbZSq15
                  exact Sc_mk h0ZScq10 z0y e3398 z1y e3399 ((Zfr.gi (ci := 12) fq15 t_a0 (by decide)).trans e3399) (by omega)
                have k4055 := WyN_fr k3415 fq15 t_a0 Wq10 (by decide) sc4056
                have k4057 := TbI_fr k3417 fq15 t_a0 Wq10 (by decide) sc4056
                have k4058 := TbC_fr k3418 fq15 t_a0 Wq10 (by decide) sc4056
                have k4059 := TkN_fr k3419 fq15 t_a0 Wq10 (by decide)
                have k4060 := PB_sc k3420 fq15 t_a0 Wq10 (by decide) sc4056 (by omega)
                have k4061 := TpK_fr k3421 fq15 t_a0 Wq10 (by decide)
                have F4062 := Zfr.tr F3422 fq15 (by decide)
                obtain ⟨bf2q15, bt2q15, h0ZSq15, h1ZSq15, r0ZSq15, r1ZSq15, r2ZSq15, r3ZSq15, r4ZSq15, r5ZSq15⟩ := pbZSq15
                refine wb e4049 ?_
                obtain ⟨c18, ec18, Wc18, fc18, gc18⟩ := pa_116 Wq15 tw_3 (i := a1) (by omega) (by omega) (x := 5) (trivial)
                refine wb ec18 ?_
                have e4063 := (Zfr.gi fc18 t_a0 (by decide)).trans e4036
                have e4064 := (Zfr.gi fc18 t_a0 (by decide)).trans e4037
                have e4065 := (Zfr.gi fc18 t_a0 (by decide)).trans e4038
                have e4066 := (Zfr.gr fc18 t_a0 (by decide)).trans e4039
                have e4067 := (Zfr.ai fc18 tqw_1 (by decide)).trans e4040
                have e4068 := (Zfr.gr fc18 t_a0 (by decide)).trans e4041
                have e4069 := (Zfr.gr fc18 t_a0 (by decide)).trans e4042
                have e4070 := (Zfr.gr fc18 t_a0 (by decide)).trans e4043
                have e4071 := (Zfr.ai fc18 tks0 (by decide)).trans e4044
                have e4072 := (Zfr.ai fc18 tkl0 (by decide)).trans e4045
                have e4073 := (Zfr.ai fc18 tkw0 (by decide)).trans e4046
                have e4074 := (Zfr.gi fc18 t_a0 (by decide)).trans e4047
                have e4075 := (Zfr.gr fc18 t_a0 (by decide)).trans e4048
                have e4076 := (Zfr.gr fc18 t_a0 (by decide)).trans e4049
                have e4077 := (Zfr.ai fc18 tw_2 (by decide)).trans e4050
                have e4078 := (Zfr.gr fc18 t_a0 (by decide)).trans e4052
                have e4079 := (Zfr.ai fc18 tkkq10 (by decide)).trans e4053
                have e4080 := (Zfr.gi fc18 t_a0 (by decide)).trans h0ZSq15
                have e4081 := (Zfr.gi fc18 t_a0 (by decide)).trans h1ZSq15
                have k4082 := GtP_fr k4054 fc18 t_a0 Wq15 (by decide)
                have sc4084 := Sc_fr fc18 t_a0 (by decide) (by decide) (by decide)
                have k4083 := WyN_fr k4055 fc18 t_a0 Wq15 (by decide) sc4084
                have k4085 := TbI_fr k4057 fc18 t_a0 Wq15 (by decide) sc4084
                have k4086 := TbC_fr k4058 fc18 t_a0 Wq15 (by decide) sc4084
                have k4087 := TkN_fr k4059 fc18 t_a0 Wq15 (by decide)
                have k4088 := PB_w68 k4060 Wq15 t_a0 fc18 e4049 ec18 rfl
                have k4089 := TpK_w68 k4061 Wq15 t_a0 fc18 e4049 ec18 rfl
                have F4090 := Zfr.tr F4062 fc18 (by decide)
                refine wb e4075 ?_
                obtain ⟨c20, ec20, Wc20, fc20, gc20⟩ := pa_115 Wc18 tw_2 (i := a1) (by omega) (by omega) (x := 2) (trivial)
                refine wb ec20 ?_
                have e4091 := (Zfr.gi fc20 t_a0 (by decide)).trans e4063
                have e4092 := (Zfr.gi fc20 t_a0 (by decide)).trans e4064
                have e4093 := (Zfr.gi fc20 t_a0 (by decide)).trans e4065
                have e4094 := (Zfr.gr fc20 t_a0 (by decide)).trans e4066
                have e4095 := (Zfr.ai fc20 tqw_1 (by decide)).trans e4067
                have e4096 := (Zfr.gr fc20 t_a0 (by decide)).trans e4068
                have e4097 := (Zfr.gr fc20 t_a0 (by decide)).trans e4069
                have e4098 := (Zfr.gr fc20 t_a0 (by decide)).trans e4070
                have e4099 := (Zfr.ai fc20 tks0 (by decide)).trans e4071
                have e4100 := (Zfr.ai fc20 tkl0 (by decide)).trans e4072
                have e4101 := (Zfr.ai fc20 tkw0 (by decide)).trans e4073
                have e4102 := (Zfr.gi fc20 t_a0 (by decide)).trans e4074
                have e4103 := (Zfr.gr fc20 t_a0 (by decide)).trans e4075
                have e4104 := (Zfr.gr fc20 t_a0 (by decide)).trans e4076
                have e4105 := (Zfr.gr fc20 t_a0 (by decide)).trans e4078
                have e4106 := (Zfr.ai fc20 tkkq10 (by decide)).trans e4079
                have e4107 := (Zfr.gi fc20 t_a0 (by decide)).trans e4080
                have e4108 := (Zfr.gi fc20 t_a0 (by decide)).trans e4081
                have e4109 := (Zfr.ai fc20 tw_3 (by decide)).trans gc18
                have k4110 := GtP_fr k4082 fc20 t_a0 Wc18 (by decide)
                have sc4112 := Sc_fr fc20 t_a0 (by decide) (by decide) (by decide)
                have k4111 := WyN_fr k4083 fc20 t_a0 Wc18 (by decide) sc4112
                have k4113 := TbI_fr k4085 fc20 t_a0 Wc18 (by decide) sc4112
                have k4114 := TbC_fr k4086 fc20 t_a0 Wc18 (by decide) sc4112
                have k4115 := TkN_fr k4087 fc20 t_a0 Wc18 (by decide)
                have k4116 := PB_w67 k4088 Wc18 t_a0 fc20 e4075 ec20 rfl
                have k4117 := TpK_w67 k4089 Wc18 t_a0 fc20 e4075 ec20 rfl
                have F4118 := Zfr.tr F4090 fc20 (by decide)
                refine wi (fun hq4119 => ?_) (fun hq4119 => ?_)
                · have hq4119 := i_eq hq4119
                  unfold f_Mo_reckoned_159
                  obtain ⟨w23, ew23⟩ := go_64 Wc20 t_a0
                  refine wb ew23 ?_
                  obtain ⟨q22, eq22, Wq22, fq22, po0q22⟩ := p_Mo_frame hn Wc20 (a1 := 5) t_a0 (by omega) (by omega) e4093
                  refine wb eq22 ?_
                  have e4121 := (Zfr.gi fq22 t_a0 (by decide)).trans e4091
                  have e4122 := (Zfr.gi fq22 t_a0 (by decide)).trans e4092
                  have e4123 := (Zfr.gr fq22 t_a0 (by decide)).trans e4094
                  have e4124 := (Zfr.gr fq22 t_a0 (by decide)).trans e4096
                  have e4125 := (Zfr.gr fq22 t_a0 (by decide)).trans e4097
                  have e4126 := (Zfr.gr fq22 t_a0 (by decide)).trans e4098
                  have e4127 := (Zfr.ai fq22 tks0 (by decide)).trans e4099
                  have e4128 := (Zfr.ai fq22 tkl0 (by decide)).trans e4100
                  have e4129 := (Zfr.ai fq22 tkw0 (by decide)).trans e4101
                  have e4130 := (Zfr.gi fq22 t_a0 (by decide)).trans e4102
                  have e4131 := (Zfr.gr fq22 t_a0 (by decide)).trans e4103
                  have e4132 := (Zfr.gr fq22 t_a0 (by decide)).trans e4104
                  have e4133 := (Zfr.gr fq22 t_a0 (by decide)).trans e4105
                  have e4134 := (Zfr.ai fq22 tkkq10 (by decide)).trans e4106
                  have e4135 := (Zfr.gi fq22 t_a0 (by decide)).trans e4107
                  have e4136 := (Zfr.gi fq22 t_a0 (by decide)).trans e4108
                  have k4137 := GtP_fr k4110 fq22 t_a0 Wc20 (by decide)
                  have sc4139 := Sc_fr fq22 t_a0 (by decide) (by decide) (by decide)
                  have k4138 := WyN_fr k4111 fq22 t_a0 Wc20 (by decide) sc4139
                  have k4140 := TbI_fr k4113 fq22 t_a0 Wc20 (by decide) sc4139
                  have k4141 := TbC_fr k4114 fq22 t_a0 Wc20 (by decide) sc4139
                  have k4142 := TkN_fr k4115 fq22 t_a0 Wc20 (by decide)
                  have k4143 := PI_push k4116 k4117 (psJ (by omega) (by omega) (by omega) (by omega) (by omega)) (by omega) (by omega) (fun y_ => two_i (by omega)) e4107 e4108 (by omega) fq22 t_a0 Wc20 po0q22 e4093 (by omega)
                  have F4145 := Zfr.tr F4118 fq22 (by decide)
                  exact ⟨_, rfl, Wq22, F4145, ⟨bf2q15, bt2q15, dv, bks0, bkl0, bkw0, bna0, blb0, bnw0, bvn0, e4121, e4135, e4136, e4122, e4124, e4125, e4126, e4127, e4128, e4129, e4130, tks0, tkl0, tkw0, by (try dsimp only); omega, by (try dsimp only); omega, by (try dsimp only); omega, by (try dsimp only); omega, by (try dsimp only); omega, by (try dsimp only); omega, by (try dsimp only); omega, by (try dsimp only); omega, by (try dsimp only); omega, by (try dsimp only); omega, by (try dsimp only); omega, by (try dsimp only); omega, by (try dsimp only); omega, by (try dsimp only); omega, by (try dsimp only); omega, by (try dsimp only); omega, by (try dsimp only); omega, by (try dsimp only); omega, by (try dsimp only); omega, by (try dsimp only); omega, k4137, k4138, k4140, k4141, k4142⟩, k4143⟩
                · have hq4119 := i_ne hq4119
                  unfold f_Mo_reckoned_159
                  obtain ⟨w23, ew23⟩ := go_64 Wc20 t_a0
                  refine wb ew23 ?_
                  have := li_4
                  obtain ⟨q22, eq22, Wq22, fq22, po0q22⟩ := p_Mo_frame hn Wc20 (a1 := 4) t_a0 (by omega) (by omega) e4093
                  refine wb eq22 ?_
                  have e4158 := (Zfr.gi fq22 t_a0 (by decide)).trans e4091
                  have e4159 := (Zfr.gi fq22 t_a0 (by decide)).trans e4092
                  have e4160 := (Zfr.gr fq22 t_a0 (by decide)).trans e4094
                  have e4161 := (Zfr.gr fq22 t_a0 (by decide)).trans e4096
                  have e4162 := (Zfr.gr fq22 t_a0 (by decide)).trans e4097
                  have e4163 := (Zfr.gr fq22 t_a0 (by decide)).trans e4098
                  have e4164 := (Zfr.ai fq22 tks0 (by decide)).trans e4099
                  have e4165 := (Zfr.ai fq22 tkl0 (by decide)).trans e4100
                  have e4166 := (Zfr.ai fq22 tkw0 (by decide)).trans e4101
                  have e4167 := (Zfr.gi fq22 t_a0 (by decide)).trans e4102
                  have e4168 := (Zfr.gr fq22 t_a0 (by decide)).trans e4103
                  have e4169 := (Zfr.gr fq22 t_a0 (by decide)).trans e4104
                  have e4170 := (Zfr.gr fq22 t_a0 (by decide)).trans e4105
                  have e4171 := (Zfr.ai fq22 tkkq10 (by decide)).trans e4106
                  have e4172 := (Zfr.gi fq22 t_a0 (by decide)).trans e4107
                  have e4173 := (Zfr.gi fq22 t_a0 (by decide)).trans e4108
                  have k4174 := GtP_fr k4110 fq22 t_a0 Wc20 (by decide)
                  have sc4176 := Sc_fr fq22 t_a0 (by decide) (by decide) (by decide)
                  have k4175 := WyN_fr k4111 fq22 t_a0 Wc20 (by decide) sc4176
                  have k4177 := TbI_fr k4113 fq22 t_a0 Wc20 (by decide) sc4176
                  have k4178 := TbC_fr k4114 fq22 t_a0 Wc20 (by decide) sc4176
                  have k4179 := TkN_fr k4115 fq22 t_a0 Wc20 (by decide)
                  have k4180 := PI_push k4116 k4117 (psJ (by omega) (by omega) (by omega) (by omega) (by omega)) (by omega) (by omega) (fun y_ => two_i (by omega)) e4107 e4108 (by omega) fq22 t_a0 Wc20 po0q22 e4093 (by omega)
                  have F4182 := Zfr.tr F4118 fq22 (by decide)
                  exact ⟨_, rfl, Wq22, F4182, ⟨bf2q15, bt2q15, dv, bks0, bkl0, bkw0, bna0, blb0, bnw0, bvn0, e4158, e4172, e4173, e4159, e4161, e4162, e4163, e4164, e4165, e4166, e4167, tks0, tkl0, tkw0, by (try dsimp only); omega, by (try dsimp only); omega, by (try dsimp only); omega, by (try dsimp only); omega, by (try dsimp only); omega, by (try dsimp only); omega, by (try dsimp only); omega, by (try dsimp only); omega, by (try dsimp only); omega, by (try dsimp only); omega, by (try dsimp only); omega, by (try dsimp only); omega, by (try dsimp only); omega, by (try dsimp only); omega, by (try dsimp only); omega, by (try dsimp only); omega, by (try dsimp only); omega, by (try dsimp only); omega, by (try dsimp only); omega, by (try dsimp only); omega, k4174, k4175, k4177, k4178, k4179⟩, k4180⟩
              · have := li_5
                have hq4033 := i_nle hq4033
                refine wb e3400 ?_
                have := li_1
                have := i_sub (a := fr) (b := 1) (by omega) (by omega)
                obtain ⟨c25, ec25, Wc25, fc25, gc25⟩ := pf_64_69 Wq10 t_a0 (x := (fr - 1)) (rgi (by omega) (by omega))
                refine wb ec25 ?_
                have e4194 := (Zfr.gi fc25 t_a0 (by decide)).trans e3397
                have e4195 := (Zfr.gi fc25 t_a0 (by decide)).trans e3398
                have e4196 := (Zfr.gi fc25 t_a0 (by decide)).trans e3399
                have e4197 := (Zfr.gr fc25 t_a0 (by decide)).trans e3401
                have e4198 := (Zfr.ai fc25 tqw_1 (by decide)).trans e3402
                have e4199 := (Zfr.gr fc25 t_a0 (by decide)).trans e3403
                have e4200 := (Zfr.gr fc25 t_a0 (by decide)).trans e3404
                have e4201 := (Zfr.gr fc25 t_a0 (by decide)).trans e3405
                have e4202 := (Zfr.ai fc25 tks0 (by decide)).trans e3406
                have e4203 := (Zfr.ai fc25 tkl0 (by decide)).trans e3407
                have e4204 := (Zfr.ai fc25 tkw0 (by decide)).trans e3408
                have e4205 := (Zfr.gi fc25 t_a0 (by decide)).trans e3409
                have e4206 := (Zfr.gr fc25 t_a0 (by decide)).trans e3410
                have e4207 := (Zfr.gr fc25 t_a0 (by decide)).trans e3411
                have e4208 := (Zfr.ai fc25 tw_2 (by decide)).trans e3412
                have e4209 := (Zfr.ai fc25 tw_3 (by decide)).trans e3413
                have e4210 := (Zfr.gi fc25 t_a0 (by decide)).trans h0ZScq10
                have e4211 := (Zfr.gr fc25 t_a0 (by decide)).trans h0Zkdq10
                have e4212 := (Zfr.ai fc25 tkkq10 (by decide)).trans h1Zkdq10
                have k4213 := GtP_fr k3414 fc25 t_a0 Wq10 (by decide)
                have sc4215 := Sc_fr fc25 t_a0 (by decide) (by decide) (by decide)
                have k4214 := WyN_fr k3415 fc25 t_a0 Wq10 (by decide) sc4215
                have k4216 := TbI_fr k3417 fc25 t_a0 Wq10 (by decide) sc4215
                have k4217 := TbC_fr k3418 fc25 t_a0 Wq10 (by decide) sc4215
                have k4218 := TkN_fr k3419 fc25 t_a0 Wq10 (by decide)
                have k4219 := PB_s0 k3420 fc25 t_a0 Wq10 (by decide) sc4215
                have k4220 := TpK_fr k3421 fc25 t_a0 Wq10 (by decide)
                have F4221 := Zfr.tr F3422 fc25 (by decide)
                exact ⟨_, rfl, Wc25, F4221, ⟨bf2q10, tv, dv, bks0, bkl0, bkw0, bna0, blb0, bnw0, bvn0, e4194, e4210, e4195, e4196, e4199, e4200, e4201, e4202, e4203, e4204, e4205, tks0, tkl0, tkw0, by (try dsimp only); omega, by (try dsimp only); omega, by (try dsimp only); omega, by (try dsimp only); omega, by (try dsimp only); omega, by (try dsimp only); omega, by (try dsimp only); omega, by (try dsimp only); omega, by (try dsimp only); omega, by (try dsimp only); omega, by (try dsimp only); omega, by (try dsimp only); omega, by (try dsimp only); omega, by (try dsimp only); omega, by (try dsimp only); omega, by (try dsimp only); omega, by (try dsimp only); omega, by (try dsimp only); omega, by (try dsimp only); omega, by (try dsimp only); omega, k4213, k4214, k4216, k4217, k4218⟩, PI_pop k4219 (by omega) (by omega) (by omega) (by omega) gc25 (by omega) (by omega)⟩
            · have := li_45
              have hq4032 := i_ne hq4032
              unfold f_Mo_reckoned_112
              refine wi (fun hq4235 => ?_) (fun hq4235 => ?_)
              · have := li_m1
                have hq4235 := i_le hq4235
                obtain ⟨w16, ew16⟩ := go_64 Wq10 t_a0
                refine wb ew16 ?_
                obtain ⟨q15, eq15, Wq15, fq15, pbZSq15⟩ := p_Mo_pass hn Wq10  t_a0 (by omega) (by omega) (by omega) (by omega) h0ZScq10 e3398
                refine wb eq15 ?_
                have e4238 := (Zfr.gi fq15 t_a0 (by decide)).trans e3397
                have e4239 := (Zfr.gi fq15 t_a0 (by decide)).trans e3399
                have e4240 := (Zfr.gi fq15 t_a0 (by decide)).trans e3400
                have e4241 := (Zfr.gr fq15 t_a0 (by decide)).trans e3401
                have e4242 := (Zfr.ai fq15 tqw_1 (by decide)).trans e3402
                have e4243 := (Zfr.gr fq15 t_a0 (by decide)).trans e3403
                have e4244 := (Zfr.gr fq15 t_a0 (by decide)).trans e3404
                have e4245 := (Zfr.gr fq15 t_a0 (by decide)).trans e3405
                have e4246 := (Zfr.ai fq15 tks0 (by decide)).trans e3406
                have e4247 := (Zfr.ai fq15 tkl0 (by decide)).trans e3407
                have e4248 := (Zfr.ai fq15 tkw0 (by decide)).trans e3408
                have e4249 := (Zfr.gi fq15 t_a0 (by decide)).trans e3409
                have e4250 := (Zfr.gr fq15 t_a0 (by decide)).trans e3410
                have e4251 := (Zfr.gr fq15 t_a0 (by decide)).trans e3411
                have e4252 := (Zfr.ai fq15 tw_2 (by decide)).trans e3412
                have e4253 := (Zfr.ai fq15 tw_3 (by decide)).trans e3413
                have e4254 := (Zfr.gr fq15 t_a0 (by decide)).trans h0Zkdq10
                have e4255 := (Zfr.ai fq15 tkkq10 (by decide)).trans h1Zkdq10
                have k4256 := GtP_fr k3414 fq15 t_a0 Wq10 (by decide)
                have := li_1
                have sc4258 : Sc q10.2 q15 a0 (1) (0) := by
                  obtain ⟨yf2, yt2, z0y, z1y, x0y, x1y, x2y, x3y, x4y, x5y⟩ := pbZSq15
                  exact Sc_mk h0ZScq10 z0y e3398 z1y e3399 ((Zfr.gi (ci := 12) fq15 t_a0 (by decide)).trans e3399) (by omega)
                have k4257 := WyN_fr k3415 fq15 t_a0 Wq10 (by decide) sc4258
                have k4259 := TbI_fr k3417 fq15 t_a0 Wq10 (by decide) sc4258
                have k4260 := TbC_fr k3418 fq15 t_a0 Wq10 (by decide) sc4258
                have k4261 := TkN_fr k3419 fq15 t_a0 Wq10 (by decide)
                have k4262 := PB_sc k3420 fq15 t_a0 Wq10 (by decide) sc4258 (by omega)
                have k4263 := TpK_fr k3421 fq15 t_a0 Wq10 (by decide)
                have F4264 := Zfr.tr F3422 fq15 (by decide)
                obtain ⟨bf2q15, bt2q15, h0ZSq15, h1ZSq15, r0ZSq15, r1ZSq15, r2ZSq15, r3ZSq15, r4ZSq15, r5ZSq15⟩ := pbZSq15
                refine wb e4251 ?_
                obtain ⟨c18, ec18, Wc18, fc18, gc18⟩ := pa_116 Wq15 tw_3 (i := a1) (by omega) (by omega) (x := (-1)) (trivial)
                refine wb ec18 ?_
                have e4265 := (Zfr.gi fc18 t_a0 (by decide)).trans e4238
                have e4266 := (Zfr.gi fc18 t_a0 (by decide)).trans e4239
                have e4267 := (Zfr.gi fc18 t_a0 (by decide)).trans e4240
                have e4268 := (Zfr.gr fc18 t_a0 (by decide)).trans e4241
                have e4269 := (Zfr.ai fc18 tqw_1 (by decide)).trans e4242
                have e4270 := (Zfr.gr fc18 t_a0 (by decide)).trans e4243
                have e4271 := (Zfr.gr fc18 t_a0 (by decide)).trans e4244
                have e4272 := (Zfr.gr fc18 t_a0 (by decide)).trans e4245
                have e4273 := (Zfr.ai fc18 tks0 (by decide)).trans e4246
                have e4274 := (Zfr.ai fc18 tkl0 (by decide)).trans e4247
                have e4275 := (Zfr.ai fc18 tkw0 (by decide)).trans e4248
                have e4276 := (Zfr.gi fc18 t_a0 (by decide)).trans e4249
                have e4277 := (Zfr.gr fc18 t_a0 (by decide)).trans e4250
                have e4278 := (Zfr.gr fc18 t_a0 (by decide)).trans e4251
                have e4279 := (Zfr.ai fc18 tw_2 (by decide)).trans e4252
                have e4280 := (Zfr.gr fc18 t_a0 (by decide)).trans e4254
                have e4281 := (Zfr.ai fc18 tkkq10 (by decide)).trans e4255
                have e4282 := (Zfr.gi fc18 t_a0 (by decide)).trans h0ZSq15
                have e4283 := (Zfr.gi fc18 t_a0 (by decide)).trans h1ZSq15
                have k4284 := GtP_fr k4256 fc18 t_a0 Wq15 (by decide)
                have sc4286 := Sc_fr fc18 t_a0 (by decide) (by decide) (by decide)
                have k4285 := WyN_fr k4257 fc18 t_a0 Wq15 (by decide) sc4286
                have k4287 := TbI_fr k4259 fc18 t_a0 Wq15 (by decide) sc4286
                have k4288 := TbC_fr k4260 fc18 t_a0 Wq15 (by decide) sc4286
                have k4289 := TkN_fr k4261 fc18 t_a0 Wq15 (by decide)
                have k4290 := PB_w68 k4262 Wq15 t_a0 fc18 e4251 ec18 rfl
                have k4291 := TpK_w68 k4263 Wq15 t_a0 fc18 e4251 ec18 rfl
                have F4292 := Zfr.tr F4264 fc18 (by decide)
                refine wb e4277 ?_
                obtain ⟨c20, ec20, Wc20, fc20, gc20⟩ := pa_115 Wc18 tw_2 (i := a1) (by omega) (by omega) (x := 2) (trivial)
                refine wb ec20 ?_
                have e4293 := (Zfr.gi fc20 t_a0 (by decide)).trans e4265
                have e4294 := (Zfr.gi fc20 t_a0 (by decide)).trans e4266
                have e4295 := (Zfr.gi fc20 t_a0 (by decide)).trans e4267
                have e4296 := (Zfr.gr fc20 t_a0 (by decide)).trans e4268
                have e4297 := (Zfr.ai fc20 tqw_1 (by decide)).trans e4269
                have e4298 := (Zfr.gr fc20 t_a0 (by decide)).trans e4270
                have e4299 := (Zfr.gr fc20 t_a0 (by decide)).trans e4271
                have e4300 := (Zfr.gr fc20 t_a0 (by decide)).trans e4272
                have e4301 := (Zfr.ai fc20 tks0 (by decide)).trans e4273
                have e4302 := (Zfr.ai fc20 tkl0 (by decide)).trans e4274
                have e4303 := (Zfr.ai fc20 tkw0 (by decide)).trans e4275
                have e4304 := (Zfr.gi fc20 t_a0 (by decide)).trans e4276
                have e4305 := (Zfr.gr fc20 t_a0 (by decide)).trans e4277
                have e4306 := (Zfr.gr fc20 t_a0 (by decide)).trans e4278
                have e4307 := (Zfr.gr fc20 t_a0 (by decide)).trans e4280
                have e4308 := (Zfr.ai fc20 tkkq10 (by decide)).trans e4281
                have e4309 := (Zfr.gi fc20 t_a0 (by decide)).trans e4282
                have e4310 := (Zfr.gi fc20 t_a0 (by decide)).trans e4283
                have e4311 := (Zfr.ai fc20 tw_3 (by decide)).trans gc18
                have k4312 := GtP_fr k4284 fc20 t_a0 Wc18 (by decide)
                have sc4314 := Sc_fr fc20 t_a0 (by decide) (by decide) (by decide)
                have k4313 := WyN_fr k4285 fc20 t_a0 Wc18 (by decide) sc4314
                have k4315 := TbI_fr k4287 fc20 t_a0 Wc18 (by decide) sc4314
                have k4316 := TbC_fr k4288 fc20 t_a0 Wc18 (by decide) sc4314
                have k4317 := TkN_fr k4289 fc20 t_a0 Wc18 (by decide)
                have k4318 := PB_w67 k4290 Wc18 t_a0 fc20 e4277 ec20 rfl
                have k4319 := TpK_w67 k4291 Wc18 t_a0 fc20 e4277 ec20 rfl
                have F4320 := Zfr.tr F4292 fc20 (by decide)
                refine wi (fun hq4321 => ?_) (fun hq4321 => ?_)
                · have hq4321 := i_eq hq4321
                  unfold f_Mo_reckoned_159
                  obtain ⟨w23, ew23⟩ := go_64 Wc20 t_a0
                  refine wb ew23 ?_
                  have := li_5
                  obtain ⟨q22, eq22, Wq22, fq22, po0q22⟩ := p_Mo_frame hn Wc20 (a1 := 5) t_a0 (by omega) (by omega) e4295
                  refine wb eq22 ?_
                  have e4323 := (Zfr.gi fq22 t_a0 (by decide)).trans e4293
                  have e4324 := (Zfr.gi fq22 t_a0 (by decide)).trans e4294
                  have e4325 := (Zfr.gr fq22 t_a0 (by decide)).trans e4296
                  have e4326 := (Zfr.gr fq22 t_a0 (by decide)).trans e4298
                  have e4327 := (Zfr.gr fq22 t_a0 (by decide)).trans e4299
                  have e4328 := (Zfr.gr fq22 t_a0 (by decide)).trans e4300
                  have e4329 := (Zfr.ai fq22 tks0 (by decide)).trans e4301
                  have e4330 := (Zfr.ai fq22 tkl0 (by decide)).trans e4302
                  have e4331 := (Zfr.ai fq22 tkw0 (by decide)).trans e4303
                  have e4332 := (Zfr.gi fq22 t_a0 (by decide)).trans e4304
                  have e4333 := (Zfr.gr fq22 t_a0 (by decide)).trans e4305
                  have e4334 := (Zfr.gr fq22 t_a0 (by decide)).trans e4306
                  have e4335 := (Zfr.gr fq22 t_a0 (by decide)).trans e4307
                  have e4336 := (Zfr.ai fq22 tkkq10 (by decide)).trans e4308
                  have e4337 := (Zfr.gi fq22 t_a0 (by decide)).trans e4309
                  have e4338 := (Zfr.gi fq22 t_a0 (by decide)).trans e4310
                  have k4339 := GtP_fr k4312 fq22 t_a0 Wc20 (by decide)
                  have sc4341 := Sc_fr fq22 t_a0 (by decide) (by decide) (by decide)
                  have k4340 := WyN_fr k4313 fq22 t_a0 Wc20 (by decide) sc4341
                  have k4342 := TbI_fr k4315 fq22 t_a0 Wc20 (by decide) sc4341
                  have k4343 := TbC_fr k4316 fq22 t_a0 Wc20 (by decide) sc4341
                  have k4344 := TkN_fr k4317 fq22 t_a0 Wc20 (by decide)
                  have k4345 := PI_push k4318 k4319 (psJ (by omega) (by omega) (by omega) (by omega) (by omega)) (by omega) (by omega) (fun y_ => two_i (by omega)) e4309 e4310 (by omega) fq22 t_a0 Wc20 po0q22 e4295 (by omega)
                  have F4347 := Zfr.tr F4320 fq22 (by decide)
                  exact ⟨_, rfl, Wq22, F4347, ⟨bf2q15, bt2q15, dv, bks0, bkl0, bkw0, bna0, blb0, bnw0, bvn0, e4323, e4337, e4338, e4324, e4326, e4327, e4328, e4329, e4330, e4331, e4332, tks0, tkl0, tkw0, by (try dsimp only); omega, by (try dsimp only); omega, by (try dsimp only); omega, by (try dsimp only); omega, by (try dsimp only); omega, by (try dsimp only); omega, by (try dsimp only); omega, by (try dsimp only); omega, by (try dsimp only); omega, by (try dsimp only); omega, by (try dsimp only); omega, by (try dsimp only); omega, by (try dsimp only); omega, by (try dsimp only); omega, by (try dsimp only); omega, by (try dsimp only); omega, by (try dsimp only); omega, by (try dsimp only); omega, by (try dsimp only); omega, by (try dsimp only); omega, k4339, k4340, k4342, k4343, k4344⟩, k4345⟩
                · have hq4321 := i_ne hq4321
                  unfold f_Mo_reckoned_159
                  obtain ⟨w23, ew23⟩ := go_64 Wc20 t_a0
                  refine wb ew23 ?_
                  have := li_4
                  obtain ⟨q22, eq22, Wq22, fq22, po0q22⟩ := p_Mo_frame hn Wc20 (a1 := 4) t_a0 (by omega) (by omega) e4295
                  refine wb eq22 ?_
                  have e4360 := (Zfr.gi fq22 t_a0 (by decide)).trans e4293
                  have e4361 := (Zfr.gi fq22 t_a0 (by decide)).trans e4294
                  have e4362 := (Zfr.gr fq22 t_a0 (by decide)).trans e4296
                  have e4363 := (Zfr.gr fq22 t_a0 (by decide)).trans e4298
                  have e4364 := (Zfr.gr fq22 t_a0 (by decide)).trans e4299
                  have e4365 := (Zfr.gr fq22 t_a0 (by decide)).trans e4300
                  have e4366 := (Zfr.ai fq22 tks0 (by decide)).trans e4301
                  have e4367 := (Zfr.ai fq22 tkl0 (by decide)).trans e4302
                  have e4368 := (Zfr.ai fq22 tkw0 (by decide)).trans e4303
                  have e4369 := (Zfr.gi fq22 t_a0 (by decide)).trans e4304
                  have e4370 := (Zfr.gr fq22 t_a0 (by decide)).trans e4305
                  have e4371 := (Zfr.gr fq22 t_a0 (by decide)).trans e4306
                  have e4372 := (Zfr.gr fq22 t_a0 (by decide)).trans e4307
                  have e4373 := (Zfr.ai fq22 tkkq10 (by decide)).trans e4308
                  have e4374 := (Zfr.gi fq22 t_a0 (by decide)).trans e4309
                  have e4375 := (Zfr.gi fq22 t_a0 (by decide)).trans e4310
                  have k4376 := GtP_fr k4312 fq22 t_a0 Wc20 (by decide)
                  have sc4378 := Sc_fr fq22 t_a0 (by decide) (by decide) (by decide)
                  have k4377 := WyN_fr k4313 fq22 t_a0 Wc20 (by decide) sc4378
                  have k4379 := TbI_fr k4315 fq22 t_a0 Wc20 (by decide) sc4378
                  have k4380 := TbC_fr k4316 fq22 t_a0 Wc20 (by decide) sc4378
                  have k4381 := TkN_fr k4317 fq22 t_a0 Wc20 (by decide)
                  have k4382 := PI_push k4318 k4319 (psJ (by omega) (by omega) (by omega) (by omega) (by omega)) (by omega) (by omega) (fun y_ => two_i (by omega)) e4309 e4310 (by omega) fq22 t_a0 Wc20 po0q22 e4295 (by omega)
                  have F4384 := Zfr.tr F4320 fq22 (by decide)
                  exact ⟨_, rfl, Wq22, F4384, ⟨bf2q15, bt2q15, dv, bks0, bkl0, bkw0, bna0, blb0, bnw0, bvn0, e4360, e4374, e4375, e4361, e4363, e4364, e4365, e4366, e4367, e4368, e4369, tks0, tkl0, tkw0, by (try dsimp only); omega, by (try dsimp only); omega, by (try dsimp only); omega, by (try dsimp only); omega, by (try dsimp only); omega, by (try dsimp only); omega, by (try dsimp only); omega, by (try dsimp only); omega, by (try dsimp only); omega, by (try dsimp only); omega, by (try dsimp only); omega, by (try dsimp only); omega, by (try dsimp only); omega, by (try dsimp only); omega, by (try dsimp only); omega, by (try dsimp only); omega, by (try dsimp only); omega, by (try dsimp only); omega, by (try dsimp only); omega, by (try dsimp only); omega, k4376, k4377, k4379, k4380, k4381⟩, k4382⟩
              · have := li_m1
                have hq4235 := i_nle hq4235
                refine wb e3400 ?_
                have := li_1
                have := i_sub (a := fr) (b := 1) (by omega) (by omega)
                obtain ⟨c25, ec25, Wc25, fc25, gc25⟩ := pf_64_69 Wq10 t_a0 (x := (fr - 1)) (rgi (by omega) (by omega))
                refine wb ec25 ?_
                have e4396 := (Zfr.gi fc25 t_a0 (by decide)).trans e3397
                have e4397 := (Zfr.gi fc25 t_a0 (by decide)).trans e3398
                have e4398 := (Zfr.gi fc25 t_a0 (by decide)).trans e3399
                have e4399 := (Zfr.gr fc25 t_a0 (by decide)).trans e3401
                have e4400 := (Zfr.ai fc25 tqw_1 (by decide)).trans e3402
                have e4401 := (Zfr.gr fc25 t_a0 (by decide)).trans e3403
                have e4402 := (Zfr.gr fc25 t_a0 (by decide)).trans e3404
                have e4403 := (Zfr.gr fc25 t_a0 (by decide)).trans e3405
                have e4404 := (Zfr.ai fc25 tks0 (by decide)).trans e3406
                have e4405 := (Zfr.ai fc25 tkl0 (by decide)).trans e3407
                have e4406 := (Zfr.ai fc25 tkw0 (by decide)).trans e3408
                have e4407 := (Zfr.gi fc25 t_a0 (by decide)).trans e3409
                have e4408 := (Zfr.gr fc25 t_a0 (by decide)).trans e3410
                have e4409 := (Zfr.gr fc25 t_a0 (by decide)).trans e3411
                have e4410 := (Zfr.ai fc25 tw_2 (by decide)).trans e3412
                have e4411 := (Zfr.ai fc25 tw_3 (by decide)).trans e3413
                have e4412 := (Zfr.gi fc25 t_a0 (by decide)).trans h0ZScq10
                have e4413 := (Zfr.gr fc25 t_a0 (by decide)).trans h0Zkdq10
                have e4414 := (Zfr.ai fc25 tkkq10 (by decide)).trans h1Zkdq10
                have k4415 := GtP_fr k3414 fc25 t_a0 Wq10 (by decide)
                have sc4417 := Sc_fr fc25 t_a0 (by decide) (by decide) (by decide)
                have k4416 := WyN_fr k3415 fc25 t_a0 Wq10 (by decide) sc4417
                have k4418 := TbI_fr k3417 fc25 t_a0 Wq10 (by decide) sc4417
                have k4419 := TbC_fr k3418 fc25 t_a0 Wq10 (by decide) sc4417
                have k4420 := TkN_fr k3419 fc25 t_a0 Wq10 (by decide)
                have k4421 := PB_s0 k3420 fc25 t_a0 Wq10 (by decide) sc4417
                have k4422 := TpK_fr k3421 fc25 t_a0 Wq10 (by decide)
                have F4423 := Zfr.tr F3422 fc25 (by decide)
                exact ⟨_, rfl, Wc25, F4423, ⟨bf2q10, tv, dv, bks0, bkl0, bkw0, bna0, blb0, bnw0, bvn0, e4396, e4412, e4397, e4398, e4401, e4402, e4403, e4404, e4405, e4406, e4407, tks0, tkl0, tkw0, by (try dsimp only); omega, by (try dsimp only); omega, by (try dsimp only); omega, by (try dsimp only); omega, by (try dsimp only); omega, by (try dsimp only); omega, by (try dsimp only); omega, by (try dsimp only); omega, by (try dsimp only); omega, by (try dsimp only); omega, by (try dsimp only); omega, by (try dsimp only); omega, by (try dsimp only); omega, by (try dsimp only); omega, by (try dsimp only); omega, by (try dsimp only); omega, by (try dsimp only); omega, by (try dsimp only); omega, by (try dsimp only); omega, by (try dsimp only); omega, k4415, k4416, k4418, k4419, k4420⟩, PI_pop k4421 (by omega) (by omega) (by omega) (by omega) gc25 (by omega) (by omega)⟩

end ZzT
