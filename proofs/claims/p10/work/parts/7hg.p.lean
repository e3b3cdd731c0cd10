section ZzT
abbrev M_Mo_unit : List (Nat × Nat) := [(64, 18), (64, 19), (64, 20), (64, 52), (64, 53), (64, 69), (103, 0), (104, 0), (114, 0), (115, 0), (116, 0)]
set_option maxRecDepth 100000 in
set_option maxHeartbeats 4000000 in
theorem p_Mo_unit {nf : Nat} (hn : 8589934592 ≤ nf) {G : List Nat} {c : Zc} (W : Zwt zty G c) {a0 : Nat} {a1 : Int32} {ni : Int32} {bc : Int32} {s0 : Nat} {μ : Int} {pv : Int32} {fv : Int32} {tv : Int32} {dv : Int32} {fr : Int32} {ksr : Nat} {sv : Int32} (t_a0 : G[a0]? = some 64) (pl_pv : 0 ≤ pv.toInt) (pu_pv : pv.toInt ≤ 8) (pl_fv : 0 ≤ fv.toInt) (pu_fv : fv.toInt ≤ 0) (pl_tv : 0 ≤ tv.toInt) (pu_tv : tv.toInt ≤ 200) (pl_dv : 0 ≤ dv.toInt) (pu_dv : dv.toInt ≤ 11) (pl_fr : 1 ≤ fr.toInt) (pu_fr : fr.toInt ≤ 1000) (pl_a1 : 0 ≤ a1.toInt) (pu_a1 : a1.toInt ≤ 999) (pl_sv : 5 ≤ sv.toInt) (pu_sv : sv.toInt ≤ 5) (eh_pv : zgi c a0 12 25 = some pv) (eh_fv : zgi c a0 12 19 = some fv) (eh_tv : zgi c a0 12 18 = some tv) (eh_dv : zgi c a0 12 53 = some dv) (eh_fr : zgi c a0 12 69 = some fr) (eh_ksr : zgr c a0 12 66 = some ksr) (eh_sv : zai c ksr 0 a1 = some sv) (pp_7 : a1.toInt = fr.toInt - 1) (hb_ZV : ZV G c a0 pv fv tv dv ni bc) (hb_Zpi : Zpi G c a0 s0 μ) : ∃ q, f_Mo_unit nf a0 a1 c = some q ∧ Zwt zty G q ∧ Zfr G M_Mo_unit c q ∧ ZVp G q a0 pv fv tv dv ni bc ∧ Zpi G q a0 s0 (μ - 1) := by
  have F0 : Zfr G M_Mo_unit c c := Zfr.rf
  unfold f_Mo_unit
  obtain ⟨xq, xe, tqw_1⟩ := gf_64_66 W t_a0
  rw [eh_ksr] at xe; cases xe
  obtain ⟨bks0, bkl0, bkw0, bna0, blb0, bnw0, bvn0, h0ZV0, h1ZV0, h2ZV0, h3ZV0, h4ZV0, h5ZV0, h6ZV0, h7ZV0, h8ZV0, h9ZV0, h10ZV0, tks0, tkl0, tkw0, r0ZV0, r1ZV0, r2ZV0, r3ZV0, r4ZV0, r5ZV0, r6ZV0, r7ZV0, r8ZV0, r9ZV0, r10ZV0, r11ZV0, r12ZV0, r13ZV0, r14ZV0, r15ZV0, r16ZV0, r17ZV0, k0ZV0, k1ZV0, k2ZV0, k3ZV0, k4ZV0⟩ := hb_ZV
  have k0Zpi0 := hb_Zpi
  obtain ⟨w_2, ew_2, tw_2⟩ := gf_64_67 W t_a0
  obtain ⟨w_3, ew_3, tw_3⟩ := gf_64_68 W t_a0
  obtain ⟨w_4, ew_4, _⟩ := ga_115 W tw_2 (i := a1) (by omega) (by omega)
  obtain ⟨w_5, ew_5, _⟩ := ga_116 W tw_3 (i := a1) (by omega) (by omega)
  obtain ⟨okh, pbh, tph⟩ := PI_open k0Zpi0 eh_fv (by omega) eh_fr (by omega) (by omega) eh_ksr eh_sv ew_2 ew_4 ew_3 ew_5
  have tvv := vfi_e eh_tv
  have okn := okh.1
  have okm := okh.2.1
  have okt := okh.2.2
  clear okh
  have wu := w_U (s := sv) (f := w_4) (by omega) (by omega) (by omega)
  have := PB_dp pbh eh_fv eh_dv
  refine wb ew_2 ?_
  refine wb ew_4 ?_
  refine wi (fun hq6 => ?_) (fun hq6 => ?_)
  · have := li_1
    have hq6 := i_eq hq6
    obtain ⟨w57, ew57⟩ := go_64 W t_a0
    refine wb ew57 ?_
    obtain ⟨w_8, ew_8, lw_8, uw_8⟩ := gf_64_52 W t_a0
    have := PB_nm pbh h1ZV0 ew_8 h2ZV0
    have := li_7
    have := li_0
    obtain ⟨q56, eq56, Wq56, fq56, po0q56⟩ := p_Mo_code hn W (a1 := 7) (a2 := 0) t_a0 h1ZV0 ew_8 (by omega)
    refine wb eq56 ?_
    have e12 := (Zfr.gi fq56 t_a0 (by decide)).trans h0ZV0
    have e13 := (Zfr.gi fq56 t_a0 (by decide)).trans h1ZV0
    have e14 := (Zfr.gi fq56 t_a0 (by decide)).trans h2ZV0
    have e15 := (Zfr.gi fq56 t_a0 (by decide)).trans h3ZV0
    have e16 := (Zfr.gi fq56 t_a0 (by decide)).trans eh_fr
    have e17 := (Zfr.gr fq56 t_a0 (by decide)).trans eh_ksr
    have e18 := (Zfr.ai fq56 tqw_1 (by decide)).trans eh_sv
    have e19 := (Zfr.gr fq56 t_a0 (by decide)).trans h4ZV0
    have e20 := (Zfr.gr fq56 t_a0 (by decide)).trans h5ZV0
    have e21 := (Zfr.gr fq56 t_a0 (by decide)).trans h6ZV0
    have e22 := (Zfr.ai fq56 tks0 (by decide)).trans h7ZV0
    have e23 := (Zfr.ai fq56 tkl0 (by decide)).trans h8ZV0
    have e24 := (Zfr.ai fq56 tkw0 (by decide)).trans h9ZV0
    have e25 := (Zfr.gi fq56 t_a0 (by decide)).trans h10ZV0
    have e26 := (Zfr.gr fq56 t_a0 (by decide)).trans ew_2
    have e27 := (Zfr.gr fq56 t_a0 (by decide)).trans ew_3
    have e28 := (Zfr.ai fq56 tw_2 (by decide)).trans ew_4
    have e29 := (Zfr.ai fq56 tw_3 (by decide)).trans ew_5
    have k30 := GtP_cd k0ZV0 fq56 t_a0 W po0q56
    have sc32 := Sc_fr fq56 t_a0 (by decide) (by decide) (by decide)
    have k31 := WyN_fr k1ZV0 fq56 t_a0 W (by decide) sc32
    have k33 := TbI_cd k2ZV0 fq56 t_a0 W po0q56
    have k34 := TbC_cd k3ZV0 fq56 t_a0 W po0q56
    have k35 := TkN_fr k4ZV0 fq56 t_a0 W (by decide)
    have k36 := PB_one pbh fq56 t_a0 W po0q56 (by omega) (by omega)
    have k37 := TpK_fr tph fq56 t_a0 W (by decide)
    have F38 := Zfr.tr F0 fq56 (by decide)
    refine wb e15 ?_
    have := i_sub (a := dv) (b := 1) (by omega) (by omega)
    obtain ⟨c59, ec59, Wc59, fc59, gc59⟩ := pf_64_53 Wq56 t_a0 (x := (dv - 1)) (rgi (by omega) (by omega))
    refine wb ec59 ?_
    have e39 := (Zfr.gi fc59 t_a0 (by decide)).trans e12
    have e40 := (Zfr.gi fc59 t_a0 (by decide)).trans e13
    have e41 := (Zfr.gi fc59 t_a0 (by decide)).trans e14
    have e42 := (Zfr.gi fc59 t_a0 (by decide)).trans e16
    have e43 := (Zfr.gr fc59 t_a0 (by decide)).trans e17
    have e44 := (Zfr.ai fc59 tqw_1 (by decide)).trans e18
    have e45 := (Zfr.gr fc59 t_a0 (by decide)).trans e19
    have e46 := (Zfr.gr fc59 t_a0 (by decide)).trans e20
    have e47 := (Zfr.gr fc59 t_a0 (by decide)).trans e21
    have e48 := (Zfr.ai fc59 tks0 (by decide)).trans e22
    have e49 := (Zfr.ai fc59 tkl0 (by decide)).trans e23
    have e50 := (Zfr.ai fc59 tkw0 (by decide)).trans e24
    have e51 := (Zfr.gi fc59 t_a0 (by decide)).trans e25
    have e52 := (Zfr.gr fc59 t_a0 (by decide)).trans e26
    have e53 := (Zfr.gr fc59 t_a0 (by decide)).trans e27
    have e54 := (Zfr.ai fc59 tw_2 (by decide)).trans e28
    have e55 := (Zfr.ai fc59 tw_3 (by decide)).trans e29
    have k56 := GtP_fr k30 fc59 t_a0 Wq56 (by decide)
    have sc58 : Sc q56 c59 a0 0 ((dv - 1).toInt - dv.toInt) := Sc_mk e13 (((Zfr.gi (ci := 12) fc59 t_a0 (by decide)).trans e13)) e14 (((Zfr.gi (ci := 12) fc59 t_a0 (by decide)).trans e14)) e15 gc59 (by omega)
    have k57 := WyN_fr k31 fc59 t_a0 Wq56 (by decide) sc58
    have k59 := TbI_fr k33 fc59 t_a0 Wq56 (by decide) sc58
    have k60 := TbC_fr k34 fc59 t_a0 Wq56 (by decide) sc58
    have k61 := TkN_fr k35 fc59 t_a0 Wq56 (by decide)
    have k62 := PB_sc k36 fc59 t_a0 Wq56 (by decide) sc58 (by omega)
    have k63 := TpK_fr k37 fc59 t_a0 Wq56 (by decide)
    have F64 := Zfr.tr F38 fc59 (by decide)
    refine wb e42 ?_
    have := i_sub (a := fr) (b := 1) (by omega) (by omega)
    obtain ⟨c61, ec61, Wc61, fc61, gc61⟩ := pf_64_69 Wc59 t_a0 (x := (fr - 1)) (rgi (by omega) (by omega))
    refine wb ec61 ?_
    have e65 := (Zfr.gi fc61 t_a0 (by decide)).trans e39
    have e66 := (Zfr.gi fc61 t_a0 (by decide)).trans e40
    have e67 := (Zfr.gi fc61 t_a0 (by decide)).trans e41
    have e68 := (Zfr.gr fc61 t_a0 (by decide)).trans e43
    have e69 := (Zfr.ai fc61 tqw_1 (by decide)).trans e44
    have e70 := (Zfr.gr fc61 t_a0 (by decide)).trans e45
    have e71 := (Zfr.gr fc61 t_a0 (by decide)).trans e46
    have e72 := (Zfr.gr fc61 t_a0 (by decide)).trans e47
    have e73 := (Zfr.ai fc61 tks0 (by decide)).trans e48
    have e74 := (Zfr.ai fc61 tkl0 (by decide)).trans e49
    have e75 := (Zfr.ai fc61 tkw0 (by decide)).trans e50
    have e76 := (Zfr.gi fc61 t_a0 (by decide)).trans e51
    have e77 := (Zfr.gr fc61 t_a0 (by decide)).trans e52
    have e78 := (Zfr.gr fc61 t_a0 (by decide)).trans e53
    have e79 := (Zfr.ai fc61 tw_2 (by decide)).trans e54
    have e80 := (Zfr.ai fc61 tw_3 (by decide)).trans e55
    have e81 := (Zfr.gi fc61 t_a0 (by decide)).trans gc59
    have k82 := GtP_fr k56 fc61 t_a0 Wc59 (by decide)
    have sc84 := Sc_fr fc61 t_a0 (by decide) (by decide) (by decide)
    have k83 := WyN_fr k57 fc61 t_a0 Wc59 (by decide) sc84
    have k85 := TbI_fr k59 fc61 t_a0 Wc59 (by decide) sc84
    have k86 := TbC_fr k60 fc61 t_a0 Wc59 (by decide) sc84
    have k87 := TkN_fr k61 fc61 t_a0 Wc59 (by decide)
    have k88 := PB_s0 k62 fc61 t_a0 Wc59 (by decide) sc84
    have k89 := TpK_fr k63 fc61 t_a0 Wc59 (by decide)
    have F90 := Zfr.tr F64 fc61 (by decide)
    unfold f_Mo_unit_218
    exact ⟨_, rfl, Wc61, F90, ⟨fv, tv, (dv - 1), bks0, bkl0, bkw0, bna0, blb0, bnw0, bvn0, e65, e66, e67, e81, e70, e71, e72, e73, e74, e75, e76, tks0, tkl0, tkw0, by (try dsimp only); omega, by (try dsimp only); omega, by (try dsimp only); omega, by (try dsimp only); omega, by (try dsimp only); omega, by (try dsimp only); omega, by (try dsimp only); omega, by (try dsimp only); omega, by (try dsimp only); omega, by (try dsimp only); omega, by (try dsimp only); omega, by (try dsimp only); omega, by (try dsimp only); omega, by (try dsimp only); omega, by (try dsimp only); omega, by (try dsimp only); omega, by (try dsimp only); omega, by (try dsimp only); omega, by (try dsimp only); omega, by (try dsimp only); omega, k82, k83, k85, k86, k87⟩, PI_pop k88 (by omega) (by omega) (by omega) (by omega) gc61 (by omega) (by omega)⟩
  · have := li_1
    have hq6 := i_ne hq6
    refine wb ew_2 ?_
    refine wb ew_4 ?_
    refine wi (fun hq104 => ?_) (fun hq104 => ?_)
    · have := li_2
      have hq104 := i_eq hq104
      obtain ⟨w51, ew51⟩ := go_64 W t_a0
      refine wb ew51 ?_
      have := li_41
      obtain ⟨q50, eq50, Wq50, fq50, pbZSq50⟩ := p_Mo_need hn W (a1 := 41) t_a0 (by omega) (by omega) (by omega) (by omega) h1ZV0 h2ZV0
      refine wb eq50 ?_
      have e107 := (Zfr.gi fq50 t_a0 (by decide)).trans h0ZV0
      have e108 := (Zfr.gi fq50 t_a0 (by decide)).trans h3ZV0
      have e109 := (Zfr.gi fq50 t_a0 (by decide)).trans eh_fr
      have e110 := (Zfr.gr fq50 t_a0 (by decide)).trans eh_ksr
      have e111 := (Zfr.ai fq50 tqw_1 (by decide)).trans eh_sv
      have e112 := (Zfr.gr fq50 t_a0 (by decide)).trans h4ZV0
      have e113 := (Zfr.gr fq50 t_a0 (by decide)).trans h5ZV0
      have e114 := (Zfr.gr fq50 t_a0 (by decide)).trans h6ZV0
      have e115 := (Zfr.ai fq50 tks0 (by decide)).trans h7ZV0
      have e116 := (Zfr.ai fq50 tkl0 (by decide)).trans h8ZV0
      have e117 := (Zfr.ai fq50 tkw0 (by decide)).trans h9ZV0
      have e118 := (Zfr.gi fq50 t_a0 (by decide)).trans h10ZV0
      have e119 := (Zfr.gr fq50 t_a0 (by decide)).trans ew_2
      have e120 := (Zfr.gr fq50 t_a0 (by decide)).trans ew_3
      have e121 := (Zfr.ai fq50 tw_2 (by decide)).trans ew_4
      have e122 := (Zfr.ai fq50 tw_3 (by decide)).trans ew_5
      have k123 := GtP_fr k0ZV0 fq50 t_a0 W (by decide)
      have sc125 : Sc c q50 a0 (1) (0) := by
        obtain ⟨yf2, yt2, z0y, z1y, x0y, x1y, x2y, x3y, x4y, x5y⟩ := pbZSq50
        exact Sc_mk h1ZV0 z0y h2ZV0 z1y h3ZV0 ((Zfr.gi (ci := 12) fq50 t_a0 (by decide)).trans h3ZV0) (by omega)
      have k124 := WyN_fr k1ZV0 fq50 t_a0 W (by decide) sc125
      have k126 := TbI_fr k2ZV0 fq50 t_a0 W (by decide) sc125
      have k127 := TbC_fr k3ZV0 fq50 t_a0 W (by decide) sc125
      have k128 := TkN_fr k4ZV0 fq50 t_a0 W (by decide)
      have k129 := PB_sc pbh fq50 t_a0 W (by decide) sc125 (by omega)
      have k130 := TpK_fr tph fq50 t_a0 W (by decide)
      have F131 := Zfr.tr F0 fq50 (by decide)
      obtain ⟨bf2q50, bt2q50, h0ZSq50, h1ZSq50, r0ZSq50, r1ZSq50, r2ZSq50, r3ZSq50, r4ZSq50, r5ZSq50⟩ := pbZSq50
      refine wb e108 ?_
      have := i_sub (a := dv) (b := 1) (by omega) (by omega)
      obtain ⟨c53, ec53, Wc53, fc53, gc53⟩ := pf_64_53 Wq50 t_a0 (x := (dv - 1)) (rgi (by omega) (by omega))
      refine wb ec53 ?_
      have e132 := (Zfr.gi fc53 t_a0 (by decide)).trans e107
      have e133 := (Zfr.gi fc53 t_a0 (by decide)).trans e109
      have e134 := (Zfr.gr fc53 t_a0 (by decide)).trans e110
      have e135 := (Zfr.ai fc53 tqw_1 (by decide)).trans e111
      have e136 := (Zfr.gr fc53 t_a0 (by decide)).trans e112
      have e137 := (Zfr.gr fc53 t_a0 (by decide)).trans e113
      have e138 := (Zfr.gr fc53 t_a0 (by decide)).trans e114
      have e139 := (Zfr.ai fc53 tks0 (by decide)).trans e115
      have e140 := (Zfr.ai fc53 tkl0 (by decide)).trans e116
      have e141 := (Zfr.ai fc53 tkw0 (by decide)).trans e117
      have e142 := (Zfr.gi fc53 t_a0 (by decide)).trans e118
      have e143 := (Zfr.gr fc53 t_a0 (by decide)).trans e119
      have e144 := (Zfr.gr fc53 t_a0 (by decide)).trans e120
      have e145 := (Zfr.ai fc53 tw_2 (by decide)).trans e121
      have e146 := (Zfr.ai fc53 tw_3 (by decide)).trans e122
      have e147 := (Zfr.gi fc53 t_a0 (by decide)).trans h0ZSq50
      have e148 := (Zfr.gi fc53 t_a0 (by decide)).trans h1ZSq50
      have k149 := GtP_fr k123 fc53 t_a0 Wq50 (by decide)
      have sc151 : Sc q50 c53 a0 0 ((dv - 1).toInt - dv.toInt) := Sc_mk h0ZSq50 (((Zfr.gi (ci := 12) fc53 t_a0 (by decide)).trans h0ZSq50)) h1ZSq50 (((Zfr.gi (ci := 12) fc53 t_a0 (by decide)).trans h1ZSq50)) e108 gc53 (by omega)
      have k150 := WyN_fr k124 fc53 t_a0 Wq50 (by decide) sc151
      have k152 := TbI_fr k126 fc53 t_a0 Wq50 (by decide) sc151
      have k153 := TbC_fr k127 fc53 t_a0 Wq50 (by decide) sc151
      have k154 := TkN_fr k128 fc53 t_a0 Wq50 (by decide)
      have k155 := PB_sc k129 fc53 t_a0 Wq50 (by decide) sc151 (by omega)
      have k156 := TpK_fr k130 fc53 t_a0 Wq50 (by decide)
      have F157 := Zfr.tr F131 fc53 (by decide)
      refine wb e133 ?_
      have := i_sub (a := fr) (b := 1) (by omega) (by omega)
      obtain ⟨c55, ec55, Wc55, fc55, gc55⟩ := pf_64_69 Wc53 t_a0 (x := (fr - 1)) (rgi (by omega) (by omega))
      refine wb ec55 ?_
      have e158 := (Zfr.gi fc55 t_a0 (by decide)).trans e132
      have e159 := (Zfr.gr fc55 t_a0 (by decide)).trans e134
      have e160 := (Zfr.ai fc55 tqw_1 (by decide)).trans e135
      have e161 := (Zfr.gr fc55 t_a0 (by decide)).trans e136
      have e162 := (Zfr.gr fc55 t_a0 (by decide)).trans e137
      have e163 := (Zfr.gr fc55 t_a0 (by decide)).trans e138
      have e164 := (Zfr.ai fc55 tks0 (by decide)).trans e139
      have e165 := (Zfr.ai fc55 tkl0 (by decide)).trans e140
      have e166 := (Zfr.ai fc55 tkw0 (by decide)).trans e141
      have e167 := (Zfr.gi fc55 t_a0 (by decide)).trans e142
      have e168 := (Zfr.gr fc55 t_a0 (by decide)).trans e143
      have e169 := (Zfr.gr fc55 t_a0 (by decide)).trans e144
      have e170 := (Zfr.ai fc55 tw_2 (by decide)).trans e145
      have e171 := (Zfr.ai fc55 tw_3 (by decide)).trans e146
      have e172 := (Zfr.gi fc55 t_a0 (by decide)).trans e147
      have e173 := (Zfr.gi fc55 t_a0 (by decide)).trans e148
      have e174 := (Zfr.gi fc55 t_a0 (by decide)).trans gc53
      have k175 := GtP_fr k149 fc55 t_a0 Wc53 (by decide)
      have sc177 := Sc_fr fc55 t_a0 (by decide) (by decide) (by decide)
      have k176 := WyN_fr k150 fc55 t_a0 Wc53 (by decide) sc177
      have k178 := TbI_fr k152 fc55 t_a0 Wc53 (by decide) sc177
      have k179 := TbC_fr k153 fc55 t_a0 Wc53 (by decide) sc177
      have k180 := TkN_fr k154 fc55 t_a0 Wc53 (by decide)
      have k181 := PB_s0 k155 fc55 t_a0 Wc53 (by decide) sc177
      have k182 := TpK_fr k156 fc55 t_a0 Wc53 (by decide)
      have F183 := Zfr.tr F157 fc55 (by decide)
      unfold f_Mo_unit_218
      exact ⟨_, rfl, Wc55, F183, ⟨bf2q50, bt2q50, (dv - 1), bks0, bkl0, bkw0, bna0, blb0, bnw0, bvn0, e158, e172, e173, e174, e161, e162, e163, e164, e165, e166, e167, tks0, tkl0, tkw0, by (try dsimp only); omega, by (try dsimp only); omega, by (try dsimp only); omega, by (try dsimp only); omega, by (try dsimp only); omega, by (try dsimp only); omega, by (try dsimp only); omega, by (try dsimp only); omega, by (try dsimp only); omega, by (try dsimp only); omega, by (try dsimp only); omega, by (try dsimp only); omega, by (try dsimp only); omega, by (try dsimp only); omega, by (try dsimp only); omega, by (try dsimp only); omega, by (try dsimp only); omega, by (try dsimp only); omega, by (try dsimp only); omega, by (try dsimp only); omega, k175, k176, k178, k179, k180⟩, PI_pop k181 (by omega) (by omega) (by omega) (by omega) gc55 (by omega) (by omega)⟩
    · have := li_2
      have hq104 := i_ne hq104
      obtain ⟨w8, ew8⟩ := go_64 W t_a0
      refine wb ew8 ?_
      have := li_45
      obtain ⟨q7, eq7, Wq7, fq7, pl0q7, pu0q7, pbZSkq7⟩ := p_Mo_takes hn W (a1 := 45) t_a0 (by omega) (by omega) (by omega) (by omega) h1ZV0 h2ZV0
      refine wb eq7 ?_
      have e199 := (Zfr.gi fq7 t_a0 (by decide)).trans h0ZV0
      have e200 := (Zfr.gi fq7 t_a0 (by decide)).trans h3ZV0
      have e201 := (Zfr.gi fq7 t_a0 (by decide)).trans eh_fr
      have e202 := (Zfr.gr fq7 t_a0 (by decide)).trans eh_ksr
      have e203 := (Zfr.ai fq7 tqw_1 (by decide)).trans eh_sv
      have e204 := (Zfr.gr fq7 t_a0 (by decide)).trans h4ZV0
      have e205 := (Zfr.gr fq7 t_a0 (by decide)).trans h5ZV0
      have e206 := (Zfr.gr fq7 t_a0 (by decide)).trans h6ZV0
      have e207 := (Zfr.ai fq7 tks0 (by decide)).trans h7ZV0
      have e208 := (Zfr.ai fq7 tkl0 (by decide)).trans h8ZV0
      have e209 := (Zfr.ai fq7 tkw0 (by decide)).trans h9ZV0
      have e210 := (Zfr.gi fq7 t_a0 (by decide)).trans h10ZV0
      have e211 := (Zfr.gr fq7 t_a0 (by decide)).trans ew_2
      have e212 := (Zfr.gr fq7 t_a0 (by decide)).trans ew_3
      have e213 := (Zfr.ai fq7 tw_2 (by decide)).trans ew_4
      have e214 := (Zfr.ai fq7 tw_3 (by decide)).trans ew_5
      have k215 := GtP_fr k0ZV0 fq7 t_a0 W (by decide)
      have sc217 : Sc c q7.2 a0 (q7.1.toInt) (0) := by
        obtain ⟨yf2, yt2, z0y, z1y, x0y, x1y, x2y, x3y, x4y, x5y, x6y⟩ := pbZSkq7
        exact Sc_mk h1ZV0 z0y h2ZV0 z1y h3ZV0 ((Zfr.gi (ci := 12) fq7 t_a0 (by decide)).trans h3ZV0) (by omega)
      have k216 := WyN_fr k1ZV0 fq7 t_a0 W (by decide) sc217
      have k218 := TbI_fr k2ZV0 fq7 t_a0 W (by decide) sc217
      have k219 := TbC_fr k3ZV0 fq7 t_a0 W (by decide) sc217
      have k220 := TkN_fr k4ZV0 fq7 t_a0 W (by decide)
      have k221 := PB_sc pbh fq7 t_a0 W (by decide) sc217 (by omega)
      have k222 := TpK_fr tph fq7 t_a0 W (by decide)
      have F223 := Zfr.tr F0 fq7 (by decide)
      obtain ⟨bf2q7, bt2q7, h0ZSkq7, h1ZSkq7, r0ZSkq7, r1ZSkq7, r2ZSkq7, r3ZSkq7, r4ZSkq7, r5ZSkq7, r6ZSkq7⟩ := pbZSkq7
      refine wi (fun hq224 => ?_) (fun hq224 => ?_)
      · have := li_0
        have hq224 := i_eq hq224
        obtain ⟨w11, ew11⟩ := go_64 Wq7 t_a0
        refine wb ew11 ?_
        have := li_40
        obtain ⟨q10, eq10, Wq10, fq10, pl0q10, pu0q10, pbZSkq10⟩ := p_Mo_takes hn Wq7 (a1 := 40) t_a0 (by omega) (by omega) (by omega) (by omega) h0ZSkq7 h1ZSkq7
        refine wb eq10 ?_
        have e227 := (Zfr.gi fq10 t_a0 (by decide)).trans e199
        have e228 := (Zfr.gi fq10 t_a0 (by decide)).trans e200
        have e229 := (Zfr.gi fq10 t_a0 (by decide)).trans e201
        have e230 := (Zfr.gr fq10 t_a0 (by decide)).trans e202
        have e231 := (Zfr.ai fq10 tqw_1 (by decide)).trans e203
        have e232 := (Zfr.gr fq10 t_a0 (by decide)).trans e204
        have e233 := (Zfr.gr fq10 t_a0 (by decide)).trans e205
        have e234 := (Zfr.gr fq10 t_a0 (by decide)).trans e206
        have e235 := (Zfr.ai fq10 tks0 (by decide)).trans e207
        have e236 := (Zfr.ai fq10 tkl0 (by decide)).trans e208
        have e237 := (Zfr.ai fq10 tkw0 (by decide)).trans e209
        have e238 := (Zfr.gi fq10 t_a0 (by decide)).trans e210
        have e239 := (Zfr.gr fq10 t_a0 (by decide)).trans e211
        have e240 := (Zfr.gr fq10 t_a0 (by decide)).trans e212
        have e241 := (Zfr.ai fq10 tw_2 (by decide)).trans e213
        have e242 := (Zfr.ai fq10 tw_3 (by decide)).trans e214
        have k243 := GtP_fr k215 fq10 t_a0 Wq7 (by decide)
        have sc245 : Sc q7.2 q10.2 a0 (q10.1.toInt) (0) := by
          obtain ⟨yf2, yt2, z0y, z1y, x0y, x1y, x2y, x3y, x4y, x5y, x6y⟩ := pbZSkq10
          exact Sc_mk h0ZSkq7 z0y h1ZSkq7 z1y e200 ((Zfr.gi (ci := 12) fq10 t_a0 (by decide)).trans e200) (by omega)
        have k244 := WyN_fr k216 fq10 t_a0 Wq7 (by decide) sc245
        have k246 := TbI_fr k218 fq10 t_a0 Wq7 (by decide) sc245
        have k247 := TbC_fr k219 fq10 t_a0 Wq7 (by decide) sc245
        have k248 := TkN_fr k220 fq10 t_a0 Wq7 (by decide)
        have k249 := PB_sc k221 fq10 t_a0 Wq7 (by decide) sc245 (by omega)
        have k250 := TpK_fr k222 fq10 t_a0 Wq7 (by decide)
        have F251 := Zfr.tr F223 fq10 (by decide)
        obtain ⟨bf2q10, bt2q10, h0ZSkq10, h1ZSkq10, r0ZSkq10, r1ZSkq10, r2ZSkq10, r3ZSkq10, r4ZSkq10, r5ZSkq10, r6ZSkq10⟩ := pbZSkq10
        refine wi (fun hq252 => ?_) (fun hq252 => ?_)
        · have hq252 := i_eq hq252
          refine wb h0ZSkq10 ?_
          refine wi (fun hq253 => ?_) (fun hq253 => ?_)
          · have hq253 := i_eq hq253
            obtain ⟨w27, ew27⟩ := go_64 Wq10 t_a0
            refine wb ew27 ?_
            obtain ⟨q26, eq26, Wq26, fq26, pbZScq26, pbZkdq26⟩ := p_Mo_kind hn Wq10  t_a0 (by omega) (by omega) (by omega) (by omega) h0ZSkq10 h1ZSkq10
            refine wb eq26 ?_
            have e256 := (Zfr.gi fq26 t_a0 (by decide)).trans e227
            have e257 := (Zfr.gi fq26 t_a0 (by decide)).trans e228
            have e258 := (Zfr.gi fq26 t_a0 (by decide)).trans e229
            have e259 := (Zfr.gr fq26 t_a0 (by decide)).trans e230
            have e260 := (Zfr.ai fq26 tqw_1 (by decide)).trans e231
            have e261 := (Zfr.gr fq26 t_a0 (by decide)).trans e232
            have e262 := (Zfr.gr fq26 t_a0 (by decide)).trans e233
            have e263 := (Zfr.gr fq26 t_a0 (by decide)).trans e234
            have e264 := (Zfr.ai fq26 tks0 (by decide)).trans e235
            have e265 := (Zfr.ai fq26 tkl0 (by decide)).trans e236
            have e266 := (Zfr.ai fq26 tkw0 (by decide)).trans e237
            have e267 := (Zfr.gi fq26 t_a0 (by decide)).trans e238
            have e268 := (Zfr.gr fq26 t_a0 (by decide)).trans e239
            have e269 := (Zfr.gr fq26 t_a0 (by decide)).trans e240
            have e270 := (Zfr.ai fq26 tw_2 (by decide)).trans e241
            have e271 := (Zfr.ai fq26 tw_3 (by decide)).trans e242
            have e272 := (Zfr.gi fq26 t_a0 (by decide)).trans h1ZSkq10
            have k273 := GtP_fr k243 fq26 t_a0 Wq10 (by decide)
            have sc275 : Sc q10.2 q26.2 a0 (0) (0) := by
              obtain ⟨yf2, z0y, x0y, x1y, x2y, x3y⟩ := pbZScq26
              exact Sc_mk h0ZSkq10 z0y h1ZSkq10 ((Zfr.gi (ci := 12) fq26 t_a0 (by decide)).trans h1ZSkq10) e228 ((Zfr.gi (ci := 12) fq26 t_a0 (by decide)).trans e228) (by omega)
            have k274 := WyN_fr k244 fq26 t_a0 Wq10 (by decide) sc275
            have k276 := TbI_fr k246 fq26 t_a0 Wq10 (by decide) sc275
            have k277 := TbC_fr k247 fq26 t_a0 Wq10 (by decide) sc275
            have k278 := TkN_fr k248 fq26 t_a0 Wq10 (by decide)
            have k279 := PB_s0 k249 fq26 t_a0 Wq10 (by decide) sc275
            have k280 := TpK_fr k250 fq26 t_a0 Wq10 (by decide)
            have F281 := Zfr.tr F251 fq26 (by decide)
            obtain ⟨bf2q26, h0ZScq26, r0ZScq26, r1ZScq26, r2ZScq26, r3ZScq26⟩ := pbZScq26
            obtain ⟨bkkq26, h0Zkdq26, h1Zkdq26, tkkq26⟩ := pbZkdq26
            refine wi (fun hq282 => ?_) (fun hq282 => ?_)
            · have := li_6
              have := i_ge q26.1
              have := i_up q26.1
              have hq282 := i_eq hq282
              obtain ⟨v29, ev29, tv29⟩ := gf_64_15 Wq26 t_a0
              refine wb ev29 ?_
              refine wb e272 ?_
              obtain ⟨v31, ev31, _⟩ := ga_75 Wq26 tv29 (i := bt2q10) (by omega) (by omega)
              have ht283 := TkM_at (k278 _ _ h0Zkdq26 ev29) h1Zkdq26 ev31
              have := tkr6 ht283 (by omega)
              refine wb ev31 ?_
              obtain ⟨w33, ew33⟩ := go_64 Wq26 t_a0
              refine wb ew33 ?_
              obtain ⟨w_285, ew_285, lw_285, uw_285⟩ := gf_64_52 Wq26 t_a0
              have := PB_nm k279 h0ZScq26 ew_285 e272
              obtain ⟨q32, eq32, Wq32, fq32, po0q32⟩ := p_Mo_code hn Wq26 (a1 := 0) (a2 := v31) t_a0 h0ZScq26 ew_285 (by omega)
              refine wb eq32 ?_
              have e289 := (Zfr.gi fq32 t_a0 (by decide)).trans e256
              have e290 := (Zfr.gi fq32 t_a0 (by decide)).trans e257
              have e291 := (Zfr.gi fq32 t_a0 (by decide)).trans e258
              have e292 := (Zfr.gr fq32 t_a0 (by decide)).trans e259
              have e293 := (Zfr.ai fq32 tqw_1 (by decide)).trans e260
              have e294 := (Zfr.gr fq32 t_a0 (by decide)).trans e261
              have e295 := (Zfr.gr fq32 t_a0 (by decide)).trans e262
              have e296 := (Zfr.gr fq32 t_a0 (by decide)).trans e263
              have e297 := (Zfr.ai fq32 tks0 (by decide)).trans e264
              have e298 := (Zfr.ai fq32 tkl0 (by decide)).trans e265
              have e299 := (Zfr.ai fq32 tkw0 (by decide)).trans e266
              have e300 := (Zfr.gi fq32 t_a0 (by decide)).trans e267
              have e301 := (Zfr.gr fq32 t_a0 (by decide)).trans e268
              have e302 := (Zfr.gr fq32 t_a0 (by decide)).trans e269
              have e303 := (Zfr.ai fq32 tw_2 (by decide)).trans e270
              have e304 := (Zfr.ai fq32 tw_3 (by decide)).trans e271
              have e305 := (Zfr.gi fq32 t_a0 (by decide)).trans e272
              have e306 := (Zfr.gi fq32 t_a0 (by decide)).trans h0ZScq26
              have e307 := (Zfr.gr fq32 t_a0 (by decide)).trans h0Zkdq26
              have e308 := (Zfr.ai fq32 tkkq26 (by decide)).trans h1Zkdq26
              have e309 := (Zfr.gr fq32 t_a0 (by decide)).trans ev29
              have e310 := (Zfr.ai fq32 tv29 (by decide)).trans ev31
              have k311 := GtP_cd k273 fq32 t_a0 Wq26 po0q32
              have sc313 := Sc_fr fq32 t_a0 (by decide) (by decide) (by decide)
              have k312 := WyN_fr k274 fq32 t_a0 Wq26 (by decide) sc313
              have k314 := TbI_cd k276 fq32 t_a0 Wq26 po0q32
              have k315 := TbC_cd k277 fq32 t_a0 Wq26 po0q32
              have k316 := TkN_fr k278 fq32 t_a0 Wq26 (by decide)
              have k317 := PB_push k279 fq32 t_a0 Wq26 po0q32 h0ZScq26 (by omega)
              have k318 := TpK_fr k280 fq32 t_a0 Wq26 (by decide)
              have F319 := Zfr.tr F281 fq32 (by decide)
              obtain ⟨w35, ew35⟩ := go_64 Wq32 t_a0
              refine wb ew35 ?_
              obtain ⟨q34, eq34, Wq34, fq34, pbZSq34⟩ := p_Mo_pass hn Wq32  t_a0 (by omega) (by omega) (by omega) (by omega) e306 e305
              refine wb eq34 ?_
              have e322 := (Zfr.gi fq34 t_a0 (by decide)).trans e289
              have e323 := (Zfr.gi fq34 t_a0 (by decide)).trans e290
              have e324 := (Zfr.gi fq34 t_a0 (by decide)).trans e291
              have e325 := (Zfr.gr fq34 t_a0 (by decide)).trans e292
              have e326 := (Zfr.ai fq34 tqw_1 (by decide)).trans e293
              have e327 := (Zfr.gr fq34 t_a0 (by decide)).trans e294
              have e328 := (Zfr.gr fq34 t_a0 (by decide)).trans e295
              have e329 := (Zfr.gr fq34 t_a0 (by decide)).trans e296
              have e330 := (Zfr.ai fq34 tks0 (by decide)).trans e297
              have e331 := (Zfr.ai fq34 tkl0 (by decide)).trans e298
              have e332 := (Zfr.ai fq34 tkw0 (by decide)).trans e299
              have e333 := (Zfr.gi fq34 t_a0 (by decide)).trans e300
              have e334 := (Zfr.gr fq34 t_a0 (by decide)).trans e301
              have e335 := (Zfr.gr fq34 t_a0 (by decide)).trans e302
              have e336 := (Zfr.ai fq34 tw_2 (by decide)).trans e303
              have e337 := (Zfr.ai fq34 tw_3 (by decide)).trans e304
              have e338 := (Zfr.gr fq34 t_a0 (by decide)).trans e307
              have e339 := (Zfr.ai fq34 tkkq26 (by decide)).trans e308
              have e340 := (Zfr.gr fq34 t_a0 (by decide)).trans e309
              have e341 := (Zfr.ai fq34 tv29 (by decide)).trans e310
              have k342 := GtP_fr k311 fq34 t_a0 Wq32 (by decide)
              have sc344 : Sc q32 q34 a0 (1) (0) := by
                obtain ⟨yf2, yt2, z0y, z1y, x0y, x1y, x2y, x3y, x4y, x5y⟩ := pbZSq34
                exact Sc_mk e306 z0y e305 z1y e290 ((Zfr.gi (ci := 12) fq34 t_a0 (by decide)).trans e290) (by omega)
              have k343 := WyN_fr k312 fq34 t_a0 Wq32 (by decide) sc344
              have k345 := TbI_fr k314 fq34 t_a0 Wq32 (by decide) sc344
              have k346 := TbC_fr k315 fq34 t_a0 Wq32 (by decide) sc344
              have k347 := TkN_fr k316 fq34 t_a0 Wq32 (by decide)
              have k348 := PB_sc k317 fq34 t_a0 Wq32 (by decide) sc344 (by omega)
              have k349 := TpK_fr k318 fq34 t_a0 Wq32 (by decide)
              have F350 := Zfr.tr F319 fq34 (by decide)
              obtain ⟨bf2q34, bt2q34, h0ZSq34, h1ZSq34, r0ZSq34, r1ZSq34, r2ZSq34, r3ZSq34, r4ZSq34, r5ZSq34⟩ := pbZSq34
              refine wb e324 ?_
              have := i_sub (a := fr) (b := 1) (by omega) (by omega)
              obtain ⟨c37, ec37, Wc37, fc37, gc37⟩ := pf_64_69 Wq34 t_a0 (x := (fr - 1)) (rgi (by omega) (by omega))
              refine wb ec37 ?_
              have e351 := (Zfr.gi fc37 t_a0 (by decide)).trans e322
              have e352 := (Zfr.gi fc37 t_a0 (by decide)).trans e323
              have e353 := (Zfr.gr fc37 t_a0 (by decide)).trans e325
              have e354 := (Zfr.ai fc37 tqw_1 (by decide)).trans e326
              have e355 := (Zfr.gr fc37 t_a0 (by decide)).trans e327
              have e356 := (Zfr.gr fc37 t_a0 (by decide)).trans e328
              have e357 := (Zfr.gr fc37 t_a0 (by decide)).trans e329
              have e358 := (Zfr.ai fc37 tks0 (by decide)).trans e330
              have e359 := (Zfr.ai fc37 tkl0 (by decide)).trans e331
              have e360 := (Zfr.ai fc37 tkw0 (by decide)).trans e332
              have e361 := (Zfr.gi fc37 t_a0 (by decide)).trans e333
              have e362 := (Zfr.gr fc37 t_a0 (by decide)).trans e334
              have e363 := (Zfr.gr fc37 t_a0 (by decide)).trans e335
              have e364 := (Zfr.ai fc37 tw_2 (by decide)).trans e336
              have e365 := (Zfr.ai fc37 tw_3 (by decide)).trans e337
              have e366 := (Zfr.gr fc37 t_a0 (by decide)).trans e338
              have e367 := (Zfr.ai fc37 tkkq26 (by decide)).trans e339
              have e368 := (Zfr.gr fc37 t_a0 (by decide)).trans e340
              have e369 := (Zfr.ai fc37 tv29 (by decide)).trans e341
              have e370 := (Zfr.gi fc37 t_a0 (by decide)).trans h0ZSq34
              have e371 := (Zfr.gi fc37 t_a0 (by decide)).trans h1ZSq34
              have k372 := GtP_fr k342 fc37 t_a0 Wq34 (by decide)
              have sc374 := Sc_fr fc37 t_a0 (by decide) (by decide) (by decide)
              have k373 := WyN_fr k343 fc37 t_a0 Wq34 (by decide) sc374
              have k375 := TbI_fr k345 fc37 t_a0 Wq34 (by decide) sc374
              have k376 := TbC_fr k346 fc37 t_a0 Wq34 (by decide) sc374
              have k377 := TkN_fr k347 fc37 t_a0 Wq34 (by decide)
              have k378 := PB_s0 k348 fc37 t_a0 Wq34 (by decide) sc374
              have k379 := TpK_fr k349 fc37 t_a0 Wq34 (by decide)
              have F380 := Zfr.tr F350 fc37 (by decide)
              unfold f_Mo_unit_218
              exact ⟨_, rfl, Wc37, F380, ⟨bf2q34, bt2q34, dv, bks0, bkl0, bkw0, bna0, blb0, bnw0, bvn0, e351, e370, e371, e352, e355, e356, e357, e358, e359, e360, e361, tks0, tkl0, tkw0, by (try dsimp only); omega, by (try dsimp only); omega, by (try dsimp only); omega, by (try dsimp only); omega, by (try dsimp only); omega, by (try dsimp only); omega, by (try dsimp only); omega, by (try dsimp only); omega, by (try dsimp only); omega, by (try dsimp only); omega, by (try dsimp only); omega, by (try dsimp only); omega, by (try dsimp only); omega, by (try dsimp only); omega, by (try dsimp only); omega, by (try dsimp only); omega, by (try dsimp only); omega, by (try dsimp only); omega, by (try dsimp only); omega, by (try dsimp only); omega, k372, k373, k375, k376, k377⟩, PI_pop k378 (by omega) (by omega) (by omega) (by omega) gc37 (by omega) (by omega)⟩
            · have := li_6
              have := i_ge q26.1
              have := i_up q26.1
              have hq282 := i_ne hq282
              unfold f_Mo_unit_182
              refine wb h0ZScq26 ?_
              refine wi (fun hq394 => ?_) (fun hq394 => ?_)
              · have hq394 := i_eq hq394
                obtain ⟨w20, ew20⟩ := go_64 Wq26 t_a0
                refine wb ew20 ?_
                obtain ⟨q19, eq19, Wq19, fq19, pbZScq19, pbZkdq19⟩ := p_Mo_kind hn Wq26  t_a0 (by omega) (by omega) (by omega) (by omega) h0ZScq26 e272
                refine wb eq19 ?_
                have e397 := (Zfr.gi fq19 t_a0 (by decide)).trans e256
                have e398 := (Zfr.gi fq19 t_a0 (by decide)).trans e257
                have e399 := (Zfr.gi fq19 t_a0 (by decide)).trans e258
                have e400 := (Zfr.gr fq19 t_a0 (by decide)).trans e259
                have e401 := (Zfr.ai fq19 tqw_1 (by decide)).trans e260
                have e402 := (Zfr.gr fq19 t_a0 (by decide)).trans e261
                have e403 := (Zfr.gr fq19 t_a0 (by decide)).trans e262
                have e404 := (Zfr.gr fq19 t_a0 (by decide)).trans e263
                have e405 := (Zfr.ai fq19 tks0 (by decide)).trans e264
                have e406 := (Zfr.ai fq19 tkl0 (by decide)).trans e265
                have e407 := (Zfr.ai fq19 tkw0 (by decide)).trans e266
                have e408 := (Zfr.gi fq19 t_a0 (by decide)).trans e267
                have e409 := (Zfr.gr fq19 t_a0 (by decide)).trans e268
                have e410 := (Zfr.gr fq19 t_a0 (by decide)).trans e269
                have e411 := (Zfr.ai fq19 tw_2 (by decide)).trans e270
                have e412 := (Zfr.ai fq19 tw_3 (by decide)).trans e271
                have e413 := (Zfr.gi fq19 t_a0 (by decide)).trans e272
                have e414 := (Zfr.gr fq19 t_a0 (by decide)).trans h0Zkdq26
                have e415 := (Zfr.ai fq19 tkkq26 (by decide)).trans h1Zkdq26
                have k416 := GtP_fr k273 fq19 t_a0 Wq26 (by decide)
                have sc418 : Sc q26.2 q19.2 a0 (0) (0) := by
                  obtain ⟨yf2, z0y, x0y, x1y, x2y, x3y⟩ := pbZScq19
                  exact Sc_mk h0ZScq26 z0y e272 ((Zfr.gi (ci := 12) fq19 t_a0 (by decide)).trans e272) e257 ((Zfr.gi (ci := 12) fq19 t_a0 (by decide)).trans e257) (by omega)
                have k417 := WyN_fr k274 fq19 t_a0 Wq26 (by decide) sc418
                have k419 := TbI_fr k276 fq19 t_a0 Wq26 (by decide) sc418
                have k420 := TbC_fr k277 fq19 t_a0 Wq26 (by decide) sc418
                have k421 := TkN_fr k278 fq19 t_a0 Wq26 (by decide)
                have k422 := PB_s0 k279 fq19 t_a0 Wq26 (by decide) sc418
                have k423 := TpK_fr k280 fq19 t_a0 Wq26 (by decide)
                have F424 := Zfr.tr F281 fq19 (by decide)
                obtain ⟨bf2q19, h0ZScq19, r0ZScq19, r1ZScq19, r2ZScq19, r3ZScq19⟩ := pbZScq19
                obtain ⟨bkkq19, h0Zkdq19, h1Zkdq19, tkkq19⟩ := pbZkdq19
                refine wi (fun hq425 => ?_) (fun hq425 => ?_)
                · have := i_ge q19.1
                  have := i_up q19.1
                  have hq425 := i_eq hq425
                  obtain ⟨w23, ew23⟩ := go_64 Wq19 t_a0
                  refine wb ew23 ?_
                  obtain ⟨q22, eq22, Wq22, fq22, pbZVqq22, pbZPBq22⟩ := p_Mo_variable hn Wq19 (ni := ni) (bc := bc) (s0 := s0) (gk := a1.toInt.toNat) (δ := (dl sv.toInt w_4.toInt)) (τ := (((1 + fw2 sv.toInt w_4.toInt) + q7.1.toInt) + q10.1.toInt)) (ε := (((fw3 sv.toInt w_4.toInt) + 0) + 0)) (π := (((ph sv.toInt w_4.toInt + 1) + 16 * q7.1.toInt) + 16 * q10.1.toInt)) (μ := μ) t_a0 (by omega) (by omega) (by omega) (by omega) (by omega) (by omega) (by omega) (by omega) (by omega) (by omega) e397 h0ZScq19 e413 e398 h0Zkdq19 h1Zkdq19 (by omega) ⟨bks0, bkl0, bkw0, bna0, blb0, bnw0, bvn0, e397, h0ZScq19, e413, e398, e402, e403, e404, e405, e406, e407, e408, tks0, tkl0, tkw0, by (try dsimp only); omega, by (try dsimp only); omega, by (try dsimp only); omega, by (try dsimp only); omega, by (try dsimp only); omega, by (try dsimp only); omega, by (try dsimp only); omega, by (try dsimp only); omega, by (try dsimp only); omega, by (try dsimp only); omega, by (try dsimp only); omega, by (try dsimp only); omega, by (try dsimp only); omega, by (try dsimp only); omega, by (try dsimp only); omega, by (try dsimp only); omega, by (try dsimp only); omega, by (try dsimp only); omega, k416, k417, k419, k420, k421⟩ k422
                  refine wb eq22 ?_
                  have e443 := (Zfr.gi fq22 t_a0 (by decide)).trans e397
                  have e444 := (Zfr.gi fq22 t_a0 (by decide)).trans e398
                  have e445 := (Zfr.gi fq22 t_a0 (by decide)).trans e399
                  have e446 := (Zfr.gr fq22 t_a0 (by decide)).trans e400
                  have e447 := (Zfr.ai fq22 tqw_1 (by decide)).trans e401
                  have e448 := (Zfr.gr fq22 t_a0 (by decide)).trans e402
                  have e449 := (Zfr.gr fq22 t_a0 (by decide)).trans e403
                  have e450 := (Zfr.gr fq22 t_a0 (by decide)).trans e404
                  have e451 := (Zfr.ai fq22 tks0 (by decide)).trans e405
                  have e452 := (Zfr.ai fq22 tkl0 (by decide)).trans e406
                  have e453 := (Zfr.ai fq22 tkw0 (by decide)).trans e407
                  have e454 := (Zfr.gi fq22 t_a0 (by decide)).trans e408
                  have e455 := (Zfr.gr fq22 t_a0 (by decide)).trans e409
                  have e456 := (Zfr.gr fq22 t_a0 (by decide)).trans e410
                  have e457 := (Zfr.ai fq22 tw_2 (by decide)).trans e411
                  have e458 := (Zfr.ai fq22 tw_3 (by decide)).trans e412
                  have e459 := (Zfr.gr fq22 t_a0 (by decide)).trans h0Zkdq19
                  have e460 := (Zfr.ai fq22 tkkq26 (by decide)).trans e415
                  have e461 := (Zfr.ai fq22 tkkq19 (by decide)).trans h1Zkdq19
                  have k462 := TpK_fr k423 fq22 t_a0 Wq19 (by decide)
                  have F463 := Zfr.tr F424 fq22 (by decide)
                  obtain ⟨bf2q22, bt2q22, bd2q22, bksq22, bklq22, bkwq22, bnaq22, blbq22, bnwq22, bvnq22, h0ZVqq22, h1ZVqq22, h2ZVqq22, h3ZVqq22, h4ZVqq22, h5ZVqq22, h6ZVqq22, h7ZVqq22, h8ZVqq22, h9ZVqq22, h10ZVqq22, tksq22, tklq22, tkwq22, r0ZVqq22, r1ZVqq22, r2ZVqq22, r3ZVqq22, r4ZVqq22, r5ZVqq22, r6ZVqq22, r7ZVqq22, r8ZVqq22, r9ZVqq22, r10ZVqq22, r11ZVqq22, r12ZVqq22, r13ZVqq22, r14ZVqq22, r15ZVqq22, r16ZVqq22, r17ZVqq22, r18ZVqq22, r19ZVqq22, k0ZVqq22, k1ZVqq22, k2ZVqq22, k3ZVqq22, k4ZVqq22⟩ := pbZVqq22
                  have k0ZPBq22 := pbZPBq22
                  refine wb e445 ?_
                  have := i_sub (a := fr) (b := 1) (by omega) (by omega)
                  obtain ⟨c25, ec25, Wc25, fc25, gc25⟩ := pf_64_69 Wq22 t_a0 (x := (fr - 1)) (rgi (by omega) (by omega))
                  refine wb ec25 ?_
                  have e464 := (Zfr.gi fc25 t_a0 (by decide)).trans h0ZVqq22
                  have e465 := (Zfr.gi fc25 t_a0 (by decide)).trans h3ZVqq22
                  have e466 := (Zfr.gr fc25 t_a0 (by decide)).trans e446
                  have e467 := (Zfr.ai fc25 tqw_1 (by decide)).trans e447
                  have e468 := (Zfr.gr fc25 t_a0 (by decide)).trans h4ZVqq22
                  have e469 := (Zfr.gr fc25 t_a0 (by decide)).trans h5ZVqq22
                  have e470 := (Zfr.gr fc25 t_a0 (by decide)).trans h6ZVqq22
                  have e471 := (Zfr.ai fc25 tks0 (by decide)).trans e451
                  have e472 := (Zfr.ai fc25 tkl0 (by decide)).trans e452
                  have e473 := (Zfr.ai fc25 tkw0 (by decide)).trans e453
                  have e474 := (Zfr.gi fc25 t_a0 (by decide)).trans h10ZVqq22
                  have e475 := (Zfr.gr fc25 t_a0 (by decide)).trans e455
                  have e476 := (Zfr.gr fc25 t_a0 (by decide)).trans e456
                  have e477 := (Zfr.ai fc25 tw_2 (by decide)).trans e457
                  have e478 := (Zfr.ai fc25 tw_3 (by decide)).trans e458
                  have e479 := (Zfr.gr fc25 t_a0 (by decide)).trans e459
                  have e480 := (Zfr.ai fc25 tkkq26 (by decide)).trans e460
                  have e481 := (Zfr.ai fc25 tkkq19 (by decide)).trans e461
                  have e482 := (Zfr.gi fc25 t_a0 (by decide)).trans h1ZVqq22
                  have e483 := (Zfr.gi fc25 t_a0 (by decide)).trans h2ZVqq22
                  have e484 := (Zfr.ai fc25 tksq22 (by decide)).trans h7ZVqq22
                  have e485 := (Zfr.ai fc25 tklq22 (by decide)).trans h8ZVqq22
                  have e486 := (Zfr.ai fc25 tkwq22 (by decide)).trans h9ZVqq22
                  have k487 := TpK_fr k462 fc25 t_a0 Wq22 (by decide)
                  have k488 := GtP_fr k0ZVqq22 fc25 t_a0 Wq22 (by decide)
                  have sc490 := Sc_fr fc25 t_a0 (by decide) (by decide) (by decide)
                  have k489 := WyN_fr k1ZVqq22 fc25 t_a0 Wq22 (by decide) sc490
                  have k491 := TbI_fr k2ZVqq22 fc25 t_a0 Wq22 (by decide) sc490
                  have k492 := TbC_fr k3ZVqq22 fc25 t_a0 Wq22 (by decide) sc490
                  have k493 := TkN_fr k4ZVqq22 fc25 t_a0 Wq22 (by decide)
                  have k494 := PB_s0 k0ZPBq22 fc25 t_a0 Wq22 (by decide) sc490
                  have F495 := Zfr.tr F463 fc25 (by decide)
                  unfold f_Mo_unit_218
                  exact ⟨_, rfl, Wc25, F495, ⟨bf2q22, bt2q22, bd2q22, bksq22, bklq22, bkwq22, bnaq22, blbq22, bnwq22, bvnq22, e464, e482, e483, e465, e468, e469, e470, e484, e485, e486, e474, tksq22, tklq22, tkwq22, by (try dsimp only); omega, by (try dsimp only); omega, by (try dsimp only); omega, by (try dsimp only); omega, by (try dsimp only); omega, by (try dsimp only); omega, by (try dsimp only); omega, by (try dsimp only); omega, by (try dsimp only); omega, by (try dsimp only); omega, by (try dsimp only); omega, by (try dsimp only); omega, by (try dsimp only); omega, by (try dsimp only); omega, by (try dsimp only); omega, by (try dsimp only); omega, by (try dsimp only); omega, by (try dsimp only); omega, by (try dsimp only); omega, by (try dsimp only); omega, k488, k489, k491, k492, k493⟩, PI_pop k494 (by omega) (by omega) (by omega) (by omega) gc25 (by omega) (by omega)⟩
                · have := i_ge q19.1
                  have := i_up q19.1
                  have hq425 := i_ne hq425
                  unfold f_Mo_unit_214
                  obtain ⟨w18, ew18⟩ := go_64 Wq19 t_a0
                  refine wb ew18 ?_
                  obtain ⟨q17, eq17, Wq17, fq17, pbZSfq17⟩ := p_Mo_wrong hn Wq19  t_a0 (by omega) (by omega) (by omega) (by omega) h0ZScq19 e413
                  refine wb eq17 ?_
                  have e511 := (Zfr.gi fq17 t_a0 (by decide)).trans e397
                  have e512 := (Zfr.gi fq17 t_a0 (by decide)).trans e398
                  have e513 := (Zfr.gi fq17 t_a0 (by decide)).trans e399
                  have e514 := (Zfr.gr fq17 t_a0 (by decide)).trans e400
                  have e515 := (Zfr.ai fq17 tqw_1 (by decide)).trans e401
                  have e516 := (Zfr.gr fq17 t_a0 (by decide)).trans e402
                  have e517 := (Zfr.gr fq17 t_a0 (by decide)).trans e403
                  have e518 := (Zfr.gr fq17 t_a0 (by decide)).trans e404
                  have e519 := (Zfr.ai fq17 tks0 (by decide)).trans e405
                  have e520 := (Zfr.ai fq17 tkl0 (by decide)).trans e406
                  have e521 := (Zfr.ai fq17 tkw0 (by decide)).trans e407
                  have e522 := (Zfr.gi fq17 t_a0 (by decide)).trans e408
                  have e523 := (Zfr.gr fq17 t_a0 (by decide)).trans e409
                  have e524 := (Zfr.gr fq17 t_a0 (by decide)).trans e410
                  have e525 := (Zfr.ai fq17 tw_2 (by decide)).trans e411
                  have e526 := (Zfr.ai fq17 tw_3 (by decide)).trans e412
                  have e527 := (Zfr.gi fq17 t_a0 (by decide)).trans e413
                  have e528 := (Zfr.gr fq17 t_a0 (by decide)).trans h0Zkdq19
                  have e529 := (Zfr.ai fq17 tkkq26 (by decide)).trans e415
                  have e530 := (Zfr.ai fq17 tkkq19 (by decide)).trans h1Zkdq19
                  have k531 := GtP_fr k416 fq17 t_a0 Wq19 (by decide)
                  have sc533 : Sc q19.2 q17 a0 (0) (0) := by
                    obtain ⟨yf2, z0y, x0y, x1y⟩ := pbZSfq17
                    exact Sc_mk h0ZScq19 z0y e413 ((Zfr.gi (ci := 12) fq17 t_a0 (by decide)).trans e413) e398 ((Zfr.gi (ci := 12) fq17 t_a0 (by decide)).trans e398) (by omega)
                  have k532 := WyN_fr k417 fq17 t_a0 Wq19 (by decide) sc533
                  have k534 := TbI_fr k419 fq17 t_a0 Wq19 (by decide) sc533
                  have k535 := TbC_fr k420 fq17 t_a0 Wq19 (by decide) sc533
                  have k536 := TkN_fr k421 fq17 t_a0 Wq19 (by decide)
                  have k537 := PB_s0 k422 fq17 t_a0 Wq19 (by decide) sc533
                  have k538 := TpK_fr k423 fq17 t_a0 Wq19 (by decide)
                  have F539 := Zfr.tr F424 fq17 (by decide)
                  obtain ⟨bf2q17, h0ZSfq17, r0ZSfq17, r1ZSfq17⟩ := pbZSfq17
                  unfold f_Mo_unit_218
                  exact ⟨_, rfl, Wq17, F539, ⟨bf2q17, bt2q10, dv, bks0, bkl0, bkw0, bna0, blb0, bnw0, bvn0, e511, h0ZSfq17, e527, e512, e516, e517, e518, e519, e520, e521, e522, tks0, tkl0, tkw0, by (try dsimp only); omega, by (try dsimp only); omega, by (try dsimp only); omega, by (try dsimp only); omega, by (try dsimp only); omega, by (try dsimp only); omega, by (try dsimp only); omega, by (try dsimp only); omega, by (try dsimp only); omega, by (try dsimp only); omega, by (try dsimp only); omega, by (try dsimp only); omega, by (try dsimp only); omega, by (try dsimp only); omega, by (try dsimp only); omega, by (try dsimp only); omega, by (try dsimp only); omega, by (try dsimp only); omega, by (try dsimp only); omega, by (try dsimp only); omega, k531, k532, k534, k535, k536⟩, PI_flt h0ZSfq17 (by omega)⟩
              · have hq394 := i_ne hq394
                unfold f_Mo_unit_214
                obtain ⟨w18, ew18⟩ := go_64 Wq26 t_a0
                refine wb ew18 ?_
                obtain ⟨q17, eq17, Wq17, fq17, pbZSfq17⟩ := p_Mo_wrong hn Wq26  t_a0 (by omega) (by omega) (by omega) (by omega) h0ZScq26 e272
                refine wb eq17 ?_
                have e555 := (Zfr.gi fq17 t_a0 (by decide)).trans e256
                have e556 := (Zfr.gi fq17 t_a0 (by decide)).trans e257
                have e557 := (Zfr.gi fq17 t_a0 (by decide)).trans e258
                have e558 := (Zfr.gr fq17 t_a0 (by decide)).trans e259
                have e559 := (Zfr.ai fq17 tqw_1 (by decide)).trans e260
                have e560 := (Zfr.gr fq17 t_a0 (by decide)).trans e261
                have e561 := (Zfr.gr fq17 t_a0 (by decide)).trans e262
                have e562 := (Zfr.gr fq17 t_a0 (by decide)).trans e263
                have e563 := (Zfr.ai fq17 tks0 (by decide)).trans e264
                have e564 := (Zfr.ai fq17 tkl0 (by decide)).trans e265
                have e565 := (Zfr.ai fq17 tkw0 (by decide)).trans e266
                have e566 := (Zfr.gi fq17 t_a0 (by decide)).trans e267
                have e567 := (Zfr.gr fq17 t_a0 (by decide)).trans e268
                have e568 := (Zfr.gr fq17 t_a0 (by decide)).trans e269
                have e569 := (Zfr.ai fq17 tw_2 (by decide)).trans e270
                have e570 := (Zfr.ai fq17 tw_3 (by decide)).trans e271
                have e571 := (Zfr.gi fq17 t_a0 (by decide)).trans e272
                have e572 := (Zfr.gr fq17 t_a0 (by decide)).trans h0Zkdq26
                have e573 := (Zfr.ai fq17 tkkq26 (by decide)).trans h1Zkdq26
                have k574 := GtP_fr k273 fq17 t_a0 Wq26 (by decide)
                have sc576 : Sc q26.2 q17 a0 (0) (0) := by
                  obtain ⟨yf2, z0y, x0y, x1y⟩ := pbZSfq17
                  exact Sc_mk h0ZScq26 z0y e272 ((Zfr.gi (ci := 12) fq17 t_a0 (by decide)).trans e272) e257 ((Zfr.gi (ci := 12) fq17 t_a0 (by decide)).trans e257) (by omega)
                have k575 := WyN_fr k274 fq17 t_a0 Wq26 (by decide) sc576
                have k577 := TbI_fr k276 fq17 t_a0 Wq26 (by decide) sc576
                have k578 := TbC_fr k277 fq17 t_a0 Wq26 (by decide) sc576
                have k579 := TkN_fr k278 fq17 t_a0 Wq26 (by decide)
                have k580 := PB_s0 k279 fq17 t_a0 Wq26 (by decide) sc576
                have k581 := TpK_fr k280 fq17 t_a0 Wq26 (by decide)
                have F582 := Zfr.tr F281 fq17 (by decide)
                obtain ⟨bf2q17, h0ZSfq17, r0ZSfq17, r1ZSfq17⟩ := pbZSfq17
                unfold f_Mo_unit_218
                exact ⟨_, rfl, Wq17, F582, ⟨bf2q17, bt2q10, dv, bks0, bkl0, bkw0, bna0, blb0, bnw0, bvn0, e555, h0ZSfq17, e571, e556, e560, e561, e562, e563, e564, e565, e566, tks0, tkl0, tkw0, by (try dsimp only); omega, by (try dsimp only); omega, by (try dsimp only); omega, by (try dsimp only); omega, by (try dsimp only); omega, by (try dsimp only); omega, by (try dsimp only); omega, by (try dsimp only); omega, by (try dsimp only); omega, by (try dsimp only); omega, by (try dsimp only); omega, by (try dsimp only); omega, by (try dsimp only); omega, by (try dsimp only); omega, by (try dsimp only); omega, by (try dsimp only); omega, by (try dsimp only); omega, by (try dsimp only); omega, by (try dsimp only); omega, by (try dsimp only); omega, k574, k575, k577, k578, k579⟩, PI_flt h0ZSfq17 (by omega)⟩
          · have hq253 := i_ne hq253
            unfold f_Mo_unit_182
            refine wb h0ZSkq10 ?_
            refine wi (fun hq596 => ?_) (fun hq596 => ?_)
            · have hq596 := i_eq hq596
              exfalso
              omega
            · have hq596 := i_ne hq596
              unfold f_Mo_unit_214
              obtain ⟨w18, ew18⟩ := go_64 Wq10 t_a0
              refine wb ew18 ?_
              obtain ⟨q17, eq17, Wq17, fq17, pbZSfq17⟩ := p_Mo_wrong hn Wq10  t_a0 (by omega) (by omega) (by omega) (by omega) h0ZSkq10 h1ZSkq10
              refine wb eq17 ?_
              have e599 := (Zfr.gi fq17 t_a0 (by decide)).trans e227
              have e600 := (Zfr.gi fq17 t_a0 (by decide)).trans e228
              have e601 := (Zfr.gi fq17 t_a0 (by decide)).trans e229
              have e602 := (Zfr.gr fq17 t_a0 (by decide)).trans e230
              have e603 := (Zfr.ai fq17 tqw_1 (by decide)).trans e231
              have e604 := (Zfr.gr fq17 t_a0 (by decide)).trans e232
              have e605 := (Zfr.gr fq17 t_a0 (by decide)).trans e233
              have e606 := (Zfr.gr fq17 t_a0 (by decide)).trans e234
              have e607 := (Zfr.ai fq17 tks0 (by decide)).trans e235
              have e608 := (Zfr.ai fq17 tkl0 (by decide)).trans e236
              have e609 := (Zfr.ai fq17 tkw0 (by decide)).trans e237
              have e610 := (Zfr.gi fq17 t_a0 (by decide)).trans e238
              have e611 := (Zfr.gr fq17 t_a0 (by decide)).trans e239
              have e612 := (Zfr.gr fq17 t_a0 (by decide)).trans e240
              have e613 := (Zfr.ai fq17 tw_2 (by decide)).trans e241
              have e614 := (Zfr.ai fq17 tw_3 (by decide)).trans e242
              have e615 := (Zfr.gi fq17 t_a0 (by decide)).trans h1ZSkq10
              have k616 := GtP_fr k243 fq17 t_a0 Wq10 (by decide)
              have sc618 : Sc q10.2 q17 a0 (0) (0) := by
                obtain ⟨yf2, z0y, x0y, x1y⟩ := pbZSfq17
                exact Sc_mk h0ZSkq10 z0y h1ZSkq10 ((Zfr.gi (ci := 12) fq17 t_a0 (by decide)).trans h1ZSkq10) e228 ((Zfr.gi (ci := 12) fq17 t_a0 (by decide)).trans e228) (by omega)
              have k617 := WyN_fr k244 fq17 t_a0 Wq10 (by decide) sc618
              have k619 := TbI_fr k246 fq17 t_a0 Wq10 (by decide) sc618
              have k620 := TbC_fr k247 fq17 t_a0 Wq10 (by decide) sc618
              have k621 := TkN_fr k248 fq17 t_a0 Wq10 (by decide)
              have k622 := PB_s0 k249 fq17 t_a0 Wq10 (by decide) sc618
              have k623 := TpK_fr k250 fq17 t_a0 Wq10 (by decide)
              have F624 := Zfr.tr F251 fq17 (by decide)
              obtain ⟨bf2q17, h0ZSfq17, r0ZSfq17, r1ZSfq17⟩ := pbZSfq17
              unfold f_Mo_unit_218
              exact ⟨_, rfl, Wq17, F624, ⟨bf2q17, bt2q10, dv, bks0, bkl0, bkw0, bna0, blb0, bnw0, bvn0, e599, h0ZSfq17, e615, e600, e604, e605, e606, e607, e608, e609, e610, tks0, tkl0, tkw0, by (try dsimp only); omega, by (try dsimp only); omega, by (try dsimp only); omega, by (try dsimp only); omega, by (try dsimp only); omega, by (try dsimp only); omega, by (try dsimp only); omega, by (try dsimp only); omega, by (try dsimp only); omega, by (try dsimp only); omega, by (try dsimp only); omega, by (try dsimp only); omega, by (try dsimp only); omega, by (try dsimp only); omega, by (try dsimp only); omega, by (try dsimp only); omega, by (try dsimp only); omega, by (try dsimp only); omega, by (try dsimp only); omega, by (try dsimp only); omega, k616, k617, k619, k620, k621⟩, PI_flt h0ZSfq17 (by omega)⟩
        · have hq252 := i_ne hq252
          obtain ⟨w39, ew39⟩ := go_64 Wq10 t_a0
          refine wb ew39 ?_
          obtain ⟨q38, eq38, Wq38, fq38, pbZSwq38⟩ := p_Mo_within hn Wq10  t_a0 (by omega) (by omega) (by omega) (by omega) (by omega) (by omega) h0ZSkq10 h1ZSkq10 e228
          refine wb eq38 ?_
          have e641 := (Zfr.gi fq38 t_a0 (by decide)).trans e227
          have e642 := (Zfr.gi fq38 t_a0 (by decide)).trans e229
          have e643 := (Zfr.gr fq38 t_a0 (by decide)).trans e230
          have e644 := (Zfr.ai fq38 tqw_1 (by decide)).trans e231
          have e645 := (Zfr.gr fq38 t_a0 (by decide)).trans e232
          have e646 := (Zfr.gr fq38 t_a0 (by decide)).trans e233
          have e647 := (Zfr.gr fq38 t_a0 (by decide)).trans e234
          have e648 := (Zfr.ai fq38 tks0 (by decide)).trans e235
          have e649 := (Zfr.ai fq38 tkl0 (by decide)).trans e236
          have e650 := (Zfr.ai fq38 tkw0 (by decide)).trans e237
          have e651 := (Zfr.gi fq38 t_a0 (by decide)).trans e238
          have e652 := (Zfr.gr fq38 t_a0 (by decide)).trans e239
          have e653 := (Zfr.gr fq38 t_a0 (by decide)).trans e240
          have e654 := (Zfr.ai fq38 tw_2 (by decide)).trans e241
          have e655 := (Zfr.ai fq38 tw_3 (by decide)).trans e242
          have e656 := (Zfr.gi fq38 t_a0 (by decide)).trans h1ZSkq10
          have k657 := GtP_fr k243 fq38 t_a0 Wq10 (by decide)
          have sc659 : Sc q10.2 q38 a0 (0) (1) := by
            obtain ⟨yf2, yd2, z0y, z1y, x0y, x1y, x2y, x3y, x4y, x5y⟩ := pbZSwq38
            exact Sc_mk h0ZSkq10 z0y h1ZSkq10 ((Zfr.gi (ci := 12) fq38 t_a0 (by decide)).trans h1ZSkq10) e228 z1y (by omega)
          have k658 := WyN_fr k244 fq38 t_a0 Wq10 (by decide) sc659
          have k660 := TbI_fr k246 fq38 t_a0 Wq10 (by decide) sc659
          have k661 := TbC_fr k247 fq38 t_a0 Wq10 (by decide) sc659
          have k662 := TkN_fr k248 fq38 t_a0 Wq10 (by decide)
          have k663 := PB_sc k249 fq38 t_a0 Wq10 (by decide) sc659 (by omega)
          have k664 := TpK_fr k250 fq38 t_a0 Wq10 (by decide)
          have F665 := Zfr.tr F251 fq38 (by decide)
          obtain ⟨bf2q38, bd2q38, h0ZSwq38, h1ZSwq38, r0ZSwq38, r1ZSwq38, r2ZSwq38, r3ZSwq38, r4ZSwq38, r5ZSwq38⟩ := pbZSwq38
          refine wb e652 ?_
          obtain ⟨c41, ec41, Wc41, fc41, gc41⟩ := pa_115 Wq38 tw_2 (i := a1) (by omega) (by omega) (x := 2) (trivial)
          refine wb ec41 ?_
          have e666 := (Zfr.gi fc41 t_a0 (by decide)).trans e641
          have e667 := (Zfr.gi fc41 t_a0 (by decide)).trans e642
          have e668 := (Zfr.gr fc41 t_a0 (by decide)).trans e643
          have e669 := (Zfr.ai fc41 tqw_1 (by decide)).trans e644
          have e670 := (Zfr.gr fc41 t_a0 (by decide)).trans e645
          have e671 := (Zfr.gr fc41 t_a0 (by decide)).trans e646
          have e672 := (Zfr.gr fc41 t_a0 (by decide)).trans e647
          have e673 := (Zfr.ai fc41 tks0 (by decide)).trans e648
          have e674 := (Zfr.ai fc41 tkl0 (by decide)).trans e649
          have e675 := (Zfr.ai fc41 tkw0 (by decide)).trans e650
          have e676 := (Zfr.gi fc41 t_a0 (by decide)).trans e651
          have e677 := (Zfr.gr fc41 t_a0 (by decide)).trans e652
          have e678 := (Zfr.gr fc41 t_a0 (by decide)).trans e653
          have e679 := (Zfr.ai fc41 tw_3 (by decide)).trans e655
          have e680 := (Zfr.gi fc41 t_a0 (by decide)).trans e656
          have e681 := (Zfr.gi fc41 t_a0 (by decide)).trans h0ZSwq38
          have e682 := (Zfr.gi fc41 t_a0 (by decide)).trans h1ZSwq38
          have k683 := GtP_fr k657 fc41 t_a0 Wq38 (by decide)
          have sc685 := Sc_fr fc41 t_a0 (by decide) (by decide) (by decide)
          have k684 := WyN_fr k658 fc41 t_a0 Wq38 (by decide) sc685
          have k686 := TbI_fr k660 fc41 t_a0 Wq38 (by decide) sc685
          have k687 := TbC_fr k661 fc41 t_a0 Wq38 (by decide) sc685
          have k688 := TkN_fr k662 fc41 t_a0 Wq38 (by decide)
          have k689 := PB_w67 k663 Wq38 t_a0 fc41 e652 ec41 rfl
          have k690 := TpK_w67 k664 Wq38 t_a0 fc41 e652 ec41 rfl
          have F691 := Zfr.tr F665 fc41 (by decide)
          obtain ⟨w43, ew43⟩ := go_64 Wc41 t_a0
          refine wb ew43 ?_
          have := li_3
          obtain ⟨q42, eq42, Wq42, fq42, po0q42⟩ := p_Mo_frame hn Wc41 (a1 := 3) t_a0 (by omega) (by omega) e667
          refine wb eq42 ?_
          have e693 := (Zfr.gi fq42 t_a0 (by decide)).trans e666
          have e694 := (Zfr.gr fq42 t_a0 (by decide)).trans e668
          have e695 := (Zfr.gr fq42 t_a0 (by decide)).trans e670
          have e696 := (Zfr.gr fq42 t_a0 (by decide)).trans e671
          have e697 := (Zfr.gr fq42 t_a0 (by decide)).trans e672
          have e698 := (Zfr.ai fq42 tks0 (by decide)).trans e673
          have e699 := (Zfr.ai fq42 tkl0 (by decide)).trans e674
          have e700 := (Zfr.ai fq42 tkw0 (by decide)).trans e675
          have e701 := (Zfr.gi fq42 t_a0 (by decide)).trans e676
          have e702 := (Zfr.gr fq42 t_a0 (by decide)).trans e677
          have e703 := (Zfr.gr fq42 t_a0 (by decide)).trans e678
          have e704 := (Zfr.gi fq42 t_a0 (by decide)).trans e680
          have e705 := (Zfr.gi fq42 t_a0 (by decide)).trans e681
          have e706 := (Zfr.gi fq42 t_a0 (by decide)).trans e682
          have k707 := GtP_fr k683 fq42 t_a0 Wc41 (by decide)
          have sc709 := Sc_fr fq42 t_a0 (by decide) (by decide) (by decide)
          have k708 := WyN_fr k684 fq42 t_a0 Wc41 (by decide) sc709
          have k710 := TbI_fr k686 fq42 t_a0 Wc41 (by decide) sc709
          have k711 := TbC_fr k687 fq42 t_a0 Wc41 (by decide) sc709
          have k712 := TkN_fr k688 fq42 t_a0 Wc41 (by decide)
          have k713 := PI_push k689 k690 (psP (by omega) (by omega) (by omega) (by omega) (by omega) (by omega) (by omega)) (by omega) (by omega) (fun y_ => okt (by omega)) e681 e680 (by omega) fq42 t_a0 Wc41 po0q42 e667 (by omega)
          have F715 := Zfr.tr F691 fq42 (by decide)
          unfold f_Mo_unit_218
          exact ⟨_, rfl, Wq42, F715, ⟨bf2q38, bt2q10, bd2q38, bks0, bkl0, bkw0, bna0, blb0, bnw0, bvn0, e693, e705, e704, e706, e695, e696, e697, e698, e699, e700, e701, tks0, tkl0, tkw0, by (try dsimp only); omega, by (try dsimp only); omega, by (try dsimp only); omega, by (try dsimp only); omega, by (try dsimp only); omega, by (try dsimp only); omega, by (try dsimp only); omega, by (try dsimp only); omega, by (try dsimp only); omega, by (try dsimp only); omega, by (try dsimp only); omega, by (try dsimp only); omega, by (try dsimp only); omega, by (try dsimp only); omega, by (try dsimp only); omega, by (try dsimp only); omega, by (try dsimp only); omega, by (try dsimp only); omega, by (try dsimp only); omega, by (try dsimp only); omega, k707, k708, k710, k711, k712⟩, k713⟩
      · have := li_0
        have hq224 := i_ne hq224
        obtain ⟨w45, ew45⟩ := go_64 Wq7 t_a0
        refine wb ew45 ?_
        obtain ⟨q44, eq44, Wq44, fq44, pbZSwq44⟩ := p_Mo_within hn Wq7  t_a0 (by omega) (by omega) (by omega) (by omega) (by omega) (by omega) h0ZSkq7 h1ZSkq7 e200
        refine wb eq44 ?_
        have e730 := (Zfr.gi fq44 t_a0 (by decide)).trans e199
        have e731 := (Zfr.gi fq44 t_a0 (by decide)).trans e201
        have e732 := (Zfr.gr fq44 t_a0 (by decide)).trans e202
        have e733 := (Zfr.ai fq44 tqw_1 (by decide)).trans e203
        have e734 := (Zfr.gr fq44 t_a0 (by decide)).trans e204
        have e735 := (Zfr.gr fq44 t_a0 (by decide)).trans e205
        have e736 := (Zfr.gr fq44 t_a0 (by decide)).trans e206
        have e737 := (Zfr.ai fq44 tks0 (by decide)).trans e207
        have e738 := (Zfr.ai fq44 tkl0 (by decide)).trans e208
        have e739 := (Zfr.ai fq44 tkw0 (by decide)).trans e209
        have e740 := (Zfr.gi fq44 t_a0 (by decide)).trans e210
        have e741 := (Zfr.gr fq44 t_a0 (by decide)).trans e211
        have e742 := (Zfr.gr fq44 t_a0 (by decide)).trans e212
        have e743 := (Zfr.ai fq44 tw_2 (by decide)).trans e213
        have e744 := (Zfr.ai fq44 tw_3 (by decide)).trans e214
        have e745 := (Zfr.gi fq44 t_a0 (by decide)).trans h1ZSkq7
        have k746 := GtP_fr k215 fq44 t_a0 Wq7 (by decide)
        have sc748 : Sc q7.2 q44 a0 (0) (1) := by
          obtain ⟨yf2, yd2, z0y, z1y, x0y, x1y, x2y, x3y, x4y, x5y⟩ := pbZSwq44
          exact Sc_mk h0ZSkq7 z0y h1ZSkq7 ((Zfr.gi (ci := 12) fq44 t_a0 (by decide)).trans h1ZSkq7) e200 z1y (by omega)
        have k747 := WyN_fr k216 fq44 t_a0 Wq7 (by decide) sc748
        have k749 := TbI_fr k218 fq44 t_a0 Wq7 (by decide) sc748
        have k750 := TbC_fr k219 fq44 t_a0 Wq7 (by decide) sc748
        have k751 := TkN_fr k220 fq44 t_a0 Wq7 (by decide)
        have k752 := PB_sc k221 fq44 t_a0 Wq7 (by decide) sc748 (by omega)
        have k753 := TpK_fr k222 fq44 t_a0 Wq7 (by decide)
        have F754 := Zfr.tr F223 fq44 (by decide)
        obtain ⟨bf2q44, bd2q44, h0ZSwq44, h1ZSwq44, r0ZSwq44, r1ZSwq44, r2ZSwq44, r3ZSwq44, r4ZSwq44, r5ZSwq44⟩ := pbZSwq44
        refine wb e741 ?_
        obtain ⟨c47, ec47, Wc47, fc47, gc47⟩ := pa_115 Wq44 tw_2 (i := a1) (by omega) (by omega) (x := 1) (trivial)
        refine wb ec47 ?_
        have e755 := (Zfr.gi fc47 t_a0 (by decide)).trans e730
        have e756 := (Zfr.gi fc47 t_a0 (by decide)).trans e731
        have e757 := (Zfr.gr fc47 t_a0 (by decide)).trans e732
        have e758 := (Zfr.ai fc47 tqw_1 (by decide)).trans e733
        have e759 := (Zfr.gr fc47 t_a0 (by decide)).trans e734
        have e760 := (Zfr.gr fc47 t_a0 (by decide)).trans e735
        have e761 := (Zfr.gr fc47 t_a0 (by decide)).trans e736
        have e762 := (Zfr.ai fc47 tks0 (by decide)).trans e737
        have e763 := (Zfr.ai fc47 tkl0 (by decide)).trans e738
        have e764 := (Zfr.ai fc47 tkw0 (by decide)).trans e739
        have e765 := (Zfr.gi fc47 t_a0 (by decide)).trans e740
        have e766 := (Zfr.gr fc47 t_a0 (by decide)).trans e741
        have e767 := (Zfr.gr fc47 t_a0 (by decide)).trans e742
        have e768 := (Zfr.ai fc47 tw_3 (by decide)).trans e744
        have e769 := (Zfr.gi fc47 t_a0 (by decide)).trans e745
        have e770 := (Zfr.gi fc47 t_a0 (by decide)).trans h0ZSwq44
        have e771 := (Zfr.gi fc47 t_a0 (by decide)).trans h1ZSwq44
        have k772 := GtP_fr k746 fc47 t_a0 Wq44 (by decide)
        have sc774 := Sc_fr fc47 t_a0 (by decide) (by decide) (by decide)
        have k773 := WyN_fr k747 fc47 t_a0 Wq44 (by decide) sc774
        have k775 := TbI_fr k749 fc47 t_a0 Wq44 (by decide) sc774
        have k776 := TbC_fr k750 fc47 t_a0 Wq44 (by decide) sc774
        have k777 := TkN_fr k751 fc47 t_a0 Wq44 (by decide)
        have k778 := PB_w67 k752 Wq44 t_a0 fc47 e741 ec47 rfl
        have k779 := TpK_w67 k753 Wq44 t_a0 fc47 e741 ec47 rfl
        have F780 := Zfr.tr F754 fc47 (by decide)
        obtain ⟨w49, ew49⟩ := go_64 Wc47 t_a0
        refine wb ew49 ?_
        have := li_5
        obtain ⟨q48, eq48, Wq48, fq48, po0q48⟩ := p_Mo_frame hn Wc47 (a1 := 5) t_a0 (by omega) (by omega) e756
        refine wb eq48 ?_
        have e782 := (Zfr.gi fq48 t_a0 (by decide)).trans e755
        have e783 := (Zfr.gr fq48 t_a0 (by decide)).trans e757
        have e784 := (Zfr.gr fq48 t_a0 (by decide)).trans e759
        have e785 := (Zfr.gr fq48 t_a0 (by decide)).trans e760
        have e786 := (Zfr.gr fq48 t_a0 (by decide)).trans e761
        have e787 := (Zfr.ai fq48 tks0 (by decide)).trans e762
        have e788 := (Zfr.ai fq48 tkl0 (by decide)).trans e763
        have e789 := (Zfr.ai fq48 tkw0 (by decide)).trans e764
        have e790 := (Zfr.gi fq48 t_a0 (by decide)).trans e765
        have e791 := (Zfr.gr fq48 t_a0 (by decide)).trans e766
        have e792 := (Zfr.gr fq48 t_a0 (by decide)).trans e767
        have e793 := (Zfr.gi fq48 t_a0 (by decide)).trans e769
        have e794 := (Zfr.gi fq48 t_a0 (by decide)).trans e770
        have e795 := (Zfr.gi fq48 t_a0 (by decide)).trans e771
        have k796 := GtP_fr k772 fq48 t_a0 Wc47 (by decide)
        have sc798 := Sc_fr fq48 t_a0 (by decide) (by decide) (by decide)
        have k797 := WyN_fr k773 fq48 t_a0 Wc47 (by decide) sc798
        have k799 := TbI_fr k775 fq48 t_a0 Wc47 (by decide) sc798
        have k800 := TbC_fr k776 fq48 t_a0 Wc47 (by decide) sc798
        have k801 := TkN_fr k777 fq48 t_a0 Wc47 (by decide)
        have k802 := PI_push k778 k779 (psM (by omega) (by omega) (by omega) (by omega) (by omega) (by omega) (by omega)) (by omega) (by omega) (fun y_ => okt (by omega)) e770 e769 (by omega) fq48 t_a0 Wc47 po0q48 e756 (by omega)
        have F804 := Zfr.tr F780 fq48 (by decide)
        unfold f_Mo_unit_218
        exact ⟨_, rfl, Wq48, F804, ⟨bf2q44, bt2q7, bd2q44, bks0, bkl0, bkw0, bna0, blb0, bnw0, bvn0, e782, e794, e793, e795, e784, e785, e786, e787, e788, e789, e790, tks0, tkl0, tkw0, by (try dsimp only); omega, by (try dsimp only); omega, by (try dsimp only); omega, by (try dsimp only); omega, by (try dsimp only); omega, by (try dsimp only); omega, by (try dsimp only); omega, by (try dsimp only); omega, by (try dsimp only); omega, by (try dsimp only); omega, by (try dsimp only); omega, by (try dsimp only); omega, by (try dsimp only); omega, by (try dsimp only); omega, by (try dsimp only); omega, by (try dsimp only); omega, by (try dsimp only); omega, by (try dsimp only); omega, by (try dsimp only); omega, by (try dsimp only); omega, k796, k797, k799, k800, k801⟩, k802⟩

end ZzT
