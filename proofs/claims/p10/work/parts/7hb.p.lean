section ZzT
abbrev M_Mo_nodeOf_172 : List (Nat × Nat) := [(64, 18), (64, 19), (64, 20), (83, 0)]
set_option maxRecDepth 100000 in
set_option maxHeartbeats 400000 in
theorem p_Mo_nodeOf_172 {nf : Nat} (hn : 8589934592 ≤ nf) {G : List Nat} {c : Zc} (W : Zwt zty G c) {x0 : Nat} {x2 : Int32} {ni : Int32} {bc : Int32} {n1 : Int32} {pv : Int32} {fv : Int32} {tv : Int32} {dv : Int32} (t_x0 : G[x0]? = some 64) (pl_pv : 0 ≤ pv.toInt) (pu_pv : pv.toInt ≤ 8) (pl_fv : 0 ≤ fv.toInt) (pu_fv : fv.toInt ≤ 6) (pl_tv : 0 ≤ tv.toInt) (pu_tv : tv.toInt ≤ 200) (pl_dv : 0 ≤ dv.toInt) (pu_dv : dv.toInt ≤ 11) (eh_pv : zgi c x0 12 25 = some pv) (eh_fv : zgi c x0 12 19 = some fv) (eh_tv : zgi c x0 12 18 = some tv) (eh_dv : zgi c x0 12 53 = some dv) (pp_4 : (¬ fv.toInt = 0 ∨ (0 ≤ x2.toInt ∧ x2.toInt ≤ 7))) (hb_ZN : ZN G c x0 pv fv tv dv ni bc n1) : ∃ q, f_Mo_nodeOf_172 nf x0 x2 c = some q ∧ Zwt zty G q.2 ∧ Zfr G M_Mo_nodeOf_172 c q.2 ∧ ZNn G q.2 x0 pv fv tv dv ni bc n1 1 q.1 := by
  have F0 : Zfr G M_Mo_nodeOf_172 c c := Zfr.rf
  unfold f_Mo_nodeOf_172
  obtain ⟨bks0, bkl0, bna0, blb0, bvn0, h0ZN0, h1ZN0, h2ZN0, h3ZN0, h4ZN0, h5ZN0, h6ZN0, h7ZN0, h8ZN0, tks0, tkl0, r0ZN0, r1ZN0, r2ZN0, r3ZN0, r4ZN0, r5ZN0, r6ZN0, r7ZN0, r8ZN0, r9ZN0, r10ZN0, r11ZN0, r12ZN0, r13ZN0, r14ZN0, r15ZN0, k0ZN0, k1ZN0, k2ZN0, k3ZN0, k4ZN0⟩ := hb_ZN
  have := vfi_e h2ZN0
  have L6 : ∃ b, zlp (fun a : Nat × Int32 × Zc => g_Mo_nodeOf_172 nf a.1 a.2.1 a.2.2) nf (x0, x2, c) = some b ∧ (fun b : (Nat × Int32 × Zc) => x0 = b.1 ∧ x2 = b.2.1 ∧ Zwt zty G b.2.2 ∧ Zfr G ([(64, 18), (64, 19), (64, 20), (83, 0)] : List (Nat × Nat)) c b.2.2 ∧ ZSz G b.2.2 x0 fv tv) b := by
    refine wlp (fun a : Nat × Int32 × Zc => x0 = a.1 ∧ x2 = a.2.1 ∧ Zwt zty G a.2.2 ∧ Zfr G ([(64, 18), (64, 19), (64, 20), (83, 0)] : List (Nat × Nat)) c a.2.2 ∧ ZSz G a.2.2 x0 fv tv) (fun a => (201 - vfi a.2.2 x0 18).toNat) (fun b : (Nat × Int32 × Zc) => x0 = b.1 ∧ x2 = b.2.1 ∧ Zwt zty G b.2.2 ∧ Zfr G ([(64, 18), (64, 19), (64, 20), (83, 0)] : List (Nat × Nat)) c b.2.2 ∧ ZSz G b.2.2 x0 fv tv) ?_ ?_ ?_
    · rintro ⟨x0_7, x2_7, c_7⟩ hI
      try dsimp only at hI ⊢
      obtain ⟨rfl, rfl, WLc_7, FLc_7, hBZSz_7⟩ := hI
      have e8 := (Zfr.gi FLc_7 t_x0 (by decide)).trans h0ZN0
      have e9 := (Zfr.gi FLc_7 t_x0 (by decide)).trans h3ZN0
      have e10 := (Zfr.gr FLc_7 t_x0 (by decide)).trans h4ZN0
      have e11 := (Zfr.gr FLc_7 t_x0 (by decide)).trans h5ZN0
      have e12 := (Zfr.ai FLc_7 tks0 (by decide)).trans h6ZN0
      have e13 := (Zfr.ai FLc_7 tkl0 (by decide)).trans h7ZN0
      have e14 := (Zfr.gi FLc_7 t_x0 (by decide)).trans h8ZN0
      have k15 := GtP_fr k0ZN0 FLc_7 t_x0 W (by decide)
      have sc17 : Sc c c_7 x0 (0) (0) := by
        obtain ⟨yf2, yt2, z0y, z1y, x0y, x1y, x2y, x3y, x4y, x5y⟩ := hBZSz_7
        exact Sc_mk h1ZN0 z0y h2ZN0 z1y h3ZN0 ((Zfr.gi (ci := 12) FLc_7 t_x0 (by decide)).trans h3ZN0) (by omega)
      have k16 := WyN_fr k1ZN0 FLc_7 t_x0 W (by decide) sc17
      have k18 := TbI_fr k2ZN0 FLc_7 t_x0 W (by decide) sc17
      have k19 := TbC_fr k3ZN0 FLc_7 t_x0 W (by decide) sc17
      have k20 := TkN_fr k4ZN0 FLc_7 t_x0 W (by decide)
      obtain ⟨bf2_7, bt2_7, h0ZSz_7, h1ZSz_7, r0ZSz_7, r1ZSz_7, r2ZSz_7, r3ZSz_7, r4ZSz_7, r5ZSz_7⟩ := hBZSz_7
      unfold g_Mo_nodeOf_172
      have := vfi_e h1ZSz_7
      refine wb h0ZSz_7 ?_
      refine wi (fun hq22 => ?_) (fun hq22 => ?_)
      · have := li_0
        have hq22 := i_eq hq22
        obtain ⟨w13, ew13⟩ := go_64 WLc_7 t_x0
        refine wb ew13 ?_
        have := li_58
        obtain ⟨q12, eq12, Wq12, fq12, pl0q12, pu0q12, pbZSkq12⟩ := p_Mo_takes hn WLc_7 (a1 := 58) t_x0 (by omega) (by omega) (by omega) (by omega) h0ZSz_7 h1ZSz_7
        refine wb eq12 ?_
        have e25 := (Zfr.gi fq12 t_x0 (by decide)).trans e8
        have e26 := (Zfr.gi fq12 t_x0 (by decide)).trans e9
        have e27 := (Zfr.gr fq12 t_x0 (by decide)).trans e10
        have e28 := (Zfr.gr fq12 t_x0 (by decide)).trans e11
        have e29 := (Zfr.ai fq12 tks0 (by decide)).trans e12
        have e30 := (Zfr.ai fq12 tkl0 (by decide)).trans e13
        have e31 := (Zfr.gi fq12 t_x0 (by decide)).trans e14
        have k32 := GtP_fr k15 fq12 t_x0 WLc_7 (by decide)
        have sc34 : Sc c_7 q12.2 x0 (q12.1.toInt) (0) := by
          obtain ⟨yf2, yt2, z0y, z1y, x0y, x1y, x2y, x3y, x4y, x5y, x6y⟩ := pbZSkq12
          exact Sc_mk h0ZSz_7 z0y h1ZSz_7 z1y e9 ((Zfr.gi (ci := 12) fq12 t_x0 (by decide)).trans e9) (by omega)
        have k33 := WyN_fr k16 fq12 t_x0 WLc_7 (by decide) sc34
        have k35 := TbI_fr k18 fq12 t_x0 WLc_7 (by decide) sc34
        have k36 := TbC_fr k19 fq12 t_x0 WLc_7 (by decide) sc34
        have k37 := TkN_fr k20 fq12 t_x0 WLc_7 (by decide)
        have F38 := Zfr.tr FLc_7 fq12 (by decide)
        obtain ⟨bf2q12, bt2q12, h0ZSkq12, h1ZSkq12, r0ZSkq12, r1ZSkq12, r2ZSkq12, r3ZSkq12, r4ZSkq12, r5ZSkq12, r6ZSkq12⟩ := pbZSkq12
        refine wi (fun hq39 => ?_) (fun hq39 => ?_)
        · have hq39 := i_eq hq39
          exact lInr ⟨rfl, rfl, Wq12, F38, ⟨bf2q12, bt2q12, h0ZSkq12, h1ZSkq12, by (try dsimp only); omega, by (try dsimp only); omega, by (try dsimp only); omega, by (try dsimp only); omega, by (try dsimp only); omega, by (try dsimp only); omega⟩⟩
        · have hq39 := i_ne hq39
          obtain ⟨w16, ew16⟩ := go_64 Wq12 t_x0
          refine wb ew16 ?_
          obtain ⟨q15, eq15, Wq15, fq15, pbZScq15, pbZkdq15⟩ := p_Mo_kind hn Wq12  t_x0 (by omega) (by omega) (by omega) (by omega) h0ZSkq12 h1ZSkq12
          refine wb eq15 ?_
          have e44 := (Zfr.gi fq15 t_x0 (by decide)).trans e25
          have e45 := (Zfr.gi fq15 t_x0 (by decide)).trans e26
          have e46 := (Zfr.gr fq15 t_x0 (by decide)).trans e27
          have e47 := (Zfr.gr fq15 t_x0 (by decide)).trans e28
          have e48 := (Zfr.ai fq15 tks0 (by decide)).trans e29
          have e49 := (Zfr.ai fq15 tkl0 (by decide)).trans e30
          have e50 := (Zfr.gi fq15 t_x0 (by decide)).trans e31
          have e51 := (Zfr.gi fq15 t_x0 (by decide)).trans h1ZSkq12
          have k52 := GtP_fr k32 fq15 t_x0 Wq12 (by decide)
          have sc54 : Sc q12.2 q15.2 x0 (0) (0) := by
            obtain ⟨yf2, z0y, x0y, x1y, x2y, x3y⟩ := pbZScq15
            exact Sc_mk h0ZSkq12 z0y h1ZSkq12 ((Zfr.gi (ci := 12) fq15 t_x0 (by decide)).trans h1ZSkq12) e26 ((Zfr.gi (ci := 12) fq15 t_x0 (by decide)).trans e26) (by omega)
          have k53 := WyN_fr k33 fq15 t_x0 Wq12 (by decide) sc54
          have k55 := TbI_fr k35 fq15 t_x0 Wq12 (by decide) sc54
          have k56 := TbC_fr k36 fq15 t_x0 Wq12 (by decide) sc54
          have k57 := TkN_fr k37 fq15 t_x0 Wq12 (by decide)
          have F58 := Zfr.tr F38 fq15 (by decide)
          obtain ⟨bf2q15, h0ZScq15, r0ZScq15, r1ZScq15, r2ZScq15, r3ZScq15⟩ := pbZScq15
          obtain ⟨bkkq15, h0Zkdq15, h1Zkdq15, tkkq15⟩ := pbZkdq15
          refine wi (fun hq59 => ?_) (fun hq59 => ?_)
          · have := li_3
            have := i_ge q15.1
            have := i_up q15.1
            have hq59 := i_eq hq59
            obtain ⟨v18, ev18, tv18⟩ := gf_64_15 Wq15 t_x0
            refine wb ev18 ?_
            refine wb e51 ?_
            obtain ⟨v20, ev20, _⟩ := ga_75 Wq15 tv18 (i := bt2q12) (by omega) (by omega)
            have ht60 := TkM_at (k57 _ _ h0Zkdq15 ev18) h1Zkdq15 ev20
            have := tkr3 ht60 (by omega)
            refine wb ev20 ?_
            obtain ⟨w22, ew22⟩ := go_64 Wq15 t_x0
            refine wb ew22 ?_
            obtain ⟨q21, eq21, Wq21, fq21, pbZSq21⟩ := p_Mo_pass hn Wq15  t_x0 (by omega) (by omega) (by omega) (by omega) h0ZScq15 e51
            refine wb eq21 ?_
            have e63 := (Zfr.gi fq21 t_x0 (by decide)).trans e44
            have e64 := (Zfr.gi fq21 t_x0 (by decide)).trans e45
            have e65 := (Zfr.gr fq21 t_x0 (by decide)).trans e46
            have e66 := (Zfr.gr fq21 t_x0 (by decide)).trans e47
            have e67 := (Zfr.ai fq21 tks0 (by decide)).trans e48
            have e68 := (Zfr.ai fq21 tkl0 (by decide)).trans e49
            have e69 := (Zfr.gi fq21 t_x0 (by decide)).trans e50
            have e70 := (Zfr.gr fq21 t_x0 (by decide)).trans h0Zkdq15
            have e71 := (Zfr.ai fq21 tkkq15 (by decide)).trans h1Zkdq15
            have e72 := (Zfr.gr fq21 t_x0 (by decide)).trans ev18
            have e73 := (Zfr.ai fq21 tv18 (by decide)).trans ev20
            have k74 := GtP_fr k52 fq21 t_x0 Wq15 (by decide)
            have := li_1
            have sc76 : Sc q15.2 q21 x0 (1) (0) := by
              obtain ⟨yf2, yt2, z0y, z1y, x0y, x1y, x2y, x3y, x4y, x5y⟩ := pbZSq21
              exact Sc_mk h0ZScq15 z0y e51 z1y e45 ((Zfr.gi (ci := 12) fq21 t_x0 (by decide)).trans e45) (by omega)
            have k75 := WyN_fr k53 fq21 t_x0 Wq15 (by decide) sc76
            have k77 := TbI_fr k55 fq21 t_x0 Wq15 (by decide) sc76
            have k78 := TbC_fr k56 fq21 t_x0 Wq15 (by decide) sc76
            have k79 := TkN_fr k57 fq21 t_x0 Wq15 (by decide)
            have F80 := Zfr.tr F58 fq21 (by decide)
            obtain ⟨bf2q21, bt2q21, h0ZSq21, h1ZSq21, r0ZSq21, r1ZSq21, r2ZSq21, r3ZSq21, r4ZSq21, r5ZSq21⟩ := pbZSq21
            refine wb h0ZSq21 ?_
            refine wi (fun hq81 => ?_) (fun hq81 => ?_)
            · have hq81 := i_eq hq81
              obtain ⟨v25, ev25, tv25⟩ := gf_64_30 Wq21 t_x0
              refine wb ev25 ?_
              refine wb e63 ?_
              have : 0 ≤ x2.toInt ∧ x2.toInt ≤ 7 := by omega
              obtain ⟨v27, ev27, lv27, uv27⟩ := gf_64_56 Wq21 t_x0
              refine wb ev27 ?_
              have := li_80
              have := i_mull (a := 80) (b := pv) (n := 80) li_80 (by omega) (by omega)
              have := i_add (a := (80 * pv)) (b := v27) (by omega) (by omega)
              have := li_8
              have := i_mulr (a := ((80 * pv) + v27)) (b := 8) (n := 8) li_8 (by omega) (by omega)
              have := i_add (a := (((80 * pv) + v27) * 8)) (b := x2) (by omega) (by omega)
              obtain ⟨v28, ev28, _⟩ := ga_83 Wq21 tv25 (i := ((((80 * pv) + v27) * 8) + x2)) (by omega) (by omega)
              refine wb ev28 ?_
              obtain ⟨c29, ec29, Wc29, fc29, gc29⟩ := pa_83 Wq21 tv25 (i := ((((80 * pv) + v27) * 8) + x2)) (by omega) (by omega) (x := (v28 ||| ((1 : Int32) <<< (v20 &&& 31)))) (trivial)
              refine wb ec29 ?_
              have e82 := (Zfr.gi fc29 t_x0 (by decide)).trans e63
              have e83 := (Zfr.gi fc29 t_x0 (by decide)).trans e64
              have e84 := (Zfr.gr fc29 t_x0 (by decide)).trans e65
              have e85 := (Zfr.gr fc29 t_x0 (by decide)).trans e66
              have e86 := (Zfr.ai fc29 tks0 (by decide)).trans e67
              have e87 := (Zfr.ai fc29 tkl0 (by decide)).trans e68
              have e88 := (Zfr.gi fc29 t_x0 (by decide)).trans e69
              have e89 := (Zfr.gr fc29 t_x0 (by decide)).trans e70
              have e90 := (Zfr.ai fc29 tkkq15 (by decide)).trans e71
              have e91 := (Zfr.gr fc29 t_x0 (by decide)).trans e72
              have e92 := (Zfr.ai fc29 tv18 (by decide)).trans e73
              have e93 := (Zfr.gi fc29 t_x0 (by decide)).trans h0ZSq21
              have e94 := (Zfr.gi fc29 t_x0 (by decide)).trans h1ZSq21
              have k95 := GtP_fr k74 fc29 t_x0 Wq21 (by decide)
              have sc97 := Sc_fr fc29 t_x0 (by decide) (by decide) (by decide)
              have k96 := WyN_fr k75 fc29 t_x0 Wq21 (by decide) sc97
              have k98 := TbI_fr k77 fc29 t_x0 Wq21 (by decide) sc97
              have k99 := TbC_fr k78 fc29 t_x0 Wq21 (by decide) sc97
              have k100 := TkN_fr k79 fc29 t_x0 Wq21 (by decide)
              have F101 := Zfr.tr F80 fc29 (by decide)
              unfold f_Mo_nodeOf_252
              have := vfi_e e94
              exact lInl ⟨rfl, rfl, Wc29, F101, ⟨bf2q21, bt2q21, e93, e94, by (try dsimp only); omega, by (try dsimp only); omega, by (try dsimp only); omega, by (try dsimp only); omega, by (try dsimp only); omega, by (try dsimp only); omega⟩⟩ (by (try dsimp only); omega)
            · have hq81 := i_ne hq81
              unfold f_Mo_nodeOf_252
              have := vfi_e h1ZSq21
              exact lInl ⟨rfl, rfl, Wq21, F80, ⟨bf2q21, bt2q21, h0ZSq21, h1ZSq21, by (try dsimp only); omega, by (try dsimp only); omega, by (try dsimp only); omega, by (try dsimp only); omega, by (try dsimp only); omega, by (try dsimp only); omega⟩⟩ (by (try dsimp only); omega)
          · have := li_3
            have := i_ge q15.1
            have := i_up q15.1
            have hq59 := i_ne hq59
            obtain ⟨w31, ew31⟩ := go_64 Wq15 t_x0
            refine wb ew31 ?_
            obtain ⟨q30, eq30, Wq30, fq30, pbZSfq30⟩ := p_Mo_wrong hn Wq15  t_x0 (by omega) (by omega) (by omega) (by omega) h0ZScq15 e51
            refine wb eq30 ?_
            have e110 := (Zfr.gi fq30 t_x0 (by decide)).trans e44
            have e111 := (Zfr.gi fq30 t_x0 (by decide)).trans e45
            have e112 := (Zfr.gr fq30 t_x0 (by decide)).trans e46
            have e113 := (Zfr.gr fq30 t_x0 (by decide)).trans e47
            have e114 := (Zfr.ai fq30 tks0 (by decide)).trans e48
            have e115 := (Zfr.ai fq30 tkl0 (by decide)).trans e49
            have e116 := (Zfr.gi fq30 t_x0 (by decide)).trans e50
            have e117 := (Zfr.gi fq30 t_x0 (by decide)).trans e51
            have e118 := (Zfr.gr fq30 t_x0 (by decide)).trans h0Zkdq15
            have e119 := (Zfr.ai fq30 tkkq15 (by decide)).trans h1Zkdq15
            have k120 := GtP_fr k52 fq30 t_x0 Wq15 (by decide)
            have sc122 : Sc q15.2 q30 x0 (0) (0) := by
              obtain ⟨yf2, z0y, x0y, x1y⟩ := pbZSfq30
              exact Sc_mk h0ZScq15 z0y e51 ((Zfr.gi (ci := 12) fq30 t_x0 (by decide)).trans e51) e45 ((Zfr.gi (ci := 12) fq30 t_x0 (by decide)).trans e45) (by omega)
            have k121 := WyN_fr k53 fq30 t_x0 Wq15 (by decide) sc122
            have k123 := TbI_fr k55 fq30 t_x0 Wq15 (by decide) sc122
            have k124 := TbC_fr k56 fq30 t_x0 Wq15 (by decide) sc122
            have k125 := TkN_fr k57 fq30 t_x0 Wq15 (by decide)
            have F126 := Zfr.tr F58 fq30 (by decide)
            obtain ⟨bf2q30, h0ZSfq30, r0ZSfq30, r1ZSfq30⟩ := pbZSfq30
            have := vfi_e e117
            exact lInl ⟨rfl, rfl, Wq30, F126, ⟨bf2q30, bt2q12, h0ZSfq30, e117, by (try dsimp only); omega, by (try dsimp only); omega, by (try dsimp only); omega, by (try dsimp only); omega, by (try dsimp only); omega, by (try dsimp only); omega⟩⟩ (by (try dsimp only); omega)
      · have := li_0
        have hq22 := i_ne hq22
        exact lInr ⟨rfl, rfl, WLc_7, FLc_7, ⟨bf2_7, bt2_7, h0ZSz_7, h1ZSz_7, by (try dsimp only); omega, by (try dsimp only); omega, by (try dsimp only); omega, by (try dsimp only); omega, by (try dsimp only); omega, by (try dsimp only); omega⟩⟩
    · exact ⟨rfl, rfl, W, Zfr.rf, ⟨fv, tv, h1ZN0, h2ZN0, by (try dsimp only); omega, by (try dsimp only); omega, by (try dsimp only); omega, by (try dsimp only); omega, by (try dsimp only); omega, by (try dsimp only); omega⟩⟩
    · (try dsimp only); omega
  obtain ⟨b, eb, hb⟩ := L6
  refine wb eb ?_
  clear eb
  obtain ⟨z0_134, z1_134, c_134⟩ := b
  try dsimp only at hb ⊢
  obtain ⟨rfl, rfl, WXc_134, FXc_134, hXZSzc_134⟩ := hb
  have e135 := (Zfr.gi FXc_134 t_x0 (by decide)).trans h0ZN0
  have e136 := (Zfr.gi FXc_134 t_x0 (by decide)).trans h3ZN0
  have e137 := (Zfr.gr FXc_134 t_x0 (by decide)).trans h4ZN0
  have e138 := (Zfr.gr FXc_134 t_x0 (by decide)).trans h5ZN0
  have e139 := (Zfr.ai FXc_134 tks0 (by decide)).trans h6ZN0
  have e140 := (Zfr.ai FXc_134 tkl0 (by decide)).trans h7ZN0
  have e141 := (Zfr.gi FXc_134 t_x0 (by decide)).trans h8ZN0
  have k142 := GtP_fr k0ZN0 FXc_134 t_x0 W (by decide)
  have sc144 : Sc c c_134 x0 (0) (0) := by
    obtain ⟨yf2, yt2, z0y, z1y, x0y, x1y, x2y, x3y, x4y, x5y⟩ := hXZSzc_134
    exact Sc_mk h1ZN0 z0y h2ZN0 z1y h3ZN0 ((Zfr.gi (ci := 12) FXc_134 t_x0 (by decide)).trans h3ZN0) (by omega)
  have k143 := WyN_fr k1ZN0 FXc_134 t_x0 W (by decide) sc144
  have k145 := TbI_fr k2ZN0 FXc_134 t_x0 W (by decide) sc144
  have k146 := TbC_fr k3ZN0 FXc_134 t_x0 W (by decide) sc144
  have k147 := TkN_fr k4ZN0 FXc_134 t_x0 W (by decide)
  have F148 := Zfr.tr F0 FXc_134 (by decide)
  obtain ⟨bf2xc_134, bt2xc_134, h0ZSzxc_134, h1ZSzxc_134, r0ZSzxc_134, r1ZSzxc_134, r2ZSzxc_134, r3ZSzxc_134, r4ZSzxc_134, r5ZSzxc_134⟩ := hXZSzc_134
  unfold f_Mo_nodeOf_255
  obtain ⟨w33, ew33⟩ := go_64 WXc_134 t_x0
  refine wb ew33 ?_
  have := li_41
  obtain ⟨q32, eq32, Wq32, fq32, pbZSq32⟩ := p_Mo_need hn WXc_134 (a1 := 41) t_x0 (by omega) (by omega) (by omega) (by omega) h0ZSzxc_134 h1ZSzxc_134
  refine wb eq32 ?_
  have e151 := (Zfr.gi fq32 t_x0 (by decide)).trans e135
  have e152 := (Zfr.gi fq32 t_x0 (by decide)).trans e136
  have e153 := (Zfr.gr fq32 t_x0 (by decide)).trans e137
  have e154 := (Zfr.gr fq32 t_x0 (by decide)).trans e138
  have e155 := (Zfr.ai fq32 tks0 (by decide)).trans e139
  have e156 := (Zfr.ai fq32 tkl0 (by decide)).trans e140
  have e157 := (Zfr.gi fq32 t_x0 (by decide)).trans e141
  have k158 := GtP_fr k142 fq32 t_x0 WXc_134 (by decide)
  have := li_1
  have sc160 : Sc c_134 q32 x0 (1) (0) := by
    obtain ⟨yf2, yt2, z0y, z1y, x0y, x1y, x2y, x3y, x4y, x5y⟩ := pbZSq32
    exact Sc_mk h0ZSzxc_134 z0y h1ZSzxc_134 z1y e136 ((Zfr.gi (ci := 12) fq32 t_x0 (by decide)).trans e136) (by omega)
  have k159 := WyN_fr k143 fq32 t_x0 WXc_134 (by decide) sc160
  have k161 := TbI_fr k145 fq32 t_x0 WXc_134 (by decide) sc160
  have k162 := TbC_fr k146 fq32 t_x0 WXc_134 (by decide) sc160
  have k163 := TkN_fr k147 fq32 t_x0 WXc_134 (by decide)
  have F164 := Zfr.tr F148 fq32 (by decide)
  obtain ⟨bf2q32, bt2q32, h0ZSq32, h1ZSq32, r0ZSq32, r1ZSq32, r2ZSq32, r3ZSq32, r4ZSq32, r5ZSq32⟩ := pbZSq32
  exact ⟨_, rfl, Wq32, F164, ⟨bf2q32, bt2q32, dv, bks0, bkl0, bna0, blb0, bvn0, e151, h0ZSq32, h1ZSq32, e152, e153, e154, e155, e156, e157, tks0, tkl0, by (try dsimp only); omega, by (try dsimp only); omega, by (try dsimp only); omega, by (try dsimp only); omega, by (try dsimp only); omega, by (try dsimp only); omega, by (try dsimp only); omega, by (try dsimp only); omega, by (try dsimp only); omega, by (try dsimp only); omega, by (try dsimp only); omega, by (try dsimp only); omega, by (try dsimp only); omega, by (try dsimp only); omega, by (try dsimp only); omega, by (try dsimp only); omega, by (try dsimp only); omega, by (try dsimp only); omega, by (try dsimp only); omega, k158, k159, k161, k162, k163⟩⟩

abbrev M_Mo_nodeOf_111 : List (Nat × Nat) := [(64, 18), (64, 19), (64, 20), (83, 0)]
set_option maxRecDepth 100000 in
set_option maxHeartbeats 400000 in
theorem p_Mo_nodeOf_111 {nf : Nat} (hn : 8589934592 ≤ nf) {G : List Nat} {c : Zc} (W : Zwt zty G c) {x0 : Nat} {x2 : Int32} {ni : Int32} {bc : Int32} {n1 : Int32} {pv : Int32} {fv : Int32} {tv : Int32} {dv : Int32} (t_x0 : G[x0]? = some 64) (pl_pv : 0 ≤ pv.toInt) (pu_pv : pv.toInt ≤ 8) (pl_fv : 0 ≤ fv.toInt) (pu_fv : fv.toInt ≤ 6) (pl_tv : 0 ≤ tv.toInt) (pu_tv : tv.toInt ≤ 200) (pl_dv : 0 ≤ dv.toInt) (pu_dv : dv.toInt ≤ 11) (eh_pv : zgi c x0 12 25 = some pv) (eh_fv : zgi c x0 12 19 = some fv) (eh_tv : zgi c x0 12 18 = some tv) (eh_dv : zgi c x0 12 53 = some dv) (pp_4 : (¬ fv.toInt = 0 ∨ (0 ≤ x2.toInt ∧ x2.toInt ≤ 7))) (hb_ZN : ZN G c x0 pv fv tv dv ni bc n1) : ∃ q, f_Mo_nodeOf_111 nf x0 x2 c = some q ∧ Zwt zty G q.2 ∧ Zfr G M_Mo_nodeOf_111 c q.2 ∧ ZNn G q.2 x0 pv fv tv dv ni bc n1 2 q.1 := by
  have F0 : Zfr G M_Mo_nodeOf_111 c c := Zfr.rf
  unfold f_Mo_nodeOf_111
  obtain ⟨bks0, bkl0, bna0, blb0, bvn0, h0ZN0, h1ZN0, h2ZN0, h3ZN0, h4ZN0, h5ZN0, h6ZN0, h7ZN0, h8ZN0, tks0, tkl0, r0ZN0, r1ZN0, r2ZN0, r3ZN0, r4ZN0, r5ZN0, r6ZN0, r7ZN0, r8ZN0, r9ZN0, r10ZN0, r11ZN0, r12ZN0, r13ZN0, r14ZN0, r15ZN0, k0ZN0, k1ZN0, k2ZN0, k3ZN0, k4ZN0⟩ := hb_ZN
  obtain ⟨w63, ew63⟩ := go_64 W t_x0
  refine wb ew63 ?_
  obtain ⟨q62, eq62, Wq62, fq62, pbZSq62⟩ := p_Mo_pass hn W  t_x0 (by omega) (by omega) (by omega) (by omega) h1ZN0 h2ZN0
  refine wb eq62 ?_
  have e3 := (Zfr.gi fq62 t_x0 (by decide)).trans h0ZN0
  have e4 := (Zfr.gi fq62 t_x0 (by decide)).trans h3ZN0
  have e5 := (Zfr.gr fq62 t_x0 (by decide)).trans h4ZN0
  have e6 := (Zfr.gr fq62 t_x0 (by decide)).trans h5ZN0
  have e7 := (Zfr.ai fq62 tks0 (by decide)).trans h6ZN0
  have e8 := (Zfr.ai fq62 tkl0 (by decide)).trans h7ZN0
  have e9 := (Zfr.gi fq62 t_x0 (by decide)).trans h8ZN0
  have k10 := GtP_fr k0ZN0 fq62 t_x0 W (by decide)
  have := li_1
  have sc12 : Sc c q62 x0 (1) (0) := by
    obtain ⟨yf2, yt2, z0y, z1y, x0y, x1y, x2y, x3y, x4y, x5y⟩ := pbZSq62
    exact Sc_mk h1ZN0 z0y h2ZN0 z1y h3ZN0 ((Zfr.gi (ci := 12) fq62 t_x0 (by decide)).trans h3ZN0) (by omega)
  have k11 := WyN_fr k1ZN0 fq62 t_x0 W (by decide) sc12
  have k13 := TbI_fr k2ZN0 fq62 t_x0 W (by decide) sc12
  have k14 := TbC_fr k3ZN0 fq62 t_x0 W (by decide) sc12
  have k15 := TkN_fr k4ZN0 fq62 t_x0 W (by decide)
  have F16 := Zfr.tr F0 fq62 (by decide)
  obtain ⟨bf2q62, bt2q62, h0ZSq62, h1ZSq62, r0ZSq62, r1ZSq62, r2ZSq62, r3ZSq62, r4ZSq62, r5ZSq62⟩ := pbZSq62
  obtain ⟨qt17, eqt17, Wqt17, fqt17, pbZNnqt17⟩ := p_Mo_nodeOf_172 hn Wq62 (x2 := x2) (ni := ni) (bc := bc) (n1 := n1) t_x0 (by omega) (by omega) (by omega) (by omega) (by omega) (by omega) (by omega) (by omega) e3 h0ZSq62 h1ZSq62 e4 (by omega) ⟨bks0, bkl0, bna0, blb0, bvn0, e3, h0ZSq62, h1ZSq62, e4, e5, e6, e7, e8, e9, tks0, tkl0, by (try dsimp only); omega, by (try dsimp only); omega, by (try dsimp only); omega, by (try dsimp only); omega, by (try dsimp only); omega, by (try dsimp only); omega, by (try dsimp only); omega, by (try dsimp only); omega, by (try dsimp only); omega, by (try dsimp only); omega, by (try dsimp only); omega, by (try dsimp only); omega, by (try dsimp only); omega, by (try dsimp only); omega, by (try dsimp only); omega, by (try dsimp only); omega, k10, k11, k13, k14, k15⟩
  have e31 := (Zfr.gi fqt17 t_x0 (by decide)).trans e3
  have e32 := (Zfr.gi fqt17 t_x0 (by decide)).trans e4
  have e33 := (Zfr.gr fqt17 t_x0 (by decide)).trans e5
  have e34 := (Zfr.gr fqt17 t_x0 (by decide)).trans e6
  have e35 := (Zfr.ai fqt17 tks0 (by decide)).trans e7
  have e36 := (Zfr.ai fqt17 tkl0 (by decide)).trans e8
  have e37 := (Zfr.gi fqt17 t_x0 (by decide)).trans e9
  have F38 := Zfr.tr F16 fqt17 (by decide)
  obtain ⟨bf2qt17, bt2qt17, bd2qt17, bksqt17, bklqt17, bnaqt17, blbqt17, bvnqt17, h0ZNnqt17, h1ZNnqt17, h2ZNnqt17, h3ZNnqt17, h4ZNnqt17, h5ZNnqt17, h6ZNnqt17, h7ZNnqt17, h8ZNnqt17, tksqt17, tklqt17, r0ZNnqt17, r1ZNnqt17, r2ZNnqt17, r3ZNnqt17, r4ZNnqt17, r5ZNnqt17, r6ZNnqt17, r7ZNnqt17, r8ZNnqt17, r9ZNnqt17, r10ZNnqt17, r11ZNnqt17, r12ZNnqt17, r13ZNnqt17, r14ZNnqt17, r15ZNnqt17, r16ZNnqt17, r17ZNnqt17, r18ZNnqt17, k0ZNnqt17, k1ZNnqt17, k2ZNnqt17, k3ZNnqt17, k4ZNnqt17⟩ := pbZNnqt17
  have := li_2
  exact ⟨_, eqt17, Wqt17, F38, ⟨bf2qt17, bt2qt17, bd2qt17, bksqt17, bklqt17, bnaqt17, blbqt17, bvnqt17, h0ZNnqt17, h1ZNnqt17, h2ZNnqt17, h3ZNnqt17, h4ZNnqt17, h5ZNnqt17, h6ZNnqt17, h7ZNnqt17, h8ZNnqt17, tksqt17, tklqt17, by (try dsimp only); omega, by (try dsimp only); omega, by (try dsimp only); omega, by (try dsimp only); omega, by (try dsimp only); omega, by (try dsimp only); omega, by (try dsimp only); omega, by (try dsimp only); omega, by (try dsimp only); omega, by (try dsimp only); omega, by (try dsimp only); omega, by (try dsimp only); omega, by (try dsimp only); omega, by (try dsimp only); omega, by (try dsimp only); omega, by (try dsimp only); omega, by (try dsimp only); omega, by (try dsimp only); omega, by (try dsimp only); omega, k0ZNnqt17, k1ZNnqt17, k2ZNnqt17, k3ZNnqt17, k4ZNnqt17⟩⟩

abbrev M_Mo_nodeOf_73 : List (Nat × Nat) := [(64, 18), (64, 19), (64, 20), (64, 57), (79, 0), (82, 0), (83, 0), (105, 0), (106, 0)]
set_option maxRecDepth 100000 in
set_option maxHeartbeats 400000 in
theorem p_Mo_nodeOf_73 {nf : Nat} (hn : 8589934592 ≤ nf) {G : List Nat} {c : Zc} (W : Zwt zty G c) {x0 : Nat} {x2 : Int32} {x3 : Int32} {ni : Int32} {bc : Int32} {n1 : Int32} {pv : Int32} {fv : Int32} {tv : Int32} {dv : Int32} (t_x0 : G[x0]? = some 64) (pl_pv : 0 ≤ pv.toInt) (pu_pv : pv.toInt ≤ 8) (pl_fv : 0 ≤ fv.toInt) (pu_fv : fv.toInt ≤ 6) (pl_tv : 0 ≤ tv.toInt) (pu_tv : tv.toInt ≤ 200) (pl_dv : 0 ≤ dv.toInt) (pu_dv : dv.toInt ≤ 11) (pl_x2 : (-1) ≤ x2.toInt) (pu_x2 : x2.toInt ≤ 107) (pl_x3 : 0 ≤ x3.toInt) (pu_x3 : x3.toInt ≤ 65) (eh_pv : zgi c x0 12 25 = some pv) (eh_fv : zgi c x0 12 19 = some fv) (eh_tv : zgi c x0 12 18 = some tv) (eh_dv : zgi c x0 12 53 = some dv) (pp_6 : (x2.toInt = -1 ∨ (0 ≤ x2.toInt ∧ x2.toInt ≤ 7) ∨ (100 ≤ x2.toInt ∧ ¬ fv.toInt = 0))) (hb_ZN : ZN G c x0 pv fv tv dv ni bc n1) : ∃ q, f_Mo_nodeOf_73 nf x0 x2 x3 c = some q ∧ Zwt zty G q.2 ∧ Zfr G M_Mo_nodeOf_73 c q.2 ∧ ZNn G q.2 x0 pv fv tv dv ni bc n1 2 q.1 := by
  have F0 : Zfr G M_Mo_nodeOf_73 c c := Zfr.rf
  unfold f_Mo_nodeOf_73
  obtain ⟨bks0, bkl0, bna0, blb0, bvn0, h0ZN0, h1ZN0, h2ZN0, h3ZN0, h4ZN0, h5ZN0, h6ZN0, h7ZN0, h8ZN0, tks0, tkl0, r0ZN0, r1ZN0, r2ZN0, r3ZN0, r4ZN0, r5ZN0, r6ZN0, r7ZN0, r8ZN0, r9ZN0, r10ZN0, r11ZN0, r12ZN0, r13ZN0, r14ZN0, r15ZN0, k0ZN0, k1ZN0, k2ZN0, k3ZN0, k4ZN0⟩ := hb_ZN
  refine wi (fun hq1 => ?_) (fun hq1 => ?_)
  · have := li_0
    have hq1 := i_le hq1
    obtain ⟨qt2, eqt2, Wqt2, fqt2, pbZNnqt2⟩ := p_Mo_nodeOf_111 hn W (x2 := x2) (ni := ni) (bc := bc) (n1 := n1) t_x0 (by omega) (by omega) (by omega) (by omega) (by omega) (by omega) (by omega) (by omega) h0ZN0 h1ZN0 h2ZN0 h3ZN0 (by omega) ⟨bks0, bkl0, bna0, blb0, bvn0, h0ZN0, h1ZN0, h2ZN0, h3ZN0, h4ZN0, h5ZN0, h6ZN0, h7ZN0, h8ZN0, tks0, tkl0, by (try dsimp only); omega, by (try dsimp only); omega, by (try dsimp only); omega, by (try dsimp only); omega, by (try dsimp only); omega, by (try dsimp only); omega, by (try dsimp only); omega, by (try dsimp only); omega, by (try dsimp only); omega, by (try dsimp only); omega, by (try dsimp only); omega, by (try dsimp only); omega, by (try dsimp only); omega, by (try dsimp only); omega, by (try dsimp only); omega, by (try dsimp only); omega, k0ZN0, k1ZN0, k2ZN0, k3ZN0, k4ZN0⟩
    have e16 := (Zfr.gi fqt2 t_x0 (by decide)).trans h0ZN0
    have e17 := (Zfr.gi fqt2 t_x0 (by decide)).trans h3ZN0
    have e18 := (Zfr.gr fqt2 t_x0 (by decide)).trans h4ZN0
    have e19 := (Zfr.gr fqt2 t_x0 (by decide)).trans h5ZN0
    have e20 := (Zfr.ai fqt2 tks0 (by decide)).trans h6ZN0
    have e21 := (Zfr.ai fqt2 tkl0 (by decide)).trans h7ZN0
    have e22 := (Zfr.gi fqt2 t_x0 (by decide)).trans h8ZN0
    have F23 := Zfr.tr F0 fqt2 (by decide)
    have := li_2
    obtain ⟨bf2qt2, bt2qt2, bd2qt2, bksqt2, bklqt2, bnaqt2, blbqt2, bvnqt2, h0ZNnqt2, h1ZNnqt2, h2ZNnqt2, h3ZNnqt2, h4ZNnqt2, h5ZNnqt2, h6ZNnqt2, h7ZNnqt2, h8ZNnqt2, tksqt2, tklqt2, r0ZNnqt2, r1ZNnqt2, r2ZNnqt2, r3ZNnqt2, r4ZNnqt2, r5ZNnqt2, r6ZNnqt2, r7ZNnqt2, r8ZNnqt2, r9ZNnqt2, r10ZNnqt2, r11ZNnqt2, r12ZNnqt2, r13ZNnqt2, r14ZNnqt2, r15ZNnqt2, r16ZNnqt2, r17ZNnqt2, r18ZNnqt2, k0ZNnqt2, k1ZNnqt2, k2ZNnqt2, k3ZNnqt2, k4ZNnqt2⟩ := pbZNnqt2
    exact ⟨_, eqt2, Wqt2, F23, ⟨bf2qt2, bt2qt2, bd2qt2, bksqt2, bklqt2, bnaqt2, blbqt2, bvnqt2, h0ZNnqt2, h1ZNnqt2, h2ZNnqt2, h3ZNnqt2, h4ZNnqt2, h5ZNnqt2, h6ZNnqt2, h7ZNnqt2, h8ZNnqt2, tksqt2, tklqt2, by (try dsimp only); omega, by (try dsimp only); omega, by (try dsimp only); omega, by (try dsimp only); omega, by (try dsimp only); omega, by (try dsimp only); omega, by (try dsimp only); omega, by (try dsimp only); omega, by (try dsimp only); omega, by (try dsimp only); omega, by (try dsimp only); omega, by (try dsimp only); omega, by (try dsimp only); omega, by (try dsimp only); omega, by (try dsimp only); omega, by (try dsimp only); omega, by (try dsimp only); omega, by (try dsimp only); omega, by (try dsimp only); omega, k0ZNnqt2, k1ZNnqt2, k2ZNnqt2, k3ZNnqt2, k4ZNnqt2⟩⟩
  · have := li_0
    have hq1 := i_nle hq1
    refine wb h1ZN0 ?_
    refine wi (fun hq33 => ?_) (fun hq33 => ?_)
    · have hq33 := i_eq hq33
      obtain ⟨v66, ev66, tv66⟩ := gf_64_16 W t_x0
      refine wb ev66 ?_
      refine wb h2ZN0 ?_
      obtain ⟨v68, ev68, _⟩ := ga_76 W tv66 (i := tv) (by omega) (by omega)
      refine wb ev68 ?_
      obtain ⟨w70, ew70⟩ := go_64 W t_x0
      refine wb ew70 ?_
      obtain ⟨q69, eq69, Wq69, fq69, pl0q69, pu0q69, pbZomq69⟩ := p_Mo_oneMore hn W (a1 := v68) t_x0 (by omega) (by omega) (by omega) (by omega) h1ZN0 h8ZN0
      refine wb eq69 ?_
      have e36 := (Zfr.gi fq69 t_x0 (by decide)).trans h0ZN0
      have e37 := (Zfr.gi fq69 t_x0 (by decide)).trans h2ZN0
      have e38 := (Zfr.gi fq69 t_x0 (by decide)).trans h3ZN0
      have e39 := (Zfr.gr fq69 t_x0 (by decide)).trans h4ZN0
      have e40 := (Zfr.gr fq69 t_x0 (by decide)).trans h5ZN0
      have e41 := (Zfr.ai fq69 tks0 (by decide)).trans h6ZN0
      have e42 := (Zfr.ai fq69 tkl0 (by decide)).trans h7ZN0
      have e43 := (Zfr.ai fq69 tv66 (by decide)).trans ev68
      have k44 := GtP_fr k0ZN0 fq69 t_x0 W (by decide)
      have sc46 : Sc c q69.2 x0 (0) (0) := by
        obtain ⟨yf2, yv2, z0y, z1y, x0y, x1y, x2y, x3y, x4y, x5y, x6y⟩ := pbZomq69
        exact Sc_mk h1ZN0 z0y h2ZN0 ((Zfr.gi (ci := 12) fq69 t_x0 (by decide)).trans h2ZN0) h3ZN0 ((Zfr.gi (ci := 12) fq69 t_x0 (by decide)).trans h3ZN0) (by omega)
      have k45 := WyN_fr k1ZN0 fq69 t_x0 W (by decide) sc46
      have k47 := TbI_fr k2ZN0 fq69 t_x0 W (by decide) sc46
      have k48 := TbC_fr k3ZN0 fq69 t_x0 W (by decide) sc46
      have k49 := TkN_fr k4ZN0 fq69 t_x0 W (by decide)
      have F50 := Zfr.tr F0 fq69 (by decide)
      obtain ⟨bf2q69, bv2q69, h0Zomq69, h1Zomq69, r0Zomq69, r1Zomq69, r2Zomq69, r3Zomq69, r4Zomq69, r5Zomq69, r6Zomq69⟩ := pbZomq69
      refine wi (fun hq51 => ?_) (fun hq51 => ?_)
      · have hq51 := i_eq hq51
        obtain ⟨qt52, eqt52, Wqt52, fqt52, pbZNnqt52⟩ := p_Mo_nodeOf_111 hn Wq69 (x2 := x2) (ni := ni) (bc := bc) (n1 := n1) t_x0 (by omega) (by omega) (by omega) (by omega) (by omega) (by omega) (by omega) (by omega) e36 h0Zomq69 e37 e38 (by omega) ⟨bks0, bkl0, bna0, blb0, bv2q69, e36, h0Zomq69, e37, e38, e39, e40, e41, e42, h1Zomq69, tks0, tkl0, by (try dsimp only); omega, by (try dsimp only); omega, by (try dsimp only); omega, by (try dsimp only); omega, by (try dsimp only); omega, by (try dsimp only); omega, by (try dsimp only); omega, by (try dsimp only); omega, by (try dsimp only); omega, by (try dsimp only); omega, by (try dsimp only); omega, by (try dsimp only); omega, by (try dsimp only); omega, by (try dsimp only); omega, by (try dsimp only); omega, by (try dsimp only); omega, k44, k45, k47, k48, k49⟩
        have e66 := (Zfr.gi fqt52 t_x0 (by decide)).trans e36
        have e67 := (Zfr.gi fqt52 t_x0 (by decide)).trans e38
        have e68 := (Zfr.gr fqt52 t_x0 (by decide)).trans e39
        have e69 := (Zfr.gr fqt52 t_x0 (by decide)).trans e40
        have e70 := (Zfr.ai fqt52 tks0 (by decide)).trans e41
        have e71 := (Zfr.ai fqt52 tkl0 (by decide)).trans e42
        have e72 := (Zfr.ai fqt52 tv66 (by decide)).trans e43
        have e73 := (Zfr.gi fqt52 t_x0 (by decide)).trans h1Zomq69
        have F74 := Zfr.tr F50 fqt52 (by decide)
        have := li_2
        obtain ⟨bf2qt52, bt2qt52, bd2qt52, bksqt52, bklqt52, bnaqt52, blbqt52, bvnqt52, h0ZNnqt52, h1ZNnqt52, h2ZNnqt52, h3ZNnqt52, h4ZNnqt52, h5ZNnqt52, h6ZNnqt52, h7ZNnqt52, h8ZNnqt52, tksqt52, tklqt52, r0ZNnqt52, r1ZNnqt52, r2ZNnqt52, r3ZNnqt52, r4ZNnqt52, r5ZNnqt52, r6ZNnqt52, r7ZNnqt52, r8ZNnqt52, r9ZNnqt52, r10ZNnqt52, r11ZNnqt52, r12ZNnqt52, r13ZNnqt52, r14ZNnqt52, r15ZNnqt52, r16ZNnqt52, r17ZNnqt52, r18ZNnqt52, k0ZNnqt52, k1ZNnqt52, k2ZNnqt52, k3ZNnqt52, k4ZNnqt52⟩ := pbZNnqt52
        exact ⟨_, eqt52, Wqt52, F74, ⟨bf2qt52, bt2qt52, bd2qt52, bksqt52, bklqt52, bnaqt52, blbqt52, bvnqt52, h0ZNnqt52, h1ZNnqt52, h2ZNnqt52, h3ZNnqt52, h4ZNnqt52, h5ZNnqt52, h6ZNnqt52, h7ZNnqt52, h8ZNnqt52, tksqt52, tklqt52, by (try dsimp only); omega, by (try dsimp only); omega, by (try dsimp only); omega, by (try dsimp only); omega, by (try dsimp only); omega, by (try dsimp only); omega, by (try dsimp only); omega, by (try dsimp only); omega, by (try dsimp only); omega, by (try dsimp only); omega, by (try dsimp only); omega, by (try dsimp only); omega, by (try dsimp only); omega, by (try dsimp only); omega, by (try dsimp only); omega, by (try dsimp only); omega, by (try dsimp only); omega, by (try dsimp only); omega, by (try dsimp only); omega, k0ZNnqt52, k1ZNnqt52, k2ZNnqt52, k3ZNnqt52, k4ZNnqt52⟩⟩
      · have hq51 := i_ne hq51
        obtain ⟨w73, ew73⟩ := go_64 Wq69 t_x0
        refine wb ew73 ?_
        obtain ⟨q72, eq72, Wq72, fq72, pl0q72, pu0q72, pbZnsq72⟩ := p_Mo_newSlot hn Wq69  t_x0 (by omega) (by omega) (by omega) (by omega) e36 e39 e41
        refine wb eq72 ?_
        have e87 := (Zfr.gi fq72 t_x0 (by decide)).trans e36
        have e88 := (Zfr.gi fq72 t_x0 (by decide)).trans e37
        have e89 := (Zfr.gi fq72 t_x0 (by decide)).trans e38
        have e90 := (Zfr.gr fq72 t_x0 (by decide)).trans e39
        have e91 := (Zfr.gr fq72 t_x0 (by decide)).trans e40
        have e92 := (Zfr.ai fq72 tkl0 (by decide)).trans e42
        have e93 := (Zfr.ai fq72 tv66 (by decide)).trans e43
        have e94 := (Zfr.gi fq72 t_x0 (by decide)).trans h0Zomq69
        have e95 := (Zfr.gi fq72 t_x0 (by decide)).trans h1Zomq69
        have k96 := GtP_fr k44 fq72 t_x0 Wq69 (by decide)
        have sc98 := Sc_fr fq72 t_x0 (by decide) (by decide) (by decide)
        have k97 := WyN_fr k45 fq72 t_x0 Wq69 (by decide) sc98
        have k99 := TbI_fr k47 fq72 t_x0 Wq69 (by decide) sc98
        have k100 := TbC_fr k48 fq72 t_x0 Wq69 (by decide) sc98
        have k101 := TkN_fr k49 fq72 t_x0 Wq69 (by decide)
        have F102 := Zfr.tr F50 fq72 (by decide)
        obtain ⟨bksq72, bn2q72, h0Znsq72, h1Znsq72, h2Znsq72, tksq72, r0Znsq72⟩ := pbZnsq72
        obtain ⟨w75, ew75⟩ := go_64 Wq72 t_x0
        refine wb ew75 ?_
        obtain ⟨q74, eq74, Wq74, fq74⟩ := p_Mo_learn hn Wq72 (a1 := x3) (a2 := q72.1) t_x0 (by omega) (by omega) (by omega) (by omega) (by omega)
        refine wb eq74 ?_
        have e103 := (Zfr.gi fq74 t_x0 (by decide)).trans h0Znsq72
        have e104 := (Zfr.gi fq74 t_x0 (by decide)).trans e88
        have e105 := (Zfr.gi fq74 t_x0 (by decide)).trans e89
        have e106 := (Zfr.gr fq74 t_x0 (by decide)).trans h1Znsq72
        have e107 := (Zfr.gr fq74 t_x0 (by decide)).trans e91
        have e108 := (Zfr.ai fq74 tkl0 (by decide)).trans e92
        have e109 := (Zfr.ai fq74 tv66 (by decide)).trans e93
        have e110 := (Zfr.gi fq74 t_x0 (by decide)).trans e94
        have e111 := (Zfr.gi fq74 t_x0 (by decide)).trans e95
        have e112 := (Zfr.ai fq74 tksq72 (by decide)).trans h2Znsq72
        have k113 := GtP_fr k96 fq74 t_x0 Wq72 (by decide)
        have sc115 := Sc_fr fq74 t_x0 (by decide) (by decide) (by decide)
        have k114 := WyN_fr k97 fq74 t_x0 Wq72 (by decide) sc115
        have k116 := TbI_fr k99 fq74 t_x0 Wq72 (by decide) sc115
        have k117 := TbC_fr k100 fq74 t_x0 Wq72 (by decide) sc115
        have k118 := TkN_fr k101 fq74 t_x0 Wq72 (by decide)
        have F119 := Zfr.tr F102 fq74 (by decide)
        obtain ⟨qt120, eqt120, Wqt120, fqt120, pbZNnqt120⟩ := p_Mo_nodeOf_111 hn Wq74 (x2 := q72.1) (ni := ni) (bc := bc) (n1 := n1) t_x0 (by omega) (by omega) (by omega) (by omega) (by omega) (by omega) (by omega) (by omega) e103 e110 e104 e105 (by omega) ⟨bksq72, bkl0, bn2q72, blb0, bv2q69, e103, e110, e104, e105, e106, e107, e112, e108, e111, tksq72, tkl0, by (try dsimp only); omega, by (try dsimp only); omega, by (try dsimp only); omega, by (try dsimp only); omega, by (try dsimp only); omega, by (try dsimp only); omega, by (try dsimp only); omega, by (try dsimp only); omega, by (try dsimp only); omega, by (try dsimp only); omega, by (try dsimp only); omega, by (try dsimp only); omega, by (try dsimp only); omega, by (try dsimp only); omega, by (try dsimp only); omega, by (try dsimp only); omega, k113, k114, k116, k117, k118⟩
        have e134 := (Zfr.gi fqt120 t_x0 (by decide)).trans e103
        have e135 := (Zfr.gi fqt120 t_x0 (by decide)).trans e105
        have e136 := (Zfr.gr fqt120 t_x0 (by decide)).trans e106
        have e137 := (Zfr.gr fqt120 t_x0 (by decide)).trans e107
        have e138 := (Zfr.ai fqt120 tkl0 (by decide)).trans e108
        have e139 := (Zfr.ai fqt120 tv66 (by decide)).trans e109
        have e140 := (Zfr.gi fqt120 t_x0 (by decide)).trans e111
        have e141 := (Zfr.ai fqt120 tksq72 (by decide)).trans e112
        have F142 := Zfr.tr F119 fqt120 (by decide)
        have := li_2
        obtain ⟨bf2qt120, bt2qt120, bd2qt120, bksqt120, bklqt120, bnaqt120, blbqt120, bvnqt120, h0ZNnqt120, h1ZNnqt120, h2ZNnqt120, h3ZNnqt120, h4ZNnqt120, h5ZNnqt120, h6ZNnqt120, h7ZNnqt120, h8ZNnqt120, tksqt120, tklqt120, r0ZNnqt120, r1ZNnqt120, r2ZNnqt120, r3ZNnqt120, r4ZNnqt120, r5ZNnqt120, r6ZNnqt120, r7ZNnqt120, r8ZNnqt120, r9ZNnqt120, r10ZNnqt120, r11ZNnqt120, r12ZNnqt120, r13ZNnqt120, r14ZNnqt120, r15ZNnqt120, r16ZNnqt120, r17ZNnqt120, r18ZNnqt120, k0ZNnqt120, k1ZNnqt120, k2ZNnqt120, k3ZNnqt120, k4ZNnqt120⟩ := pbZNnqt120
        exact ⟨_, eqt120, Wqt120, F142, ⟨bf2qt120, bt2qt120, bd2qt120, bksqt120, bklqt120, bnaqt120, blbqt120, bvnqt120, h0ZNnqt120, h1ZNnqt120, h2ZNnqt120, h3ZNnqt120, h4ZNnqt120, h5ZNnqt120, h6ZNnqt120, h7ZNnqt120, h8ZNnqt120, tksqt120, tklqt120, by (try dsimp only); omega, by (try dsimp only); omega, by (try dsimp only); omega, by (try dsimp only); omega, by (try dsimp only); omega, by (try dsimp only); omega, by (try dsimp only); omega, by (try dsimp only); omega, by (try dsimp only); omega, by (try dsimp only); omega, by (try dsimp only); omega, by (try dsimp only); omega, by (try dsimp only); omega, by (try dsimp only); omega, by (try dsimp only); omega, by (try dsimp only); omega, by (try dsimp only); omega, by (try dsimp only); omega, by (try dsimp only); omega, k0ZNnqt120, k1ZNnqt120, k2ZNnqt120, k3ZNnqt120, k4ZNnqt120⟩⟩
    · have hq33 := i_ne hq33
      obtain ⟨qt152, eqt152, Wqt152, fqt152, pbZNnqt152⟩ := p_Mo_nodeOf_111 hn W (x2 := x2) (ni := ni) (bc := bc) (n1 := n1) t_x0 (by omega) (by omega) (by omega) (by omega) (by omega) (by omega) (by omega) (by omega) h0ZN0 h1ZN0 h2ZN0 h3ZN0 (by omega) ⟨bks0, bkl0, bna0, blb0, bvn0, h0ZN0, h1ZN0, h2ZN0, h3ZN0, h4ZN0, h5ZN0, h6ZN0, h7ZN0, h8ZN0, tks0, tkl0, by (try dsimp only); omega, by (try dsimp only); omega, by (try dsimp only); omega, by (try dsimp only); omega, by (try dsimp only); omega, by (try dsimp only); omega, by (try dsimp only); omega, by (try dsimp only); omega, by (try dsimp only); omega, by (try dsimp only); omega, by (try dsimp only); omega, by (try dsimp only); omega, by (try dsimp only); omega, by (try dsimp only); omega, by (try dsimp only); omega, by (try dsimp only); omega, k0ZN0, k1ZN0, k2ZN0, k3ZN0, k4ZN0⟩
      have e166 := (Zfr.gi fqt152 t_x0 (by decide)).trans h0ZN0
      have e167 := (Zfr.gi fqt152 t_x0 (by decide)).trans h3ZN0
      have e168 := (Zfr.gr fqt152 t_x0 (by decide)).trans h4ZN0
      have e169 := (Zfr.gr fqt152 t_x0 (by decide)).trans h5ZN0
      have e170 := (Zfr.ai fqt152 tks0 (by decide)).trans h6ZN0
      have e171 := (Zfr.ai fqt152 tkl0 (by decide)).trans h7ZN0
      have e172 := (Zfr.gi fqt152 t_x0 (by decide)).trans h8ZN0
      have F173 := Zfr.tr F0 fqt152 (by decide)
      have := li_2
      obtain ⟨bf2qt152, bt2qt152, bd2qt152, bksqt152, bklqt152, bnaqt152, blbqt152, bvnqt152, h0ZNnqt152, h1ZNnqt152, h2ZNnqt152, h3ZNnqt152, h4ZNnqt152, h5ZNnqt152, h6ZNnqt152, h7ZNnqt152, h8ZNnqt152, tksqt152, tklqt152, r0ZNnqt152, r1ZNnqt152, r2ZNnqt152, r3ZNnqt152, r4ZNnqt152, r5ZNnqt152, r6ZNnqt152, r7ZNnqt152, r8ZNnqt152, r9ZNnqt152, r10ZNnqt152, r11ZNnqt152, r12ZNnqt152, r13ZNnqt152, r14ZNnqt152, r15ZNnqt152, r16ZNnqt152, r17ZNnqt152, r18ZNnqt152, k0ZNnqt152, k1ZNnqt152, k2ZNnqt152, k3ZNnqt152, k4ZNnqt152⟩ := pbZNnqt152
      exact ⟨_, eqt152, Wqt152, F173, ⟨bf2qt152, bt2qt152, bd2qt152, bksqt152, bklqt152, bnaqt152, blbqt152, bvnqt152, h0ZNnqt152, h1ZNnqt152, h2ZNnqt152, h3ZNnqt152, h4ZNnqt152, h5ZNnqt152, h6ZNnqt152, h7ZNnqt152, h8ZNnqt152, tksqt152, tklqt152, by (try dsimp only); omega, by (try dsimp only); omega, by (try dsimp only); omega, by (try dsimp only); omega, by (try dsimp only); omega, by (try dsimp only); omega, by (try dsimp only); omega, by (try dsimp only); omega, by (try dsimp only); omega, by (try dsimp only); omega, by (try dsimp only); omega, by (try dsimp only); omega, by (try dsimp only); omega, by (try dsimp only); omega, by (try dsimp only); omega, by (try dsimp only); omega, by (try dsimp only); omega, by (try dsimp only); omega, by (try dsimp only); omega, k0ZNnqt152, k1ZNnqt152, k2ZNnqt152, k3ZNnqt152, k4ZNnqt152⟩⟩

abbrev M_Mo_nodeOf_152 : List (Nat × Nat) := [(64, 18), (64, 19), (64, 20), (64, 57), (79, 0), (82, 0), (83, 0)]
set_option maxRecDepth 100000 in
set_option maxHeartbeats 400000 in
theorem p_Mo_nodeOf_152 {nf : Nat} (hn : 8589934592 ≤ nf) {G : List Nat} {c : Zc} (W : Zwt zty G c) {x0 : Nat} {x1 : Int32} {x2 : Int32} {ni : Int32} {bc : Int32} {n1 : Int32} {pv : Int32} {fv : Int32} {tv : Int32} {dv : Int32} (t_x0 : G[x0]? = some 64) (pl_pv : 0 ≤ pv.toInt) (pu_pv : pv.toInt ≤ 8) (pl_fv : 0 ≤ fv.toInt) (pu_fv : fv.toInt ≤ 6) (pl_tv : 0 ≤ tv.toInt) (pu_tv : tv.toInt ≤ 200) (pl_dv : 0 ≤ dv.toInt) (pu_dv : dv.toInt ≤ 11) (pl_x2 : (-1) ≤ x2.toInt) (pu_x2 : x2.toInt ≤ (-1)) (eh_pv : zgi c x0 12 25 = some pv) (eh_fv : zgi c x0 12 19 = some fv) (eh_tv : zgi c x0 12 18 = some tv) (eh_dv : zgi c x0 12 53 = some dv) (hb_ZN : ZN G c x0 pv fv tv dv ni bc n1) : ∃ q, f_Mo_nodeOf_152 nf x0 x1 x2 c = some q ∧ Zwt zty G q.2 ∧ Zfr G M_Mo_nodeOf_152 c q.2 ∧ ZNn G q.2 x0 pv fv tv dv ni bc n1 1 q.1 := by
  have F0 : Zfr G M_Mo_nodeOf_152 c c := Zfr.rf
  unfold f_Mo_nodeOf_152
  obtain ⟨bks0, bkl0, bna0, blb0, bvn0, h0ZN0, h1ZN0, h2ZN0, h3ZN0, h4ZN0, h5ZN0, h6ZN0, h7ZN0, h8ZN0, tks0, tkl0, r0ZN0, r1ZN0, r2ZN0, r3ZN0, r4ZN0, r5ZN0, r6ZN0, r7ZN0, r8ZN0, r9ZN0, r10ZN0, r11ZN0, r12ZN0, r13ZN0, r14ZN0, r15ZN0, k0ZN0, k1ZN0, k2ZN0, k3ZN0, k4ZN0⟩ := hb_ZN
  refine wb h1ZN0 ?_
  refine wi (fun hq1 => ?_) (fun hq1 => ?_)
  · have := li_0
    have hq1 := i_eq hq1
    obtain ⟨w40, ew40⟩ := go_64 W t_x0
    refine wb ew40 ?_
    obtain ⟨q39, eq39, Wq39, fq39, pl0q39, pu0q39, pbZomq39⟩ := p_Mo_oneMore hn W (a1 := x1) t_x0 (by omega) (by omega) (by omega) (by omega) h1ZN0 h8ZN0
    refine wb eq39 ?_
    have e4 := (Zfr.gi fq39 t_x0 (by decide)).trans h0ZN0
    have e5 := (Zfr.gi fq39 t_x0 (by decide)).trans h2ZN0
    have e6 := (Zfr.gi fq39 t_x0 (by decide)).trans h3ZN0
    have e7 := (Zfr.gr fq39 t_x0 (by decide)).trans h4ZN0
    have e8 := (Zfr.gr fq39 t_x0 (by decide)).trans h5ZN0
    have e9 := (Zfr.ai fq39 tks0 (by decide)).trans h6ZN0
    have e10 := (Zfr.ai fq39 tkl0 (by decide)).trans h7ZN0
    have k11 := GtP_fr k0ZN0 fq39 t_x0 W (by decide)
    have sc13 : Sc c q39.2 x0 (0) (0) := by
      obtain ⟨yf2, yv2, z0y, z1y, x0y, x1y, x2y, x3y, x4y, x5y, x6y⟩ := pbZomq39
      exact Sc_mk h1ZN0 z0y h2ZN0 ((Zfr.gi (ci := 12) fq39 t_x0 (by decide)).trans h2ZN0) h3ZN0 ((Zfr.gi (ci := 12) fq39 t_x0 (by decide)).trans h3ZN0) (by omega)
    have k12 := WyN_fr k1ZN0 fq39 t_x0 W (by decide) sc13
    have k14 := TbI_fr k2ZN0 fq39 t_x0 W (by decide) sc13
    have k15 := TbC_fr k3ZN0 fq39 t_x0 W (by decide) sc13
    have k16 := TkN_fr k4ZN0 fq39 t_x0 W (by decide)
    have F17 := Zfr.tr F0 fq39 (by decide)
    obtain ⟨bf2q39, bv2q39, h0Zomq39, h1Zomq39, r0Zomq39, r1Zomq39, r2Zomq39, r3Zomq39, r4Zomq39, r5Zomq39, r6Zomq39⟩ := pbZomq39
    refine wi (fun hq18 => ?_) (fun hq18 => ?_)
    · have hq18 := i_eq hq18
      obtain ⟨qt19, eqt19, Wqt19, fqt19, pbZNnqt19⟩ := p_Mo_nodeOf_172 hn Wq39 (x2 := x2) (ni := ni) (bc := bc) (n1 := n1) t_x0 (by omega) (by omega) (by omega) (by omega) (by omega) (by omega) (by omega) (by omega) e4 h0Zomq39 e5 e6 (by omega) ⟨bks0, bkl0, bna0, blb0, bv2q39, e4, h0Zomq39, e5, e6, e7, e8, e9, e10, h1Zomq39, tks0, tkl0, by (try dsimp only); omega, by (try dsimp only); omega, by (try dsimp only); omega, by (try dsimp only); omega, by (try dsimp only); omega, by (try dsimp only); omega, by (try dsimp only); omega, by (try dsimp only); omega, by (try dsimp only); omega, by (try dsimp only); omega, by (try dsimp only); omega, by (try dsimp only); omega, by (try dsimp only); omega, by (try dsimp only); omega, by (try dsimp only); omega, by (try dsimp only); omega, k11, k12, k14, k15, k16⟩
      have e33 := (Zfr.gi fqt19 t_x0 (by decide)).trans e4
      have e34 := (Zfr.gi fqt19 t_x0 (by decide)).trans e6
      have e35 := (Zfr.gr fqt19 t_x0 (by decide)).trans e7
      have e36 := (Zfr.gr fqt19 t_x0 (by decide)).trans e8
      have e37 := (Zfr.ai fqt19 tks0 (by decide)).trans e9
      have e38 := (Zfr.ai fqt19 tkl0 (by decide)).trans e10
      have e39 := (Zfr.gi fqt19 t_x0 (by decide)).trans h1Zomq39
      have F40 := Zfr.tr F17 fqt19 (by decide)
      have := li_1
      obtain ⟨bf2qt19, bt2qt19, bd2qt19, bksqt19, bklqt19, bnaqt19, blbqt19, bvnqt19, h0ZNnqt19, h1ZNnqt19, h2ZNnqt19, h3ZNnqt19, h4ZNnqt19, h5ZNnqt19, h6ZNnqt19, h7ZNnqt19, h8ZNnqt19, tksqt19, tklqt19, r0ZNnqt19, r1ZNnqt19, r2ZNnqt19, r3ZNnqt19, r4ZNnqt19, r5ZNnqt19, r6ZNnqt19, r7ZNnqt19, r8ZNnqt19, r9ZNnqt19, r10ZNnqt19, r11ZNnqt19, r12ZNnqt19, r13ZNnqt19, r14ZNnqt19, r15ZNnqt19, r16ZNnqt19, r17ZNnqt19, r18ZNnqt19, k0ZNnqt19, k1ZNnqt19, k2ZNnqt19, k3ZNnqt19, k4ZNnqt19⟩ := pbZNnqt19
      exact ⟨_, eqt19, Wqt19, F40, ⟨bf2qt19, bt2qt19, bd2qt19, bksqt19, bklqt19, bnaqt19, blbqt19, bvnqt19, h0ZNnqt19, h1ZNnqt19, h2ZNnqt19, h3ZNnqt19, h4ZNnqt19, h5ZNnqt19, h6ZNnqt19, h7ZNnqt19, h8ZNnqt19, tksqt19, tklqt19, by (try dsimp only); omega, by (try dsimp only); omega, by (try dsimp only); omega, by (try dsimp only); omega, by (try dsimp only); omega, by (try dsimp only); omega, by (try dsimp only); omega, by (try dsimp only); omega, by (try dsimp only); omega, by (try dsimp only); omega, by (try dsimp only); omega, by (try dsimp only); omega, by (try dsimp only); omega, by (try dsimp only); omega, by (try dsimp only); omega, by (try dsimp only); omega, by (try dsimp only); omega, by (try dsimp only); omega, by (try dsimp only); omega, k0ZNnqt19, k1ZNnqt19, k2ZNnqt19, k3ZNnqt19, k4ZNnqt19⟩⟩
    · have hq18 := i_ne hq18
      obtain ⟨w43, ew43⟩ := go_64 Wq39 t_x0
      refine wb ew43 ?_
      obtain ⟨q42, eq42, Wq42, fq42, pl0q42, pu0q42, pbZnsq42⟩ := p_Mo_newSlot hn Wq39  t_x0 (by omega) (by omega) (by omega) (by omega) e4 e7 e9
      refine wb eq42 ?_
      have e53 := (Zfr.gi fq42 t_x0 (by decide)).trans e4
      have e54 := (Zfr.gi fq42 t_x0 (by decide)).trans e5
      have e55 := (Zfr.gi fq42 t_x0 (by decide)).trans e6
      have e56 := (Zfr.gr fq42 t_x0 (by decide)).trans e7
      have e57 := (Zfr.gr fq42 t_x0 (by decide)).trans e8
      have e58 := (Zfr.ai fq42 tkl0 (by decide)).trans e10
      have e59 := (Zfr.gi fq42 t_x0 (by decide)).trans h0Zomq39
      have e60 := (Zfr.gi fq42 t_x0 (by decide)).trans h1Zomq39
      have k61 := GtP_fr k11 fq42 t_x0 Wq39 (by decide)
      have sc63 := Sc_fr fq42 t_x0 (by decide) (by decide) (by decide)
      have k62 := WyN_fr k12 fq42 t_x0 Wq39 (by decide) sc63
      have k64 := TbI_fr k14 fq42 t_x0 Wq39 (by decide) sc63
      have k65 := TbC_fr k15 fq42 t_x0 Wq39 (by decide) sc63
      have k66 := TkN_fr k16 fq42 t_x0 Wq39 (by decide)
      have F67 := Zfr.tr F17 fq42 (by decide)
      obtain ⟨bksq42, bn2q42, h0Znsq42, h1Znsq42, h2Znsq42, tksq42, r0Znsq42⟩ := pbZnsq42
      obtain ⟨qt68, eqt68, Wqt68, fqt68, pbZNnqt68⟩ := p_Mo_nodeOf_172 hn Wq42 (x2 := q42.1) (ni := ni) (bc := bc) (n1 := n1) t_x0 (by omega) (by omega) (by omega) (by omega) (by omega) (by omega) (by omega) (by omega) h0Znsq42 e59 e54 e55 (by omega) ⟨bksq42, bkl0, bn2q42, blb0, bv2q39, h0Znsq42, e59, e54, e55, h1Znsq42, e57, h2Znsq42, e58, e60, tksq42, tkl0, by (try dsimp only); omega, by (try dsimp only); omega, by (try dsimp only); omega, by (try dsimp only); omega, by (try dsimp only); omega, by (try dsimp only); omega, by (try dsimp only); omega, by (try dsimp only); omega, by (try dsimp only); omega, by (try dsimp only); omega, by (try dsimp only); omega, by (try dsimp only); omega, by (try dsimp only); omega, by (try dsimp only); omega, by (try dsimp only); omega, by (try dsimp only); omega, k61, k62, k64, k65, k66⟩
      have e82 := (Zfr.gi fqt68 t_x0 (by decide)).trans h0Znsq42
      have e83 := (Zfr.gi fqt68 t_x0 (by decide)).trans e55
      have e84 := (Zfr.gr fqt68 t_x0 (by decide)).trans h1Znsq42
      have e85 := (Zfr.gr fqt68 t_x0 (by decide)).trans e57
      have e86 := (Zfr.ai fqt68 tkl0 (by decide)).trans e58
      have e87 := (Zfr.gi fqt68 t_x0 (by decide)).trans e60
      have e88 := (Zfr.ai fqt68 tksq42 (by decide)).trans h2Znsq42
      have F89 := Zfr.tr F67 fqt68 (by decide)
      have := li_1
      obtain ⟨bf2qt68, bt2qt68, bd2qt68, bksqt68, bklqt68, bnaqt68, blbqt68, bvnqt68, h0ZNnqt68, h1ZNnqt68, h2ZNnqt68, h3ZNnqt68, h4ZNnqt68, h5ZNnqt68, h6ZNnqt68, h7ZNnqt68, h8ZNnqt68, tksqt68, tklqt68, r0ZNnqt68, r1ZNnqt68, r2ZNnqt68, r3ZNnqt68, r4ZNnqt68, r5ZNnqt68, r6ZNnqt68, r7ZNnqt68, r8ZNnqt68, r9ZNnqt68, r10ZNnqt68, r11ZNnqt68, r12ZNnqt68, r13ZNnqt68, r14ZNnqt68, r15ZNnqt68, r16ZNnqt68, r17ZNnqt68, r18ZNnqt68, k0ZNnqt68, k1ZNnqt68, k2ZNnqt68, k3ZNnqt68, k4ZNnqt68⟩ := pbZNnqt68
      exact ⟨_, eqt68, Wqt68, F89, ⟨bf2qt68, bt2qt68, bd2qt68, bksqt68, bklqt68, bnaqt68, blbqt68, bvnqt68, h0ZNnqt68, h1ZNnqt68, h2ZNnqt68, h3ZNnqt68, h4ZNnqt68, h5ZNnqt68, h6ZNnqt68, h7ZNnqt68, h8ZNnqt68, tksqt68, tklqt68, by (try dsimp only); omega, by (try dsimp only); omega, by (try dsimp only); omega, by (try dsimp only); omega, by (try dsimp only); omega, by (try dsimp only); omega, by (try dsimp only); omega, by (try dsimp only); omega, by (try dsimp only); omega, by (try dsimp only); omega, by (try dsimp only); omega, by (try dsimp only); omega, by (try dsimp only); omega, by (try dsimp only); omega, by (try dsimp only); omega, by (try dsimp only); omega, by (try dsimp only); omega, by (try dsimp only); omega, by (try dsimp only); omega, k0ZNnqt68, k1ZNnqt68, k2ZNnqt68, k3ZNnqt68, k4ZNnqt68⟩⟩
  · have := li_0
    have hq1 := i_ne hq1
    obtain ⟨qt99, eqt99, Wqt99, fqt99, pbZNnqt99⟩ := p_Mo_nodeOf_172 hn W (x2 := x2) (ni := ni) (bc := bc) (n1 := n1) t_x0 (by omega) (by omega) (by omega) (by omega) (by omega) (by omega) (by omega) (by omega) h0ZN0 h1ZN0 h2ZN0 h3ZN0 (by omega) ⟨bks0, bkl0, bna0, blb0, bvn0, h0ZN0, h1ZN0, h2ZN0, h3ZN0, h4ZN0, h5ZN0, h6ZN0, h7ZN0, h8ZN0, tks0, tkl0, by (try dsimp only); omega, by (try dsimp only); omega, by (try dsimp only); omega, by (try dsimp only); omega, by (try dsimp only); omega, by (try dsimp only); omega, by (try dsimp only); omega, by (try dsimp only); omega, by (try dsimp only); omega, by (try dsimp only); omega, by (try dsimp only); omega, by (try dsimp only); omega, by (try dsimp only); omega, by (try dsimp only); omega, by (try dsimp only); omega, by (try dsimp only); omega, k0ZN0, k1ZN0, k2ZN0, k3ZN0, k4ZN0⟩
    have e113 := (Zfr.gi fqt99 t_x0 (by decide)).trans h0ZN0
    have e114 := (Zfr.gi fqt99 t_x0 (by decide)).trans h3ZN0
    have e115 := (Zfr.gr fqt99 t_x0 (by decide)).trans h4ZN0
    have e116 := (Zfr.gr fqt99 t_x0 (by decide)).trans h5ZN0
    have e117 := (Zfr.ai fqt99 tks0 (by decide)).trans h6ZN0
    have e118 := (Zfr.ai fqt99 tkl0 (by decide)).trans h7ZN0
    have e119 := (Zfr.gi fqt99 t_x0 (by decide)).trans h8ZN0
    have F120 := Zfr.tr F0 fqt99 (by decide)
    have := li_1
    obtain ⟨bf2qt99, bt2qt99, bd2qt99, bksqt99, bklqt99, bnaqt99, blbqt99, bvnqt99, h0ZNnqt99, h1ZNnqt99, h2ZNnqt99, h3ZNnqt99, h4ZNnqt99, h5ZNnqt99, h6ZNnqt99, h7ZNnqt99, h8ZNnqt99, tksqt99, tklqt99, r0ZNnqt99, r1ZNnqt99, r2ZNnqt99, r3ZNnqt99, r4ZNnqt99, r5ZNnqt99, r6ZNnqt99, r7ZNnqt99, r8ZNnqt99, r9ZNnqt99, r10ZNnqt99, r11ZNnqt99, r12ZNnqt99, r13ZNnqt99, r14ZNnqt99, r15ZNnqt99, r16ZNnqt99, r17ZNnqt99, r18ZNnqt99, k0ZNnqt99, k1ZNnqt99, k2ZNnqt99, k3ZNnqt99, k4ZNnqt99⟩ := pbZNnqt99
    exact ⟨_, eqt99, Wqt99, F120, ⟨bf2qt99, bt2qt99, bd2qt99, bksqt99, bklqt99, bnaqt99, blbqt99, bvnqt99, h0ZNnqt99, h1ZNnqt99, h2ZNnqt99, h3ZNnqt99, h4ZNnqt99, h5ZNnqt99, h6ZNnqt99, h7ZNnqt99, h8ZNnqt99, tksqt99, tklqt99, by (try dsimp only); omega, by (try dsimp only); omega, by (try dsimp only); omega, by (try dsimp only); omega, by (try dsimp only); omega, by (try dsimp only); omega, by (try dsimp only); omega, by (try dsimp only); omega, by (try dsimp only); omega, by (try dsimp only); omega, by (try dsimp only); omega, by (try dsimp only); omega, by (try dsimp only); omega, by (try dsimp only); omega, by (try dsimp only); omega, by (try dsimp only); omega, by (try dsimp only); omega, by (try dsimp only); omega, by (try dsimp only); omega, k0ZNnqt99, k1ZNnqt99, k2ZNnqt99, k3ZNnqt99, k4ZNnqt99⟩⟩

abbrev M_Mo_nodeOf_118 : List (Nat × Nat) := [(64, 18), (64, 19), (64, 20), (64, 57), (79, 0), (82, 0), (83, 0)]
set_option maxRecDepth 100000 in
set_option maxHeartbeats 400000 in
theorem p_Mo_nodeOf_118 {nf : Nat} (hn : 8589934592 ≤ nf) {G : List Nat} {c : Zc} (W : Zwt zty G c) {x0 : Nat} {x1 : Int32} {x2 : Int32} {ni : Int32} {bc : Int32} {n1 : Int32} {pv : Int32} {fv : Int32} {tv : Int32} {dv : Int32} (t_x0 : G[x0]? = some 64) (pl_pv : 0 ≤ pv.toInt) (pu_pv : pv.toInt ≤ 8) (pl_fv : 0 ≤ fv.toInt) (pu_fv : fv.toInt ≤ 6) (pl_tv : 0 ≤ tv.toInt) (pu_tv : tv.toInt ≤ 200) (pl_dv : 0 ≤ dv.toInt) (pu_dv : dv.toInt ≤ 11) (pl_x2 : (-1) ≤ x2.toInt) (pu_x2 : x2.toInt ≤ (-1)) (eh_pv : zgi c x0 12 25 = some pv) (eh_fv : zgi c x0 12 19 = some fv) (eh_tv : zgi c x0 12 18 = some tv) (eh_dv : zgi c x0 12 53 = some dv) (hb_ZN : ZN G c x0 pv fv tv dv ni bc n1) : ∃ q, f_Mo_nodeOf_118 nf x0 x1 x2 c = some q ∧ Zwt zty G q.2 ∧ Zfr G M_Mo_nodeOf_118 c q.2 ∧ ZNn G q.2 x0 pv fv tv dv ni bc n1 1 q.1 := by
  have F0 : Zfr G M_Mo_nodeOf_118 c c := Zfr.rf
  unfold f_Mo_nodeOf_118
  obtain ⟨bks0, bkl0, bna0, blb0, bvn0, h0ZN0, h1ZN0, h2ZN0, h3ZN0, h4ZN0, h5ZN0, h6ZN0, h7ZN0, h8ZN0, tks0, tkl0, r0ZN0, r1ZN0, r2ZN0, r3ZN0, r4ZN0, r5ZN0, r6ZN0, r7ZN0, r8ZN0, r9ZN0, r10ZN0, r11ZN0, r12ZN0, r13ZN0, r14ZN0, r15ZN0, k0ZN0, k1ZN0, k2ZN0, k3ZN0, k4ZN0⟩ := hb_ZN
  refine wb h1ZN0 ?_
  refine wi (fun hq1 => ?_) (fun hq1 => ?_)
  · have := li_0
    have hq1 := i_eq hq1
    obtain ⟨w35, ew35⟩ := go_64 W t_x0
    refine wb ew35 ?_
    obtain ⟨q34, eq34, Wq34, fq34, pbZScq34, pbZkdq34⟩ := p_Mo_kind hn W  t_x0 (by omega) (by omega) (by omega) (by omega) h1ZN0 h2ZN0
    refine wb eq34 ?_
    have e4 := (Zfr.gi fq34 t_x0 (by decide)).trans h0ZN0
    have e5 := (Zfr.gi fq34 t_x0 (by decide)).trans h2ZN0
    have e6 := (Zfr.gi fq34 t_x0 (by decide)).trans h3ZN0
    have e7 := (Zfr.gr fq34 t_x0 (by decide)).trans h4ZN0
    have e8 := (Zfr.gr fq34 t_x0 (by decide)).trans h5ZN0
    have e9 := (Zfr.ai fq34 tks0 (by decide)).trans h6ZN0
    have e10 := (Zfr.ai fq34 tkl0 (by decide)).trans h7ZN0
    have e11 := (Zfr.gi fq34 t_x0 (by decide)).trans h8ZN0
    have k12 := GtP_fr k0ZN0 fq34 t_x0 W (by decide)
    have sc14 : Sc c q34.2 x0 (0) (0) := by
      obtain ⟨yf2, z0y, x0y, x1y, x2y, x3y⟩ := pbZScq34
      exact Sc_mk h1ZN0 z0y h2ZN0 ((Zfr.gi (ci := 12) fq34 t_x0 (by decide)).trans h2ZN0) h3ZN0 ((Zfr.gi (ci := 12) fq34 t_x0 (by decide)).trans h3ZN0) (by omega)
    have k13 := WyN_fr k1ZN0 fq34 t_x0 W (by decide) sc14
    have k15 := TbI_fr k2ZN0 fq34 t_x0 W (by decide) sc14
    have k16 := TbC_fr k3ZN0 fq34 t_x0 W (by decide) sc14
    have k17 := TkN_fr k4ZN0 fq34 t_x0 W (by decide)
    have F18 := Zfr.tr F0 fq34 (by decide)
    obtain ⟨bf2q34, h0ZScq34, r0ZScq34, r1ZScq34, r2ZScq34, r3ZScq34⟩ := pbZScq34
    obtain ⟨bkkq34, h0Zkdq34, h1Zkdq34, tkkq34⟩ := pbZkdq34
    refine wi (fun hq19 => ?_) (fun hq19 => ?_)
    · have := li_58
      have := i_ge q34.1
      have := i_up q34.1
      have hq19 := i_eq hq19
      obtain ⟨qt20, eqt20, Wqt20, fqt20, pbZNnqt20⟩ := p_Mo_nodeOf_152 hn Wq34 (x1 := x1) (x2 := x2) (ni := ni) (bc := bc) (n1 := n1) t_x0 (by omega) (by omega) (by omega) (by omega) (by omega) (by omega) (by omega) (by omega) (by omega) (by omega) e4 h0ZScq34 e5 e6 ⟨bks0, bkl0, bna0, blb0, bvn0, e4, h0ZScq34, e5, e6, e7, e8, e9, e10, e11, tks0, tkl0, by (try dsimp only); omega, by (try dsimp only); omega, by (try dsimp only); omega, by (try dsimp only); omega, by (try dsimp only); omega, by (try dsimp only); omega, by (try dsimp only); omega, by (try dsimp only); omega, by (try dsimp only); omega, by (try dsimp only); omega, by (try dsimp only); omega, by (try dsimp only); omega, by (try dsimp only); omega, by (try dsimp only); omega, by (try dsimp only); omega, by (try dsimp only); omega, k12, k13, k15, k16, k17⟩
      have e34 := (Zfr.gi fqt20 t_x0 (by decide)).trans e4
      have e35 := (Zfr.gi fqt20 t_x0 (by decide)).trans e6
      have e36 := (Zfr.gr fqt20 t_x0 (by decide)).trans e7
      have e37 := (Zfr.gr fqt20 t_x0 (by decide)).trans e8
      have e38 := (Zfr.ai fqt20 tkl0 (by decide)).trans e10
      have e39 := (Zfr.gr fqt20 t_x0 (by decide)).trans h0Zkdq34
      have e40 := (Zfr.ai fqt20 tkkq34 (by decide)).trans h1Zkdq34
      have F41 := Zfr.tr F18 fqt20 (by decide)
      have := li_1
      obtain ⟨bf2qt20, bt2qt20, bd2qt20, bksqt20, bklqt20, bnaqt20, blbqt20, bvnqt20, h0ZNnqt20, h1ZNnqt20, h2ZNnqt20, h3ZNnqt20, h4ZNnqt20, h5ZNnqt20, h6ZNnqt20, h7ZNnqt20, h8ZNnqt20, tksqt20, tklqt20, r0ZNnqt20, r1ZNnqt20, r2ZNnqt20, r3ZNnqt20, r4ZNnqt20, r5ZNnqt20, r6ZNnqt20, r7ZNnqt20, r8ZNnqt20, r9ZNnqt20, r10ZNnqt20, r11ZNnqt20, r12ZNnqt20, r13ZNnqt20, r14ZNnqt20, r15ZNnqt20, r16ZNnqt20, r17ZNnqt20, r18ZNnqt20, k0ZNnqt20, k1ZNnqt20, k2ZNnqt20, k3ZNnqt20, k4ZNnqt20⟩ := pbZNnqt20
      exact ⟨_, eqt20, Wqt20, F41, ⟨bf2qt20, bt2qt20, bd2qt20, bksqt20, bklqt20, bnaqt20, blbqt20, bvnqt20, h0ZNnqt20, h1ZNnqt20, h2ZNnqt20, h3ZNnqt20, h4ZNnqt20, h5ZNnqt20, h6ZNnqt20, h7ZNnqt20, h8ZNnqt20, tksqt20, tklqt20, by (try dsimp only); omega, by (try dsimp only); omega, by (try dsimp only); omega, by (try dsimp only); omega, by (try dsimp only); omega, by (try dsimp only); omega, by (try dsimp only); omega, by (try dsimp only); omega, by (try dsimp only); omega, by (try dsimp only); omega, by (try dsimp only); omega, by (try dsimp only); omega, by (try dsimp only); omega, by (try dsimp only); omega, by (try dsimp only); omega, by (try dsimp only); omega, by (try dsimp only); omega, by (try dsimp only); omega, by (try dsimp only); omega, k0ZNnqt20, k1ZNnqt20, k2ZNnqt20, k3ZNnqt20, k4ZNnqt20⟩⟩
    · have := li_58
      have := i_ge q34.1
      have := i_up q34.1
      have hq19 := i_ne hq19
      refine wb h0Zkdq34 ?_
      refine wb e5 ?_
      refine wb h1Zkdq34 ?_
      refine wi (fun hq51 => ?_) (fun hq51 => ?_)
      · have := li_41
        have hq51 := i_eq hq51
        obtain ⟨qt52, eqt52, Wqt52, fqt52, pbZNnqt52⟩ := p_Mo_nodeOf_152 hn Wq34 (x1 := x1) (x2 := x2) (ni := ni) (bc := bc) (n1 := n1) t_x0 (by omega) (by omega) (by omega) (by omega) (by omega) (by omega) (by omega) (by omega) (by omega) (by omega) e4 h0ZScq34 e5 e6 ⟨bks0, bkl0, bna0, blb0, bvn0, e4, h0ZScq34, e5, e6, e7, e8, e9, e10, e11, tks0, tkl0, by (try dsimp only); omega, by (try dsimp only); omega, by (try dsimp only); omega, by (try dsimp only); omega, by (try dsimp only); omega, by (try dsimp only); omega, by (try dsimp only); omega, by (try dsimp only); omega, by (try dsimp only); omega, by (try dsimp only); omega, by (try dsimp only); omega, by (try dsimp only); omega, by (try dsimp only); omega, by (try dsimp only); omega, by (try dsimp only); omega, by (try dsimp only); omega, k12, k13, k15, k16, k17⟩
        have e66 := (Zfr.gi fqt52 t_x0 (by decide)).trans e4
        have e67 := (Zfr.gi fqt52 t_x0 (by decide)).trans e6
        have e68 := (Zfr.gr fqt52 t_x0 (by decide)).trans e7
        have e69 := (Zfr.gr fqt52 t_x0 (by decide)).trans e8
        have e70 := (Zfr.ai fqt52 tkl0 (by decide)).trans e10
        have e71 := (Zfr.gr fqt52 t_x0 (by decide)).trans h0Zkdq34
        have e72 := (Zfr.ai fqt52 tkkq34 (by decide)).trans h1Zkdq34
        have F73 := Zfr.tr F18 fqt52 (by decide)
        have := li_1
        obtain ⟨bf2qt52, bt2qt52, bd2qt52, bksqt52, bklqt52, bnaqt52, blbqt52, bvnqt52, h0ZNnqt52, h1ZNnqt52, h2ZNnqt52, h3ZNnqt52, h4ZNnqt52, h5ZNnqt52, h6ZNnqt52, h7ZNnqt52, h8ZNnqt52, tksqt52, tklqt52, r0ZNnqt52, r1ZNnqt52, r2ZNnqt52, r3ZNnqt52, r4ZNnqt52, r5ZNnqt52, r6ZNnqt52, r7ZNnqt52, r8ZNnqt52, r9ZNnqt52, r10ZNnqt52, r11ZNnqt52, r12ZNnqt52, r13ZNnqt52, r14ZNnqt52, r15ZNnqt52, r16ZNnqt52, r17ZNnqt52, r18ZNnqt52, k0ZNnqt52, k1ZNnqt52, k2ZNnqt52, k3ZNnqt52, k4ZNnqt52⟩ := pbZNnqt52
        exact ⟨_, eqt52, Wqt52, F73, ⟨bf2qt52, bt2qt52, bd2qt52, bksqt52, bklqt52, bnaqt52, blbqt52, bvnqt52, h0ZNnqt52, h1ZNnqt52, h2ZNnqt52, h3ZNnqt52, h4ZNnqt52, h5ZNnqt52, h6ZNnqt52, h7ZNnqt52, h8ZNnqt52, tksqt52, tklqt52, by (try dsimp only); omega, by (try dsimp only); omega, by (try dsimp only); omega, by (try dsimp only); omega, by (try dsimp only); omega, by (try dsimp only); omega, by (try dsimp only); omega, by (try dsimp only); omega, by (try dsimp only); omega, by (try dsimp only); omega, by (try dsimp only); omega, by (try dsimp only); omega, by (try dsimp only); omega, by (try dsimp only); omega, by (try dsimp only); omega, by (try dsimp only); omega, by (try dsimp only); omega, by (try dsimp only); omega, by (try dsimp only); omega, k0ZNnqt52, k1ZNnqt52, k2ZNnqt52, k3ZNnqt52, k4ZNnqt52⟩⟩
      · have := li_41
        have hq51 := i_ne hq51
        obtain ⟨w49, ew49⟩ := go_64 Wq34 t_x0
        refine wb ew49 ?_
        obtain ⟨q48, eq48, Wq48, fq48, pbZSfq48⟩ := p_Mo_wrong hn Wq34  t_x0 (by omega) (by omega) (by omega) (by omega) h0ZScq34 e5
        refine wb eq48 ?_
        have e85 := (Zfr.gi fq48 t_x0 (by decide)).trans e4
        have e86 := (Zfr.gi fq48 t_x0 (by decide)).trans e5
        have e87 := (Zfr.gi fq48 t_x0 (by decide)).trans e6
        have e88 := (Zfr.gr fq48 t_x0 (by decide)).trans e7
        have e89 := (Zfr.gr fq48 t_x0 (by decide)).trans e8
        have e90 := (Zfr.ai fq48 tks0 (by decide)).trans e9
        have e91 := (Zfr.ai fq48 tkl0 (by decide)).trans e10
        have e92 := (Zfr.gi fq48 t_x0 (by decide)).trans e11
        have e93 := (Zfr.gr fq48 t_x0 (by decide)).trans h0Zkdq34
        have e94 := (Zfr.ai fq48 tkkq34 (by decide)).trans h1Zkdq34
        have k95 := GtP_fr k12 fq48 t_x0 Wq34 (by decide)
        have sc97 : Sc q34.2 q48 x0 (0) (0) := by
          obtain ⟨yf2, z0y, x0y, x1y⟩ := pbZSfq48
          exact Sc_mk h0ZScq34 z0y e5 ((Zfr.gi (ci := 12) fq48 t_x0 (by decide)).trans e5) e6 ((Zfr.gi (ci := 12) fq48 t_x0 (by decide)).trans e6) (by omega)
        have k96 := WyN_fr k13 fq48 t_x0 Wq34 (by decide) sc97
        have k98 := TbI_fr k15 fq48 t_x0 Wq34 (by decide) sc97
        have k99 := TbC_fr k16 fq48 t_x0 Wq34 (by decide) sc97
        have k100 := TkN_fr k17 fq48 t_x0 Wq34 (by decide)
        have F101 := Zfr.tr F18 fq48 (by decide)
        obtain ⟨bf2q48, h0ZSfq48, r0ZSfq48, r1ZSfq48⟩ := pbZSfq48
        obtain ⟨qt102, eqt102, Wqt102, fqt102, pbZNnqt102⟩ := p_Mo_nodeOf_152 hn Wq48 (x1 := x1) (x2 := x2) (ni := ni) (bc := bc) (n1 := n1) t_x0 (by omega) (by omega) (by omega) (by omega) (by omega) (by omega) (by omega) (by omega) (by omega) (by omega) e85 h0ZSfq48 e86 e87 ⟨bks0, bkl0, bna0, blb0, bvn0, e85, h0ZSfq48, e86, e87, e88, e89, e90, e91, e92, tks0, tkl0, by (try dsimp only); omega, by (try dsimp only); omega, by (try dsimp only); omega, by (try dsimp only); omega, by (try dsimp only); omega, by (try dsimp only); omega, by (try dsimp only); omega, by (try dsimp only); omega, by (try dsimp only); omega, by (try dsimp only); omega, by (try dsimp only); omega, by (try dsimp only); omega, by (try dsimp only); omega, by (try dsimp only); omega, by (try dsimp only); omega, by (try dsimp only); omega, k95, k96, k98, k99, k100⟩
        have e116 := (Zfr.gi fqt102 t_x0 (by decide)).trans e85
        have e117 := (Zfr.gi fqt102 t_x0 (by decide)).trans e87
        have e118 := (Zfr.gr fqt102 t_x0 (by decide)).trans e88
        have e119 := (Zfr.gr fqt102 t_x0 (by decide)).trans e89
        have e120 := (Zfr.ai fqt102 tkl0 (by decide)).trans e91
        have e121 := (Zfr.gr fqt102 t_x0 (by decide)).trans e93
        have e122 := (Zfr.ai fqt102 tkkq34 (by decide)).trans e94
        have F123 := Zfr.tr F101 fqt102 (by decide)
        have := li_1
        obtain ⟨bf2qt102, bt2qt102, bd2qt102, bksqt102, bklqt102, bnaqt102, blbqt102, bvnqt102, h0ZNnqt102, h1ZNnqt102, h2ZNnqt102, h3ZNnqt102, h4ZNnqt102, h5ZNnqt102, h6ZNnqt102, h7ZNnqt102, h8ZNnqt102, tksqt102, tklqt102, r0ZNnqt102, r1ZNnqt102, r2ZNnqt102, r3ZNnqt102, r4ZNnqt102, r5ZNnqt102, r6ZNnqt102, r7ZNnqt102, r8ZNnqt102, r9ZNnqt102, r10ZNnqt102, r11ZNnqt102, r12ZNnqt102, r13ZNnqt102, r14ZNnqt102, r15ZNnqt102, r16ZNnqt102, r17ZNnqt102, r18ZNnqt102, k0ZNnqt102, k1ZNnqt102, k2ZNnqt102, k3ZNnqt102, k4ZNnqt102⟩ := pbZNnqt102
        exact ⟨_, eqt102, Wqt102, F123, ⟨bf2qt102, bt2qt102, bd2qt102, bksqt102, bklqt102, bnaqt102, blbqt102, bvnqt102, h0ZNnqt102, h1ZNnqt102, h2ZNnqt102, h3ZNnqt102, h4ZNnqt102, h5ZNnqt102, h6ZNnqt102, h7ZNnqt102, h8ZNnqt102, tksqt102, tklqt102, by (try dsimp only); omega, by (try dsimp only); omega, by (try dsimp only); omega, by (try dsimp only); omega, by (try dsimp only); omega, by (try dsimp only); omega, by (try dsimp only); omega, by (try dsimp only); omega, by (try dsimp only); omega, by (try dsimp only); omega, by (try dsimp only); omega, by (try dsimp only); omega, by (try dsimp only); omega, by (try dsimp only); omega, by (try dsimp only); omega, by (try dsimp only); omega, by (try dsimp only); omega, by (try dsimp only); omega, by (try dsimp only); omega, k0ZNnqt102, k1ZNnqt102, k2ZNnqt102, k3ZNnqt102, k4ZNnqt102⟩⟩
  · have := li_0
    have hq1 := i_ne hq1
    obtain ⟨qt133, eqt133, Wqt133, fqt133, pbZNnqt133⟩ := p_Mo_nodeOf_172 hn W (x2 := x2) (ni := ni) (bc := bc) (n1 := n1) t_x0 (by omega) (by omega) (by omega) (by omega) (by omega) (by omega) (by omega) (by omega) h0ZN0 h1ZN0 h2ZN0 h3ZN0 (by omega) ⟨bks0, bkl0, bna0, blb0, bvn0, h0ZN0, h1ZN0, h2ZN0, h3ZN0, h4ZN0, h5ZN0, h6ZN0, h7ZN0, h8ZN0, tks0, tkl0, by (try dsimp only); omega, by (try dsimp only); omega, by (try dsimp only); omega, by (try dsimp only); omega, by (try dsimp only); omega, by (try dsimp only); omega, by (try dsimp only); omega, by (try dsimp only); omega, by (try dsimp only); omega, by (try dsimp only); omega, by (try dsimp only); omega, by (try dsimp only); omega, by (try dsimp only); omega, by (try dsimp only); omega, by (try dsimp only); omega, by (try dsimp only); omega, k0ZN0, k1ZN0, k2ZN0, k3ZN0, k4ZN0⟩
    have e147 := (Zfr.gi fqt133 t_x0 (by decide)).trans h0ZN0
    have e148 := (Zfr.gi fqt133 t_x0 (by decide)).trans h3ZN0
    have e149 := (Zfr.gr fqt133 t_x0 (by decide)).trans h4ZN0
    have e150 := (Zfr.gr fqt133 t_x0 (by decide)).trans h5ZN0
    have e151 := (Zfr.ai fqt133 tks0 (by decide)).trans h6ZN0
    have e152 := (Zfr.ai fqt133 tkl0 (by decide)).trans h7ZN0
    have e153 := (Zfr.gi fqt133 t_x0 (by decide)).trans h8ZN0
    have F154 := Zfr.tr F0 fqt133 (by decide)
    have := li_1
    obtain ⟨bf2qt133, bt2qt133, bd2qt133, bksqt133, bklqt133, bnaqt133, blbqt133, bvnqt133, h0ZNnqt133, h1ZNnqt133, h2ZNnqt133, h3ZNnqt133, h4ZNnqt133, h5ZNnqt133, h6ZNnqt133, h7ZNnqt133, h8ZNnqt133, tksqt133, tklqt133, r0ZNnqt133, r1ZNnqt133, r2ZNnqt133, r3ZNnqt133, r4ZNnqt133, r5ZNnqt133, r6ZNnqt133, r7ZNnqt133, r8ZNnqt133, r9ZNnqt133, r10ZNnqt133, r11ZNnqt133, r12ZNnqt133, r13ZNnqt133, r14ZNnqt133, r15ZNnqt133, r16ZNnqt133, r17ZNnqt133, r18ZNnqt133, k0ZNnqt133, k1ZNnqt133, k2ZNnqt133, k3ZNnqt133, k4ZNnqt133⟩ := pbZNnqt133
    exact ⟨_, eqt133, Wqt133, F154, ⟨bf2qt133, bt2qt133, bd2qt133, bksqt133, bklqt133, bnaqt133, blbqt133, bvnqt133, h0ZNnqt133, h1ZNnqt133, h2ZNnqt133, h3ZNnqt133, h4ZNnqt133, h5ZNnqt133, h6ZNnqt133, h7ZNnqt133, h8ZNnqt133, tksqt133, tklqt133, by (try dsimp only); omega, by (try dsimp only); omega, by (try dsimp only); omega, by (try dsimp only); omega, by (try dsimp only); omega, by (try dsimp only); omega, by (try dsimp only); omega, by (try dsimp only); omega, by (try dsimp only); omega, by (try dsimp only); omega, by (try dsimp only); omega, by (try dsimp only); omega, by (try dsimp only); omega, by (try dsimp only); omega, by (try dsimp only); omega, by (try dsimp only); omega, by (try dsimp only); omega, by (try dsimp only); omega, by (try dsimp only); omega, k0ZNnqt133, k1ZNnqt133, k2ZNnqt133, k3ZNnqt133, k4ZNnqt133⟩⟩

abbrev M_Mo_nodeOf : List (Nat × Nat) := [(64, 18), (64, 19), (64, 20), (64, 57), (79, 0), (82, 0), (83, 0), (105, 0), (106, 0)]
set_option maxRecDepth 100000 in
set_option maxHeartbeats 400000 in
theorem p_Mo_nodeOf {nf : Nat} (hn : 8589934592 ≤ nf) {G : List Nat} {c : Zc} (W : Zwt zty G c) {a0 : Nat} {ni : Int32} {bc : Int32} {n1 : Int32} {pv : Int32} {fv : Int32} {tv : Int32} {dv : Int32} (t_a0 : G[a0]? = some 64) (pl_pv : 0 ≤ pv.toInt) (pu_pv : pv.toInt ≤ 8) (pl_fv : 0 ≤ fv.toInt) (pu_fv : fv.toInt ≤ 6) (pl_tv : 0 ≤ tv.toInt) (pu_tv : tv.toInt ≤ 200) (pl_dv : 0 ≤ dv.toInt) (pu_dv : dv.toInt ≤ 11) (eh_pv : zgi c a0 12 25 = some pv) (eh_fv : zgi c a0 12 19 = some fv) (eh_tv : zgi c a0 12 18 = some tv) (eh_dv : zgi c a0 12 53 = some dv) (hb_ZN : ZN G c a0 pv fv tv dv ni bc n1) : ∃ q, f_Mo_nodeOf nf a0 c = some q ∧ Zwt zty G q.2 ∧ Zfr G M_Mo_nodeOf c q.2 ∧ ZNn G q.2 a0 pv fv tv dv ni bc n1 2 q.1 := by
  have F0 : Zfr G M_Mo_nodeOf c c := Zfr.rf
  unfold f_Mo_nodeOf
  obtain ⟨bks0, bkl0, bna0, blb0, bvn0, h0ZN0, h1ZN0, h2ZN0, h3ZN0, h4ZN0, h5ZN0, h6ZN0, h7ZN0, h8ZN0, tks0, tkl0, r0ZN0, r1ZN0, r2ZN0, r3ZN0, r4ZN0, r5ZN0, r6ZN0, r7ZN0, r8ZN0, r9ZN0, r10ZN0, r11ZN0, r12ZN0, r13ZN0, r14ZN0, r15ZN0, k0ZN0, k1ZN0, k2ZN0, k3ZN0, k4ZN0⟩ := hb_ZN
  obtain ⟨v1, ev1, tv1⟩ := gf_64_16 W t_a0
  refine wb ev1 ?_
  refine wb h2ZN0 ?_
  obtain ⟨v3, ev3, _⟩ := ga_76 W tv1 (i := tv) (by omega) (by omega)
  refine wb ev3 ?_
  obtain ⟨w5, ew5⟩ := go_64 W t_a0
  refine wb ew5 ?_
  have := li_40
  obtain ⟨q4, eq4, Wq4, fq4, pbZSq4⟩ := p_Mo_need hn W (a1 := 40) t_a0 (by omega) (by omega) (by omega) (by omega) h1ZN0 h2ZN0
  refine wb eq4 ?_
  have e3 := (Zfr.gi fq4 t_a0 (by decide)).trans h0ZN0
  have e4 := (Zfr.gi fq4 t_a0 (by decide)).trans h3ZN0
  have e5 := (Zfr.gr fq4 t_a0 (by decide)).trans h4ZN0
  have e6 := (Zfr.gr fq4 t_a0 (by decide)).trans h5ZN0
  have e7 := (Zfr.ai fq4 tks0 (by decide)).trans h6ZN0
  have e8 := (Zfr.ai fq4 tkl0 (by decide)).trans h7ZN0
  have e9 := (Zfr.gi fq4 t_a0 (by decide)).trans h8ZN0
  have e10 := (Zfr.gr fq4 t_a0 (by decide)).trans ev1
  have e11 := (Zfr.ai fq4 tv1 (by decide)).trans ev3
  have k12 := GtP_fr k0ZN0 fq4 t_a0 W (by decide)
  have := li_1
  have sc14 : Sc c q4 a0 (1) (0) := by
    obtain ⟨yf2, yt2, z0y, z1y, x0y, x1y, x2y, x3y, x4y, x5y⟩ := pbZSq4
    exact Sc_mk h1ZN0 z0y h2ZN0 z1y h3ZN0 ((Zfr.gi (ci := 12) fq4 t_a0 (by decide)).trans h3ZN0) (by omega)
  have k13 := WyN_fr k1ZN0 fq4 t_a0 W (by decide) sc14
  have k15 := TbI_fr k2ZN0 fq4 t_a0 W (by decide) sc14
  have k16 := TbC_fr k3ZN0 fq4 t_a0 W (by decide) sc14
  have k17 := TkN_fr k4ZN0 fq4 t_a0 W (by decide)
  have F18 := Zfr.tr F0 fq4 (by decide)
  obtain ⟨bf2q4, bt2q4, h0ZSq4, h1ZSq4, r0ZSq4, r1ZSq4, r2ZSq4, r3ZSq4, r4ZSq4, r5ZSq4⟩ := pbZSq4
  refine wb h0ZSq4 ?_
  refine wi (fun hq19 => ?_) (fun hq19 => ?_)
  · have := li_0
    have hq19 := i_eq hq19
    obtain ⟨w51, ew51⟩ := go_64 Wq4 t_a0
    refine wb ew51 ?_
    obtain ⟨q50, eq50, Wq50, fq50, pbZScq50, pbZkdq50⟩ := p_Mo_kind hn Wq4  t_a0 (by omega) (by omega) (by omega) (by omega) h0ZSq4 h1ZSq4
    refine wb eq50 ?_
    have e22 := (Zfr.gi fq50 t_a0 (by decide)).trans e3
    have e23 := (Zfr.gi fq50 t_a0 (by decide)).trans e4
    have e24 := (Zfr.gr fq50 t_a0 (by decide)).trans e5
    have e25 := (Zfr.gr fq50 t_a0 (by decide)).trans e6
    have e26 := (Zfr.ai fq50 tks0 (by decide)).trans e7
    have e27 := (Zfr.ai fq50 tkl0 (by decide)).trans e8
    have e28 := (Zfr.gi fq50 t_a0 (by decide)).trans e9
    have e29 := (Zfr.gr fq50 t_a0 (by decide)).trans e10
    have e30 := (Zfr.ai fq50 tv1 (by decide)).trans e11
    have e31 := (Zfr.gi fq50 t_a0 (by decide)).trans h1ZSq4
    have k32 := GtP_fr k12 fq50 t_a0 Wq4 (by decide)
    have sc34 : Sc q4 q50.2 a0 (0) (0) := by
      obtain ⟨yf2, z0y, x0y, x1y, x2y, x3y⟩ := pbZScq50
      exact Sc_mk h0ZSq4 z0y h1ZSq4 ((Zfr.gi (ci := 12) fq50 t_a0 (by decide)).trans h1ZSq4) e4 ((Zfr.gi (ci := 12) fq50 t_a0 (by decide)).trans e4) (by omega)
    have k33 := WyN_fr k13 fq50 t_a0 Wq4 (by decide) sc34
    have k35 := TbI_fr k15 fq50 t_a0 Wq4 (by decide) sc34
    have k36 := TbC_fr k16 fq50 t_a0 Wq4 (by decide) sc34
    have k37 := TkN_fr k17 fq50 t_a0 Wq4 (by decide)
    have F38 := Zfr.tr F18 fq50 (by decide)
    obtain ⟨bf2q50, h0ZScq50, r0ZScq50, r1ZScq50, r2ZScq50, r3ZScq50⟩ := pbZScq50
    obtain ⟨bkkq50, h0Zkdq50, h1Zkdq50, tkkq50⟩ := pbZkdq50
    refine wi (fun hq39 => ?_) (fun hq39 => ?_)
    · have := li_2
      have := i_ge q50.1
      have := i_up q50.1
      have hq39 := i_eq hq39
      obtain ⟨v53, ev53, tv53⟩ := gf_64_15 Wq50 t_a0
      refine wb ev53 ?_
      refine wb e31 ?_
      obtain ⟨v55, ev55, _⟩ := ga_75 Wq50 tv53 (i := bt2q4) (by omega) (by omega)
      have ht40 := TkM_at (k37 _ _ h0Zkdq50 ev53) h1Zkdq50 ev55
      have := tkr2 ht40 (by omega)
      refine wb ev55 ?_
      obtain ⟨w57, ew57⟩ := go_64 Wq50 t_a0
      refine wb ew57 ?_
      obtain ⟨q56, eq56, Wq56, fq56, pbZStq56⟩ := p_Mo_stands hn Wq50  t_a0 (by omega) (by omega) (by omega) (by omega) h0ZScq50 e31
      refine wb eq56 ?_
      have e43 := (Zfr.gi fq56 t_a0 (by decide)).trans e22
      have e44 := (Zfr.gi fq56 t_a0 (by decide)).trans e23
      have e45 := (Zfr.gr fq56 t_a0 (by decide)).trans e24
      have e46 := (Zfr.gr fq56 t_a0 (by decide)).trans e25
      have e47 := (Zfr.ai fq56 tks0 (by decide)).trans e26
      have e48 := (Zfr.ai fq56 tkl0 (by decide)).trans e27
      have e49 := (Zfr.gi fq56 t_a0 (by decide)).trans e28
      have e50 := (Zfr.gr fq56 t_a0 (by decide)).trans e29
      have e51 := (Zfr.ai fq56 tv1 (by decide)).trans e30
      have e52 := (Zfr.gi fq56 t_a0 (by decide)).trans e31
      have e53 := (Zfr.gr fq56 t_a0 (by decide)).trans h0Zkdq50
      have e54 := (Zfr.ai fq56 tkkq50 (by decide)).trans h1Zkdq50
      have e55 := (Zfr.gr fq56 t_a0 (by decide)).trans ev53
      have e56 := (Zfr.ai fq56 tv53 (by decide)).trans ev55
      have k57 := GtP_fr k32 fq56 t_a0 Wq50 (by decide)
      have sc59 : Sc q50.2 q56 a0 (0) (0) := by
        obtain ⟨yf2, z0y, x0y, x1y, x2y⟩ := pbZStq56
        exact Sc_mk h0ZScq50 z0y e31 ((Zfr.gi (ci := 12) fq56 t_a0 (by decide)).trans e31) e23 ((Zfr.gi (ci := 12) fq56 t_a0 (by decide)).trans e23) (by omega)
      have k58 := WyN_fr k33 fq56 t_a0 Wq50 (by decide) sc59
      have k60 := TbI_fr k35 fq56 t_a0 Wq50 (by decide) sc59
      have k61 := TbC_fr k36 fq56 t_a0 Wq50 (by decide) sc59
      have k62 := TkN_fr k37 fq56 t_a0 Wq50 (by decide)
      have F63 := Zfr.tr F38 fq56 (by decide)
      obtain ⟨bf2q56, h0ZStq56, r0ZStq56, r1ZStq56, r2ZStq56⟩ := pbZStq56
      obtain ⟨w59, ew59⟩ := go_64 Wq56 t_a0
      refine wb ew59 ?_
      obtain ⟨q58, eq58, Wq58, fq58, po0q58, pl1q58, pu1q58⟩ := p_Mo_meaning hn Wq56 (a1 := v55) t_a0 (by omega) (by omega)
      refine wb eq58 ?_
      have e64 := (Zfr.gi fq58 t_a0 (by decide)).trans e43
      have e65 := (Zfr.gi fq58 t_a0 (by decide)).trans e44
      have e66 := (Zfr.gr fq58 t_a0 (by decide)).trans e45
      have e67 := (Zfr.gr fq58 t_a0 (by decide)).trans e46
      have e68 := (Zfr.ai fq58 tks0 (by decide)).trans e47
      have e69 := (Zfr.ai fq58 tkl0 (by decide)).trans e48
      have e70 := (Zfr.gi fq58 t_a0 (by decide)).trans e49
      have e71 := (Zfr.gr fq58 t_a0 (by decide)).trans e50
      have e72 := (Zfr.ai fq58 tv1 (by decide)).trans e51
      have e73 := (Zfr.gi fq58 t_a0 (by decide)).trans e52
      have e74 := (Zfr.gr fq58 t_a0 (by decide)).trans e53
      have e75 := (Zfr.ai fq58 tkkq50 (by decide)).trans e54
      have e76 := (Zfr.gr fq58 t_a0 (by decide)).trans e55
      have e77 := (Zfr.ai fq58 tv53 (by decide)).trans e56
      have e78 := (Zfr.gi fq58 t_a0 (by decide)).trans h0ZStq56
      have k79 := GtP_fr k57 fq58 t_a0 Wq56 (by decide)
      have sc81 := Sc_fr fq58 t_a0 (by decide) (by decide) (by decide)
      have k80 := WyN_fr k58 fq58 t_a0 Wq56 (by decide) sc81
      have k82 := TbI_fr k60 fq58 t_a0 Wq56 (by decide) sc81
      have k83 := TbC_fr k61 fq58 t_a0 Wq56 (by decide) sc81
      have k84 := TkN_fr k62 fq58 t_a0 Wq56 (by decide)
      have F85 := Zfr.tr F63 fq58 (by decide)
      refine wi (fun hq86 => ?_) (fun hq86 => ?_)
      · have := li_100
        have hq86 := i_lt hq86
        obtain ⟨qt87, eqt87, Wqt87, fqt87, pbZNnqt87⟩ := p_Mo_nodeOf_73 hn Wq58 (x2 := q58.1) (x3 := v55) (ni := ni) (bc := bc) (n1 := n1) t_a0 (by omega) (by omega) (by omega) (by omega) (by omega) (by omega) (by omega) (by omega) (by omega) (by omega) (by omega) (by omega) e64 e78 e73 e65 (by omega) ⟨bks0, bkl0, bna0, blb0, bvn0, e64, e78, e73, e65, e66, e67, e68, e69, e70, tks0, tkl0, by (try dsimp only); omega, by (try dsimp only); omega, by (try dsimp only); omega, by (try dsimp only); omega, by (try dsimp only); omega, by (try dsimp only); omega, by (try dsimp only); omega, by (try dsimp only); omega, by (try dsimp only); omega, by (try dsimp only); omega, by (try dsimp only); omega, by (try dsimp only); omega, by (try dsimp only); omega, by (try dsimp only); omega, by (try dsimp only); omega, by (try dsimp only); omega, k79, k80, k82, k83, k84⟩
        have e101 := (Zfr.gi fqt87 t_a0 (by decide)).trans e64
        have e102 := (Zfr.gi fqt87 t_a0 (by decide)).trans e65
        have e103 := (Zfr.gr fqt87 t_a0 (by decide)).trans e66
        have e104 := (Zfr.gr fqt87 t_a0 (by decide)).trans e67
        have e105 := (Zfr.ai fqt87 tkl0 (by decide)).trans e69
        have e106 := (Zfr.ai fqt87 tv1 (by decide)).trans e72
        have e107 := (Zfr.gr fqt87 t_a0 (by decide)).trans e74
        have e108 := (Zfr.ai fqt87 tkkq50 (by decide)).trans e75
        have e109 := (Zfr.gr fqt87 t_a0 (by decide)).trans e76
        have e110 := (Zfr.ai fqt87 tv53 (by decide)).trans e77
        have F111 := Zfr.tr F85 fqt87 (by decide)
        obtain ⟨bf2qt87, bt2qt87, bd2qt87, bksqt87, bklqt87, bnaqt87, blbqt87, bvnqt87, h0ZNnqt87, h1ZNnqt87, h2ZNnqt87, h3ZNnqt87, h4ZNnqt87, h5ZNnqt87, h6ZNnqt87, h7ZNnqt87, h8ZNnqt87, tksqt87, tklqt87, r0ZNnqt87, r1ZNnqt87, r2ZNnqt87, r3ZNnqt87, r4ZNnqt87, r5ZNnqt87, r6ZNnqt87, r7ZNnqt87, r8ZNnqt87, r9ZNnqt87, r10ZNnqt87, r11ZNnqt87, r12ZNnqt87, r13ZNnqt87, r14ZNnqt87, r15ZNnqt87, r16ZNnqt87, r17ZNnqt87, r18ZNnqt87, k0ZNnqt87, k1ZNnqt87, k2ZNnqt87, k3ZNnqt87, k4ZNnqt87⟩ := pbZNnqt87
        exact ⟨_, eqt87, Wqt87, F111, ⟨bf2qt87, bt2qt87, bd2qt87, bksqt87, bklqt87, bnaqt87, blbqt87, bvnqt87, h0ZNnqt87, h1ZNnqt87, h2ZNnqt87, h3ZNnqt87, h4ZNnqt87, h5ZNnqt87, h6ZNnqt87, h7ZNnqt87, h8ZNnqt87, tksqt87, tklqt87, by (try dsimp only); omega, by (try dsimp only); omega, by (try dsimp only); omega, by (try dsimp only); omega, by (try dsimp only); omega, by (try dsimp only); omega, by (try dsimp only); omega, by (try dsimp only); omega, by (try dsimp only); omega, by (try dsimp only); omega, by (try dsimp only); omega, by (try dsimp only); omega, by (try dsimp only); omega, by (try dsimp only); omega, by (try dsimp only); omega, by (try dsimp only); omega, by (try dsimp only); omega, by (try dsimp only); omega, by (try dsimp only); omega, k0ZNnqt87, k1ZNnqt87, k2ZNnqt87, k3ZNnqt87, k4ZNnqt87⟩⟩
      · have := li_100
        have hq86 := i_nlt hq86
        refine wb e71 ?_
        refine wb e73 ?_
        obtain ⟨v78, ev78, _⟩ := ga_76 Wq58 tv1 (i := bt2q4) (by omega) (by omega)
        refine wb ev78 ?_
        obtain ⟨w80, ew80⟩ := go_64 Wq58 t_a0
        refine wb ew80 ?_
        have := li_4
        obtain ⟨q79, eq79, Wq79, fq79, pbZSfq79⟩ := p_Mo_refuse hn Wq58 (a1 := 4) (a2 := v78) t_a0 (by omega) (by omega) (by omega) (by omega) e78
        refine wb eq79 ?_
        have e122 := (Zfr.gi fq79 t_a0 (by decide)).trans e64
        have e123 := (Zfr.gi fq79 t_a0 (by decide)).trans e65
        have e124 := (Zfr.gr fq79 t_a0 (by decide)).trans e66
        have e125 := (Zfr.gr fq79 t_a0 (by decide)).trans e67
        have e126 := (Zfr.ai fq79 tks0 (by decide)).trans e68
        have e127 := (Zfr.ai fq79 tkl0 (by decide)).trans e69
        have e128 := (Zfr.gi fq79 t_a0 (by decide)).trans e70
        have e129 := (Zfr.ai fq79 tv1 (by decide)).trans e72
        have e130 := (Zfr.gi fq79 t_a0 (by decide)).trans e73
        have e131 := (Zfr.gr fq79 t_a0 (by decide)).trans e74
        have e132 := (Zfr.ai fq79 tkkq50 (by decide)).trans e75
        have e133 := (Zfr.gr fq79 t_a0 (by decide)).trans e76
        have e134 := (Zfr.ai fq79 tv53 (by decide)).trans e77
        have e135 := (Zfr.ai fq79 tv1 (by decide)).trans ev78
        have k136 := GtP_fr k79 fq79 t_a0 Wq58 (by decide)
        have sc138 : Sc q58.2 q79 a0 (0) (0) := by
          obtain ⟨yf2, z0y, x0y, x1y⟩ := pbZSfq79
          exact Sc_mk e78 z0y e73 ((Zfr.gi (ci := 12) fq79 t_a0 (by decide)).trans e73) e65 ((Zfr.gi (ci := 12) fq79 t_a0 (by decide)).trans e65) (by omega)
        have k137 := WyN_fr k80 fq79 t_a0 Wq58 (by decide) sc138
        have k139 := TbI_fr k82 fq79 t_a0 Wq58 (by decide) sc138
        have k140 := TbC_fr k83 fq79 t_a0 Wq58 (by decide) sc138
        have k141 := TkN_fr k84 fq79 t_a0 Wq58 (by decide)
        have F142 := Zfr.tr F85 fq79 (by decide)
        obtain ⟨bf2q79, h0ZSfq79, r0ZSfq79, r1ZSfq79⟩ := pbZSfq79
        obtain ⟨qt143, eqt143, Wqt143, fqt143, pbZNnqt143⟩ := p_Mo_nodeOf_73 hn Wq79 (x2 := q58.1) (x3 := v55) (ni := ni) (bc := bc) (n1 := n1) t_a0 (by omega) (by omega) (by omega) (by omega) (by omega) (by omega) (by omega) (by omega) (by omega) (by omega) (by omega) (by omega) e122 h0ZSfq79 e130 e123 (by omega) ⟨bks0, bkl0, bna0, blb0, bvn0, e122, h0ZSfq79, e130, e123, e124, e125, e126, e127, e128, tks0, tkl0, by (try dsimp only); omega, by (try dsimp only); omega, by (try dsimp only); omega, by (try dsimp only); omega, by (try dsimp only); omega, by (try dsimp only); omega, by (try dsimp only); omega, by (try dsimp only); omega, by (try dsimp only); omega, by (try dsimp only); omega, by (try dsimp only); omega, by (try dsimp only); omega, by (try dsimp only); omega, by (try dsimp only); omega, by (try dsimp only); omega, by (try dsimp only); omega, k136, k137, k139, k140, k141⟩
        have e157 := (Zfr.gi fqt143 t_a0 (by decide)).trans e122
        have e158 := (Zfr.gi fqt143 t_a0 (by decide)).trans e123
        have e159 := (Zfr.gr fqt143 t_a0 (by decide)).trans e124
        have e160 := (Zfr.gr fqt143 t_a0 (by decide)).trans e125
        have e161 := (Zfr.ai fqt143 tkl0 (by decide)).trans e127
        have e162 := (Zfr.ai fqt143 tv1 (by decide)).trans e129
        have e163 := (Zfr.gr fqt143 t_a0 (by decide)).trans e131
        have e164 := (Zfr.ai fqt143 tkkq50 (by decide)).trans e132
        have e165 := (Zfr.gr fqt143 t_a0 (by decide)).trans e133
        have e166 := (Zfr.ai fqt143 tv53 (by decide)).trans e134
        have e167 := (Zfr.ai fqt143 tv1 (by decide)).trans e135
        have F168 := Zfr.tr F142 fqt143 (by decide)
        obtain ⟨bf2qt143, bt2qt143, bd2qt143, bksqt143, bklqt143, bnaqt143, blbqt143, bvnqt143, h0ZNnqt143, h1ZNnqt143, h2ZNnqt143, h3ZNnqt143, h4ZNnqt143, h5ZNnqt143, h6ZNnqt143, h7ZNnqt143, h8ZNnqt143, tksqt143, tklqt143, r0ZNnqt143, r1ZNnqt143, r2ZNnqt143, r3ZNnqt143, r4ZNnqt143, r5ZNnqt143, r6ZNnqt143, r7ZNnqt143, r8ZNnqt143, r9ZNnqt143, r10ZNnqt143, r11ZNnqt143, r12ZNnqt143, r13ZNnqt143, r14ZNnqt143, r15ZNnqt143, r16ZNnqt143, r17ZNnqt143, r18ZNnqt143, k0ZNnqt143, k1ZNnqt143, k2ZNnqt143, k3ZNnqt143, k4ZNnqt143⟩ := pbZNnqt143
        exact ⟨_, eqt143, Wqt143, F168, ⟨bf2qt143, bt2qt143, bd2qt143, bksqt143, bklqt143, bnaqt143, blbqt143, bvnqt143, h0ZNnqt143, h1ZNnqt143, h2ZNnqt143, h3ZNnqt143, h4ZNnqt143, h5ZNnqt143, h6ZNnqt143, h7ZNnqt143, h8ZNnqt143, tksqt143, tklqt143, by (try dsimp only); omega, by (try dsimp only); omega, by (try dsimp only); omega, by (try dsimp only); omega, by (try dsimp only); omega, by (try dsimp only); omega, by (try dsimp only); omega, by (try dsimp only); omega, by (try dsimp only); omega, by (try dsimp only); omega, by (try dsimp only); omega, by (try dsimp only); omega, by (try dsimp only); omega, by (try dsimp only); omega, by (try dsimp only); omega, by (try dsimp only); omega, by (try dsimp only); omega, by (try dsimp only); omega, by (try dsimp only); omega, k0ZNnqt143, k1ZNnqt143, k2ZNnqt143, k3ZNnqt143, k4ZNnqt143⟩⟩
    · have := li_2
      have := i_ge q50.1
      have := i_up q50.1
      have hq39 := i_ne hq39
      have := li_m1
      obtain ⟨qt178, eqt178, Wqt178, fqt178, pbZNnqt178⟩ := p_Mo_nodeOf_118 hn Wq50 (x1 := v3) (x2 := (-1)) (ni := ni) (bc := bc) (n1 := n1) t_a0 (by omega) (by omega) (by omega) (by omega) (by omega) (by omega) (by omega) (by omega) (by omega) (by omega) e22 h0ZScq50 e31 e23 ⟨bks0, bkl0, bna0, blb0, bvn0, e22, h0ZScq50, e31, e23, e24, e25, e26, e27, e28, tks0, tkl0, by (try dsimp only); omega, by (try dsimp only); omega, by (try dsimp only); omega, by (try dsimp only); omega, by (try dsimp only); omega, by (try dsimp only); omega, by (try dsimp only); omega, by (try dsimp only); omega, by (try dsimp only); omega, by (try dsimp only); omega, by (try dsimp only); omega, by (try dsimp only); omega, by (try dsimp only); omega, by (try dsimp only); omega, by (try dsimp only); omega, by (try dsimp only); omega, k32, k33, k35, k36, k37⟩
      have e192 := (Zfr.gi fqt178 t_a0 (by decide)).trans e22
      have e193 := (Zfr.gi fqt178 t_a0 (by decide)).trans e23
      have e194 := (Zfr.gr fqt178 t_a0 (by decide)).trans e24
      have e195 := (Zfr.gr fqt178 t_a0 (by decide)).trans e25
      have e196 := (Zfr.ai fqt178 tkl0 (by decide)).trans e27
      have e197 := (Zfr.ai fqt178 tv1 (by decide)).trans e30
      have e198 := (Zfr.gr fqt178 t_a0 (by decide)).trans h0Zkdq50
      have e199 := (Zfr.ai fqt178 tkkq50 (by decide)).trans h1Zkdq50
      have F200 := Zfr.tr F38 fqt178 (by decide)
      obtain ⟨bf2qt178, bt2qt178, bd2qt178, bksqt178, bklqt178, bnaqt178, blbqt178, bvnqt178, h0ZNnqt178, h1ZNnqt178, h2ZNnqt178, h3ZNnqt178, h4ZNnqt178, h5ZNnqt178, h6ZNnqt178, h7ZNnqt178, h8ZNnqt178, tksqt178, tklqt178, r0ZNnqt178, r1ZNnqt178, r2ZNnqt178, r3ZNnqt178, r4ZNnqt178, r5ZNnqt178, r6ZNnqt178, r7ZNnqt178, r8ZNnqt178, r9ZNnqt178, r10ZNnqt178, r11ZNnqt178, r12ZNnqt178, r13ZNnqt178, r14ZNnqt178, r15ZNnqt178, r16ZNnqt178, r17ZNnqt178, r18ZNnqt178, k0ZNnqt178, k1ZNnqt178, k2ZNnqt178, k3ZNnqt178, k4ZNnqt178⟩ := pbZNnqt178
      exact ⟨_, eqt178, Wqt178, F200, ⟨bf2qt178, bt2qt178, bd2qt178, bksqt178, bklqt178, bnaqt178, blbqt178, bvnqt178, h0ZNnqt178, h1ZNnqt178, h2ZNnqt178, h3ZNnqt178, h4ZNnqt178, h5ZNnqt178, h6ZNnqt178, h7ZNnqt178, h8ZNnqt178, tksqt178, tklqt178, by (try dsimp only); omega, by (try dsimp only); omega, by (try dsimp only); omega, by (try dsimp only); omega, by (try dsimp only); omega, by (try dsimp only); omega, by (try dsimp only); omega, by (try dsimp only); omega, by (try dsimp only); omega, by (try dsimp only); omega, by (try dsimp only); omega, by (try dsimp only); omega, by (try dsimp only); omega, by (try dsimp only); omega, by (try dsimp only); omega, by (try dsimp only); omega, by (try dsimp only); omega, by (try dsimp only); omega, by (try dsimp only); omega, k0ZNnqt178, k1ZNnqt178, k2ZNnqt178, k3ZNnqt178, k4ZNnqt178⟩⟩
  · have := li_0
    have hq19 := i_ne hq19
    have := li_m1
    obtain ⟨qt210, eqt210, Wqt210, fqt210, pbZNnqt210⟩ := p_Mo_nodeOf_118 hn Wq4 (x1 := v3) (x2 := (-1)) (ni := ni) (bc := bc) (n1 := n1) t_a0 (by omega) (by omega) (by omega) (by omega) (by omega) (by omega) (by omega) (by omega) (by omega) (by omega) e3 h0ZSq4 h1ZSq4 e4 ⟨bks0, bkl0, bna0, blb0, bvn0, e3, h0ZSq4, h1ZSq4, e4, e5, e6, e7, e8, e9, tks0, tkl0, by (try dsimp only); omega, by (try dsimp only); omega, by (try dsimp only); omega, by (try dsimp only); omega, by (try dsimp only); omega, by (try dsimp only); omega, by (try dsimp only); omega, by (try dsimp only); omega, by (try dsimp only); omega, by (try dsimp only); omega, by (try dsimp only); omega, by (try dsimp only); omega, by (try dsimp only); omega, by (try dsimp only); omega, by (try dsimp only); omega, by (try dsimp only); omega, k12, k13, k15, k16, k17⟩
    have e224 := (Zfr.gi fqt210 t_a0 (by decide)).trans e3
    have e225 := (Zfr.gi fqt210 t_a0 (by decide)).trans e4
    have e226 := (Zfr.gr fqt210 t_a0 (by decide)).trans e5
    have e227 := (Zfr.gr fqt210 t_a0 (by decide)).trans e6
    have e228 := (Zfr.ai fqt210 tkl0 (by decide)).trans e8
    have e229 := (Zfr.ai fqt210 tv1 (by decide)).trans e11
    have F230 := Zfr.tr F18 fqt210 (by decide)
    obtain ⟨bf2qt210, bt2qt210, bd2qt210, bksqt210, bklqt210, bnaqt210, blbqt210, bvnqt210, h0ZNnqt210, h1ZNnqt210, h2ZNnqt210, h3ZNnqt210, h4ZNnqt210, h5ZNnqt210, h6ZNnqt210, h7ZNnqt210, h8ZNnqt210, tksqt210, tklqt210, r0ZNnqt210, r1ZNnqt210, r2ZNnqt210, r3ZNnqt210, r4ZNnqt210, r5ZNnqt210, r6ZNnqt210, r7ZNnqt210, r8ZNnqt210, r9ZNnqt210, r10ZNnqt210, r11ZNnqt210, r12ZNnqt210, r13ZNnqt210, r14ZNnqt210, r15ZNnqt210, r16ZNnqt210, r17ZNnqt210, r18ZNnqt210, k0ZNnqt210, k1ZNnqt210, k2ZNnqt210, k3ZNnqt210, k4ZNnqt210⟩ := pbZNnqt210
    have := li_2
    exact ⟨_, eqt210, Wqt210, F230, ⟨bf2qt210, bt2qt210, bd2qt210, bksqt210, bklqt210, bnaqt210, blbqt210, bvnqt210, h0ZNnqt210, h1ZNnqt210, h2ZNnqt210, h3ZNnqt210, h4ZNnqt210, h5ZNnqt210, h6ZNnqt210, h7ZNnqt210, h8ZNnqt210, tksqt210, tklqt210, by (try dsimp only); omega, by (try dsimp only); omega, by (try dsimp only); omega, by (try dsimp only); omega, by (try dsimp only); omega, by (try dsimp only); omega, by (try dsimp only); omega, by (try dsimp only); omega, by (try dsimp only); omega, by (try dsimp only); omega, by (try dsimp only); omega, by (try dsimp only); omega, by (try dsimp only); omega, by (try dsimp only); omega, by (try dsimp only); omega, by (try dsimp only); omega, by (try dsimp only); omega, by (try dsimp only); omega, by (try dsimp only); omega, k0ZNnqt210, k1ZNnqt210, k2ZNnqt210, k3ZNnqt210, k4ZNnqt210⟩⟩

end ZzT
