section ZzT
abbrev M_Mo_nodeOf_172 : List (Nat × Nat) := [(64, 18), (64, 19), (64, 20), (83, 0)]
set_option maxRecDepth 100000 in
set_option maxHeartbeats 400000 in
theorem p_Mo_nodeOf_172 {nf : Nat} (hn : 8589934592 ≤ nf) {G : List Nat} {c : Zc} (W : Zwt zty G c) {x0 : Nat} {x2 : Int32} {ni : Int32} {bc : Int32} {pv : Int32} {fv : Int32} {tv : Int32} {dv : Int32} (t_x0 : G[x0]? = some 64) (pl_pv : 0 ≤ pv.toInt) (pu_pv : pv.toInt ≤ 8) (pl_fv : 0 ≤ fv.toInt) (pu_fv : fv.toInt ≤ 6) (pl_tv : 0 ≤ tv.toInt) (pu_tv : tv.toInt ≤ 200) (pl_dv : 0 ≤ dv.toInt) (pu_dv : dv.toInt ≤ 11) (eh_pv : zgi c x0 12 25 = some pv) (eh_fv : zgi c x0 12 19 = some fv) (eh_tv : zgi c x0 12 18 = some tv) (eh_dv : zgi c x0 12 53 = some dv) (pp_4 : (¬ fv.toInt = 0 ∨ (0 ≤ x2.toInt ∧ x2.toInt ≤ 7))) (hb_ZV : ZV G c x0 pv fv tv dv ni bc) : ∃ q, f_Mo_nodeOf_172 nf x0 x2 c = some q ∧ Zwt zty G q.2 ∧ Zfr G M_Mo_nodeOf_172 c q.2 ∧ ZVn G q.2 x0 pv fv tv dv ni bc 1 q.1 := by
  have F0 : Zfr G M_Mo_nodeOf_172 c c := Zfr.rf
  unfold f_Mo_nodeOf_172
  obtain ⟨bks0, bkl0, bkw0, bna0, blb0, bnw0, bvn0, h0ZV0, h1ZV0, h2ZV0, h3ZV0, h4ZV0, h5ZV0, h6ZV0, h7ZV0, h8ZV0, h9ZV0, h10ZV0, tks0, tkl0, tkw0, r0ZV0, r1ZV0, r2ZV0, r3ZV0, r4ZV0, r5ZV0, r6ZV0, r7ZV0, r8ZV0, r9ZV0, r10ZV0, r11ZV0, r12ZV0, r13ZV0, r14ZV0, r15ZV0, r16ZV0, r17ZV0, k0ZV0, k1ZV0, k2ZV0, k3ZV0, k4ZV0⟩ := hb_ZV
  have := vfi_e h2ZV0
  have L6 : ∃ b, zlp (fun a : Nat × Int32 × Zc => g_Mo_nodeOf_172 nf a.1 a.2.1 a.2.2) nf (x0, x2, c) = some b ∧ (fun b : (Nat × Int32 × Zc) => x0 = b.1 ∧ x2 = b.2.1 ∧ Zwt zty G b.2.2 ∧ Zfr G ([(64, 18), (64, 19), (64, 20), (83, 0)] : List (Nat × Nat)) c b.2.2 ∧ ZSz G b.2.2 x0 fv tv) b := by
    refine wlp (fun a : Nat × Int32 × Zc => x0 = a.1 ∧ x2 = a.2.1 ∧ Zwt zty G a.2.2 ∧ Zfr G ([(64, 18), (64, 19), (64, 20), (83, 0)] : List (Nat × Nat)) c a.2.2 ∧ ZSz G a.2.2 x0 fv tv) (fun a => (201 - vfi a.2.2 x0 18).toNat) (fun b : (Nat × Int32 × Zc) => x0 = b.1 ∧ x2 = b.2.1 ∧ Zwt zty G b.2.2 ∧ Zfr G ([(64, 18), (64, 19), (64, 20), (83, 0)] : List (Nat × Nat)) c b.2.2 ∧ ZSz G b.2.2 x0 fv tv) ?_ ?_ ?_
    · rintro ⟨x0_7, x2_7, c_7⟩ hI
      try dsimp only at hI ⊢
      obtain ⟨rfl, rfl, WLc_7, FLc_7, hBZSz_7⟩ := hI
      have e8 := (Zfr.gi FLc_7 t_x0 (by decide)).trans h0ZV0
      have e9 := (Zfr.gi FLc_7 t_x0 (by decide)).trans h3ZV0
      have e10 := (Zfr.gr FLc_7 t_x0 (by decide)).trans h4ZV0
      have e11 := (Zfr.gr FLc_7 t_x0 (by decide)).trans h5ZV0
      have e12 := (Zfr.gr FLc_7 t_x0 (by decide)).trans h6ZV0
      have e13 := (Zfr.ai FLc_7 tks0 (by decide)).trans h7ZV0
      have e14 := (Zfr.ai FLc_7 tkl0 (by decide)).trans h8ZV0
      have e15 := (Zfr.ai FLc_7 tkw0 (by decide)).trans h9ZV0
      have e16 := (Zfr.gi FLc_7 t_x0 (by decide)).trans h10ZV0
      have k17 := GtP_fr k0ZV0 FLc_7 t_x0 W (by decide)
      have sc19 : Sc c c_7 x0 (0) (0) := by
        obtain ⟨yf2, yt2, z0y, z1y, x0y, x1y, x2y, x3y, x4y, x5y⟩ := hBZSz_7
        exact Sc_mk h1ZV0 z0y h2ZV0 z1y h3ZV0 ((Zfr.gi (ci := 12) FLc_7 t_x0 (by decide)).trans h3ZV0) (by omega)
      have k18 := WyN_fr k1ZV0 FLc_7 t_x0 W (by decide) sc19
      have k20 := TbI_fr k2ZV0 FLc_7 t_x0 W (by decide) sc19
      have k21 := TbC_fr k3ZV0 FLc_7 t_x0 W (by decide) sc19
      have k22 := TkN_fr k4ZV0 FLc_7 t_x0 W (by decide)
      obtain ⟨bf2_7, bt2_7, h0ZSz_7, h1ZSz_7, r0ZSz_7, r1ZSz_7, r2ZSz_7, r3ZSz_7, r4ZSz_7, r5ZSz_7⟩ := hBZSz_7
      unfold g_Mo_nodeOf_172
      have := vfi_e h1ZSz_7
      refine wb h0ZSz_7 ?_
      refine wi (fun hq24 => ?_) (fun hq24 => ?_)
      · have := li_0
        have hq24 := i_eq hq24
        obtain ⟨w13, ew13⟩ := go_64 WLc_7 t_x0
        refine wb ew13 ?_
        have := li_58
        obtain ⟨q12, eq12, Wq12, fq12, pl0q12, pu0q12, pbZSkq12⟩ := p_Mo_takes hn WLc_7 (a1 := 58) t_x0 (by omega) (by omega) (by omega) (by omega) h0ZSz_7 h1ZSz_7
        refine wb eq12 ?_
        have e27 := (Zfr.gi fq12 t_x0 (by decide)).trans e8
        have e28 := (Zfr.gi fq12 t_x0 (by decide)).trans e9
        have e29 := (Zfr.gr fq12 t_x0 (by decide)).trans e10
        have e30 := (Zfr.gr fq12 t_x0 (by decide)).trans e11
        have e31 := (Zfr.gr fq12 t_x0 (by decide)).trans e12
        have e32 := (Zfr.ai fq12 tks0 (by decide)).trans e13
        have e33 := (Zfr.ai fq12 tkl0 (by decide)).trans e14
        have e34 := (Zfr.ai fq12 tkw0 (by decide)).trans e15
        have e35 := (Zfr.gi fq12 t_x0 (by decide)).trans e16
        have k36 := GtP_fr k17 fq12 t_x0 WLc_7 (by decide)
        have sc38 : Sc c_7 q12.2 x0 (q12.1.toInt) (0) := by
          obtain ⟨yf2, yt2, z0y, z1y, x0y, x1y, x2y, x3y, x4y, x5y, x6y⟩ := pbZSkq12
          exact Sc_mk h0ZSz_7 z0y h1ZSz_7 z1y e9 ((Zfr.gi (ci := 12) fq12 t_x0 (by decide)).trans e9) (by omega)
        have k37 := WyN_fr k18 fq12 t_x0 WLc_7 (by decide) sc38
        have k39 := TbI_fr k20 fq12 t_x0 WLc_7 (by decide) sc38
        have k40 := TbC_fr k21 fq12 t_x0 WLc_7 (by decide) sc38
        have k41 := TkN_fr k22 fq12 t_x0 WLc_7 (by decide)
        have F42 := Zfr.tr FLc_7 fq12 (by decide)
        obtain ⟨bf2q12, bt2q12, h0ZSkq12, h1ZSkq12, r0ZSkq12, r1ZSkq12, r2ZSkq12, r3ZSkq12, r4ZSkq12, r5ZSkq12, r6ZSkq12⟩ := pbZSkq12
        refine wi (fun hq43 => ?_) (fun hq43 => ?_)
        · have hq43 := i_eq hq43
          exact lInr ⟨rfl, rfl, Wq12, F42, ⟨bf2q12, bt2q12, h0ZSkq12, h1ZSkq12, by (try dsimp only); omega, by (try dsimp only); omega, by (try dsimp only); omega, by (try dsimp only); omega, by (try dsimp only); omega, by (try dsimp only); omega⟩⟩
        · have hq43 := i_ne hq43
          obtain ⟨w16, ew16⟩ := go_64 Wq12 t_x0
          refine wb ew16 ?_
          obtain ⟨q15, eq15, Wq15, fq15, pbZScq15, pbZkdq15⟩ := p_Mo_kind hn Wq12  t_x0 (by omega) (by omega) (by omega) (by omega) h0ZSkq12 h1ZSkq12
          refine wb eq15 ?_
          have e48 := (Zfr.gi fq15 t_x0 (by decide)).trans e27
          have e49 := (Zfr.gi fq15 t_x0 (by decide)).trans e28
          have e50 := (Zfr.gr fq15 t_x0 (by decide)).trans e29
          have e51 := (Zfr.gr fq15 t_x0 (by decide)).trans e30
          have e52 := (Zfr.gr fq15 t_x0 (by decide)).trans e31
          have e53 := (Zfr.ai fq15 tks0 (by decide)).trans e32
          have e54 := (Zfr.ai fq15 tkl0 (by decide)).trans e33
          have e55 := (Zfr.ai fq15 tkw0 (by decide)).trans e34
          have e56 := (Zfr.gi fq15 t_x0 (by decide)).trans e35
          have e57 := (Zfr.gi fq15 t_x0 (by decide)).trans h1ZSkq12
          have k58 := GtP_fr k36 fq15 t_x0 Wq12 (by decide)
          have sc60 : Sc q12.2 q15.2 x0 (0) (0) := by
            obtain ⟨yf2, z0y, x0y, x1y, x2y, x3y⟩ := pbZScq15
            exact Sc_mk h0ZSkq12 z0y h1ZSkq12 ((Zfr.gi (ci := 12) fq15 t_x0 (by decide)).trans h1ZSkq12) e28 ((Zfr.gi (ci := 12) fq15 t_x0 (by decide)).trans e28) (by omega)
          have k59 := WyN_fr k37 fq15 t_x0 Wq12 (by decide) sc60
          have k61 := TbI_fr k39 fq15 t_x0 Wq12 (by decide) sc60
          have k62 := TbC_fr k40 fq15 t_x0 Wq12 (by decide) sc60
          have k63 := TkN_fr k41 fq15 t_x0 Wq12 (by decide)
          have F64 := Zfr.tr F42 fq15 (by decide)
          obtain ⟨bf2q15, h0ZScq15, r0ZScq15, r1ZScq15, r2ZScq15, r3ZScq15⟩ := pbZScq15
          obtain ⟨bkkq15, h0Zkdq15, h1Zkdq15, tkkq15⟩ := pbZkdq15
          refine wi (fun hq65 => ?_) (fun hq65 => ?_)
          · have := li_3
            have := i_ge q15.1
            have := i_up q15.1
            have hq65 := i_eq hq65
            obtain ⟨v18, ev18, tv18⟩ := gf_64_15 Wq15 t_x0
            refine wb ev18 ?_
            refine wb e57 ?_
            obtain ⟨v20, ev20, _⟩ := ga_75 Wq15 tv18 (i := bt2q12) (by omega) (by omega)
            have ht66 := TkM_at (k63 _ _ h0Zkdq15 ev18) h1Zkdq15 ev20
            have := tkr3 ht66 (by omega)
            refine wb ev20 ?_
            obtain ⟨w22, ew22⟩ := go_64 Wq15 t_x0
            refine wb ew22 ?_
            obtain ⟨q21, eq21, Wq21, fq21, pbZSq21⟩ := p_Mo_pass hn Wq15  t_x0 (by omega) (by omega) (by omega) (by omega) h0ZScq15 e57
            refine wb eq21 ?_
            have e69 := (Zfr.gi fq21 t_x0 (by decide)).trans e48
            have e70 := (Zfr.gi fq21 t_x0 (by decide)).trans e49
            have e71 := (Zfr.gr fq21 t_x0 (by decide)).trans e50
            have e72 := (Zfr.gr fq21 t_x0 (by decide)).trans e51
            have e73 := (Zfr.gr fq21 t_x0 (by decide)).trans e52
            have e74 := (Zfr.ai fq21 tks0 (by decide)).trans e53
            have e75 := (Zfr.ai fq21 tkl0 (by decide)).trans e54
            have e76 := (Zfr.ai fq21 tkw0 (by decide)).trans e55
            have e77 := (Zfr.gi fq21 t_x0 (by decide)).trans e56
            have e78 := (Zfr.gr fq21 t_x0 (by decide)).trans h0Zkdq15
            have e79 := (Zfr.ai fq21 tkkq15 (by decide)).trans h1Zkdq15
            have e80 := (Zfr.gr fq21 t_x0 (by decide)).trans ev18
            have e81 := (Zfr.ai fq21 tv18 (by decide)).trans ev20
            have k82 := GtP_fr k58 fq21 t_x0 Wq15 (by decide)
            have := li_1
            have sc84 : Sc q15.2 q21 x0 (1) (0) := by
              obtain ⟨yf2, yt2, z0y, z1y, x0y, x1y, x2y, x3y, x4y, x5y⟩ := pbZSq21
              exact Sc_mk h0ZScq15 z0y e57 z1y e49 ((Zfr.gi (ci := 12) fq21 t_x0 (by decide)).trans e49) (by omega)
            have k83 := WyN_fr k59 fq21 t_x0 Wq15 (by decide) sc84
            have k85 := TbI_fr k61 fq21 t_x0 Wq15 (by decide) sc84
            have k86 := TbC_fr k62 fq21 t_x0 Wq15 (by decide) sc84
            have k87 := TkN_fr k63 fq21 t_x0 Wq15 (by decide)
            have F88 := Zfr.tr F64 fq21 (by decide)
            obtain ⟨bf2q21, bt2q21, h0ZSq21, h1ZSq21, r0ZSq21, r1ZSq21, r2ZSq21, r3ZSq21, r4ZSq21, r5ZSq21⟩ := pbZSq21
            refine wb h0ZSq21 ?_
            refine wi (fun hq89 => ?_) (fun hq89 => ?_)
            · have hq89 := i_eq hq89
              obtain ⟨v25, ev25, tv25⟩ := gf_64_30 Wq21 t_x0
              refine wb ev25 ?_
              refine wb e69 ?_
              have : 0 ≤ x2.toInt ∧ x2.toInt ≤ 7 := by omega
              obtain ⟨v27, ev27, lv27, uv27⟩ := gf_64_56 Wq21 t_x0
              refine wb ev27 ?_
              have := li_80
              have := i_mull (a := 80) (b := pv) (n := 80) li_80 (by omega) (by omega)
              have := i_add (a := (80 * pv)) (b := v27) (by omega) (by omega)
              have := li_8
              have := i_mulr (a := ((80 * pv) + v27)) (b := 8) (n := 8) li_8 (by omega) (by omega)
              have := i_add (a := (((80 * pv) + v27) * 8)) (b := x2) (by omega) (by omega)
              obtain ⟨v28, ev28, _⟩ := ga_83 Wq21 tv25 (i := ((((80 * pv) + v27) * 8) + x2)) (by omega) (by omega)
              refine wb ev28 ?_
              obtain ⟨c29, ec29, Wc29, fc29, gc29⟩ := pa_83 Wq21 tv25 (i := ((((80 * pv) + v27) * 8) + x2)) (by omega) (by omega) (x := (v28 ||| ((1 : Int32) <<< (v20 &&& 31)))) (trivial)
              refine wb ec29 ?_
              have e90 := (Zfr.gi fc29 t_x0 (by decide)).trans e69
              have e91 := (Zfr.gi fc29 t_x0 (by decide)).trans e70
              have e92 := (Zfr.gr fc29 t_x0 (by decide)).trans e71
              have e93 := (Zfr.gr fc29 t_x0 (by decide)).trans e72
              have e94 := (Zfr.gr fc29 t_x0 (by decide)).trans e73
              have e95 := (Zfr.ai fc29 tks0 (by decide)).trans e74
              have e96 := (Zfr.ai fc29 tkl0 (by decide)).trans e75
              have e97 := (Zfr.ai fc29 tkw0 (by decide)).trans e76
              have e98 := (Zfr.gi fc29 t_x0 (by decide)).trans e77
              have e99 := (Zfr.gr fc29 t_x0 (by decide)).trans e78
              have e100 := (Zfr.ai fc29 tkkq15 (by decide)).trans e79
              have e101 := (Zfr.gr fc29 t_x0 (by decide)).trans e80
              have e102 := (Zfr.ai fc29 tv18 (by decide)).trans e81
              have e103 := (Zfr.gi fc29 t_x0 (by decide)).trans h0ZSq21
              have e104 := (Zfr.gi fc29 t_x0 (by decide)).trans h1ZSq21
              have k105 := GtP_fr k82 fc29 t_x0 Wq21 (by decide)
              have sc107 := Sc_fr fc29 t_x0 (by decide) (by decide) (by decide)
              have k106 := WyN_fr k83 fc29 t_x0 Wq21 (by decide) sc107
              have k108 := TbI_fr k85 fc29 t_x0 Wq21 (by decide) sc107
              have k109 := TbC_fr k86 fc29 t_x0 Wq21 (by decide) sc107
              have k110 := TkN_fr k87 fc29 t_x0 Wq21 (by decide)
              have F111 := Zfr.tr F88 fc29 (by decide)
              unfold f_Mo_nodeOf_252
              have := vfi_e e104
              exact lInl ⟨rfl, rfl, Wc29, F111, ⟨bf2q21, bt2q21, e103, e104, by (try dsimp only); omega, by (try dsimp only); omega, by (try dsimp only); omega, by (try dsimp only); omega, by (try dsimp only); omega, by (try dsimp only); omega⟩⟩ (by (try dsimp only); omega)
            · have hq89 := i_ne hq89
              unfold f_Mo_nodeOf_252
              have := vfi_e h1ZSq21
              exact lInl ⟨rfl, rfl, Wq21, F88, ⟨bf2q21, bt2q21, h0ZSq21, h1ZSq21, by (try dsimp only); omega, by (try dsimp only); omega, by (try dsimp only); omega, by (try dsimp only); omega, by (try dsimp only); omega, by (try dsimp only); omega⟩⟩ (by (try dsimp only); omega)
          · have := li_3
            have := i_ge q15.1
            have := i_up q15.1
            have hq65 := i_ne hq65
            obtain ⟨w31, ew31⟩ := go_64 Wq15 t_x0
            refine wb ew31 ?_
            obtain ⟨q30, eq30, Wq30, fq30, pbZSfq30⟩ := p_Mo_wrong hn Wq15  t_x0 (by omega) (by omega) (by omega) (by omega) h0ZScq15 e57
            refine wb eq30 ?_
            have e120 := (Zfr.gi fq30 t_x0 (by decide)).trans e48
            have e121 := (Zfr.gi fq30 t_x0 (by decide)).trans e49
            have e122 := (Zfr.gr fq30 t_x0 (by decide)).trans e50
            have e123 := (Zfr.gr fq30 t_x0 (by decide)).trans e51
            have e124 := (Zfr.gr fq30 t_x0 (by decide)).trans e52
            have e125 := (Zfr.ai fq30 tks0 (by decide)).trans e53
            have e126 := (Zfr.ai fq30 tkl0 (by decide)).trans e54
            have e127 := (Zfr.ai fq30 tkw0 (by decide)).trans e55
            have e128 := (Zfr.gi fq30 t_x0 (by decide)).trans e56
            have e129 := (Zfr.gi fq30 t_x0 (by decide)).trans e57
            have e130 := (Zfr.gr fq30 t_x0 (by decide)).trans h0Zkdq15
            have e131 := (Zfr.ai fq30 tkkq15 (by decide)).trans h1Zkdq15
            have k132 := GtP_fr k58 fq30 t_x0 Wq15 (by decide)
            have sc134 : Sc q15.2 q30 x0 (0) (0) := by
              obtain ⟨yf2, z0y, x0y, x1y⟩ := pbZSfq30
              exact Sc_mk h0ZScq15 z0y e57 ((Zfr.gi (ci := 12) fq30 t_x0 (by decide)).trans e57) e49 ((Zfr.gi (ci := 12) fq30 t_x0 (by decide)).trans e49) (by omega)
            have k133 := WyN_fr k59 fq30 t_x0 Wq15 (by decide) sc134
            have k135 := TbI_fr k61 fq30 t_x0 Wq15 (by decide) sc134
            have k136 := TbC_fr k62 fq30 t_x0 Wq15 (by decide) sc134
            have k137 := TkN_fr k63 fq30 t_x0 Wq15 (by decide)
            have F138 := Zfr.tr F64 fq30 (by decide)
            obtain ⟨bf2q30, h0ZSfq30, r0ZSfq30, r1ZSfq30⟩ := pbZSfq30
            have := vfi_e e129
            exact lInl ⟨rfl, rfl, Wq30, F138, ⟨bf2q30, bt2q12, h0ZSfq30, e129, by (try dsimp only); omega, by (try dsimp only); omega, by (try dsimp only); omega, by (try dsimp only); omega, by (try dsimp only); omega, by (try dsimp only); omega⟩⟩ (by (try dsimp only); omega)
      · have := li_0
        have hq24 := i_ne hq24
        exact lInr ⟨rfl, rfl, WLc_7, FLc_7, ⟨bf2_7, bt2_7, h0ZSz_7, h1ZSz_7, by (try dsimp only); omega, by (try dsimp only); omega, by (try dsimp only); omega, by (try dsimp only); omega, by (try dsimp only); omega, by (try dsimp only); omega⟩⟩
    · exact ⟨rfl, rfl, W, Zfr.rf, ⟨fv, tv, h1ZV0, h2ZV0, by (try dsimp only); omega, by (try dsimp only); omega, by (try dsimp only); omega, by (try dsimp only); omega, by (try dsimp only); omega, by (try dsimp only); omega⟩⟩
    · (try dsimp only); omega
  obtain ⟨b, eb, hb⟩ := L6
  refine wb eb ?_
  clear eb
  obtain ⟨z0_146, z1_146, c_146⟩ := b
  try dsimp only at hb ⊢
  obtain ⟨rfl, rfl, WXc_146, FXc_146, hXZSzc_146⟩ := hb
  have e147 := (Zfr.gi FXc_146 t_x0 (by decide)).trans h0ZV0
  have e148 := (Zfr.gi FXc_146 t_x0 (by decide)).trans h3ZV0
  have e149 := (Zfr.gr FXc_146 t_x0 (by decide)).trans h4ZV0
  have e150 := (Zfr.gr FXc_146 t_x0 (by decide)).trans h5ZV0
  have e151 := (Zfr.gr FXc_146 t_x0 (by decide)).trans h6ZV0
  have e152 := (Zfr.ai FXc_146 tks0 (by decide)).trans h7ZV0
  have e153 := (Zfr.ai FXc_146 tkl0 (by decide)).trans h8ZV0
  have e154 := (Zfr.ai FXc_146 tkw0 (by decide)).trans h9ZV0
  have e155 := (Zfr.gi FXc_146 t_x0 (by decide)).trans h10ZV0
  have k156 := GtP_fr k0ZV0 FXc_146 t_x0 W (by decide)
  have sc158 : Sc c c_146 x0 (0) (0) := by
    obtain ⟨yf2, yt2, z0y, z1y, x0y, x1y, x2y, x3y, x4y, x5y⟩ := hXZSzc_146
    exact Sc_mk h1ZV0 z0y h2ZV0 z1y h3ZV0 ((Zfr.gi (ci := 12) FXc_146 t_x0 (by decide)).trans h3ZV0) (by omega)
  have k157 := WyN_fr k1ZV0 FXc_146 t_x0 W (by decide) sc158
  have k159 := TbI_fr k2ZV0 FXc_146 t_x0 W (by decide) sc158
  have k160 := TbC_fr k3ZV0 FXc_146 t_x0 W (by decide) sc158
  have k161 := TkN_fr k4ZV0 FXc_146 t_x0 W (by decide)
  have F162 := Zfr.tr F0 FXc_146 (by decide)
  obtain ⟨bf2xc_146, bt2xc_146, h0ZSzxc_146, h1ZSzxc_146, r0ZSzxc_146, r1ZSzxc_146, r2ZSzxc_146, r3ZSzxc_146, r4ZSzxc_146, r5ZSzxc_146⟩ := hXZSzc_146
  unfold f_Mo_nodeOf_255
  obtain ⟨w33, ew33⟩ := go_64 WXc_146 t_x0
  refine wb ew33 ?_
  have := li_41
  obtain ⟨q32, eq32, Wq32, fq32, pbZSq32⟩ := p_Mo_need hn WXc_146 (a1 := 41) t_x0 (by omega) (by omega) (by omega) (by omega) h0ZSzxc_146 h1ZSzxc_146
  refine wb eq32 ?_
  have e165 := (Zfr.gi fq32 t_x0 (by decide)).trans e147
  have e166 := (Zfr.gi fq32 t_x0 (by decide)).trans e148
  have e167 := (Zfr.gr fq32 t_x0 (by decide)).trans e149
  have e168 := (Zfr.gr fq32 t_x0 (by decide)).trans e150
  have e169 := (Zfr.gr fq32 t_x0 (by decide)).trans e151
  have e170 := (Zfr.ai fq32 tks0 (by decide)).trans e152
  have e171 := (Zfr.ai fq32 tkl0 (by decide)).trans e153
  have e172 := (Zfr.ai fq32 tkw0 (by decide)).trans e154
  have e173 := (Zfr.gi fq32 t_x0 (by decide)).trans e155
  have k174 := GtP_fr k156 fq32 t_x0 WXc_146 (by decide)
  have := li_1
  have sc176 : Sc c_146 q32 x0 (1) (0) := by
    obtain ⟨yf2, yt2, z0y, z1y, x0y, x1y, x2y, x3y, x4y, x5y⟩ := pbZSq32
    exact Sc_mk h0ZSzxc_146 z0y h1ZSzxc_146 z1y e148 ((Zfr.gi (ci := 12) fq32 t_x0 (by decide)).trans e148) (by omega)
  have k175 := WyN_fr k157 fq32 t_x0 WXc_146 (by decide) sc176
  have k177 := TbI_fr k159 fq32 t_x0 WXc_146 (by decide) sc176
  have k178 := TbC_fr k160 fq32 t_x0 WXc_146 (by decide) sc176
  have k179 := TkN_fr k161 fq32 t_x0 WXc_146 (by decide)
  have F180 := Zfr.tr F162 fq32 (by decide)
  obtain ⟨bf2q32, bt2q32, h0ZSq32, h1ZSq32, r0ZSq32, r1ZSq32, r2ZSq32, r3ZSq32, r4ZSq32, r5ZSq32⟩ := pbZSq32
  exact ⟨_, rfl, Wq32, F180, ⟨bf2q32, bt2q32, dv, bks0, bkl0, bkw0, bna0, blb0, bnw0, bvn0, e165, h0ZSq32, h1ZSq32, e166, e167, e168, e169, e170, e171, e172, e173, tks0, tkl0, tkw0, by (try dsimp only); omega, by (try dsimp only); omega, by (try dsimp only); omega, by (try dsimp only); omega, by (try dsimp only); omega, by (try dsimp only); omega, by (try dsimp only); omega, by (try dsimp only); omega, by (try dsimp only); omega, by (try dsimp only); omega, by (try dsimp only); omega, by (try dsimp only); omega, by (try dsimp only); omega, by (try dsimp only); omega, by (try dsimp only); omega, by (try dsimp only); omega, by (try dsimp only); omega, by (try dsimp only); omega, by (try dsimp only); omega, by (try dsimp only); omega, by (try dsimp only); omega, k174, k175, k177, k178, k179⟩⟩

abbrev M_Mo_nodeOf_111 : List (Nat × Nat) := [(64, 18), (64, 19), (64, 20), (83, 0)]
set_option maxRecDepth 100000 in
set_option maxHeartbeats 400000 in
theorem p_Mo_nodeOf_111 {nf : Nat} (hn : 8589934592 ≤ nf) {G : List Nat} {c : Zc} (W : Zwt zty G c) {x0 : Nat} {x2 : Int32} {ni : Int32} {bc : Int32} {pv : Int32} {fv : Int32} {tv : Int32} {dv : Int32} (t_x0 : G[x0]? = some 64) (pl_pv : 0 ≤ pv.toInt) (pu_pv : pv.toInt ≤ 8) (pl_fv : 0 ≤ fv.toInt) (pu_fv : fv.toInt ≤ 6) (pl_tv : 0 ≤ tv.toInt) (pu_tv : tv.toInt ≤ 200) (pl_dv : 0 ≤ dv.toInt) (pu_dv : dv.toInt ≤ 11) (eh_pv : zgi c x0 12 25 = some pv) (eh_fv : zgi c x0 12 19 = some fv) (eh_tv : zgi c x0 12 18 = some tv) (eh_dv : zgi c x0 12 53 = some dv) (pp_4 : (¬ fv.toInt = 0 ∨ (0 ≤ x2.toInt ∧ x2.toInt ≤ 7))) (hb_ZV : ZV G c x0 pv fv tv dv ni bc) : ∃ q, f_Mo_nodeOf_111 nf x0 x2 c = some q ∧ Zwt zty G q.2 ∧ Zfr G M_Mo_nodeOf_111 c q.2 ∧ ZVn G q.2 x0 pv fv tv dv ni bc 2 q.1 := by
  have F0 : Zfr G M_Mo_nodeOf_111 c c := Zfr.rf
  unfold f_Mo_nodeOf_111
  obtain ⟨bks0, bkl0, bkw0, bna0, blb0, bnw0, bvn0, h0ZV0, h1ZV0, h2ZV0, h3ZV0, h4ZV0, h5ZV0, h6ZV0, h7ZV0, h8ZV0, h9ZV0, h10ZV0, tks0, tkl0, tkw0, r0ZV0, r1ZV0, r2ZV0, r3ZV0, r4ZV0, r5ZV0, r6ZV0, r7ZV0, r8ZV0, r9ZV0, r10ZV0, r11ZV0, r12ZV0, r13ZV0, r14ZV0, r15ZV0, r16ZV0, r17ZV0, k0ZV0, k1ZV0, k2ZV0, k3ZV0, k4ZV0⟩ := hb_ZV
  obtain ⟨w63, ew63⟩ := go_64 W t_x0
  refine wb ew63 ?_
  obtain ⟨q62, eq62, Wq62, fq62, pbZSq62⟩ := p_Mo_pass hn W  t_x0 (by omega) (by omega) (by omega) (by omega) h1ZV0 h2ZV0
  refine wb eq62 ?_
  have e3 := (Zfr.gi fq62 t_x0 (by decide)).trans h0ZV0
  have e4 := (Zfr.gi fq62 t_x0 (by decide)).trans h3ZV0
  have e5 := (Zfr.gr fq62 t_x0 (by decide)).trans h4ZV0
  have e6 := (Zfr.gr fq62 t_x0 (by decide)).trans h5ZV0
  have e7 := (Zfr.gr fq62 t_x0 (by decide)).trans h6ZV0
  have e8 := (Zfr.ai fq62 tks0 (by decide)).trans h7ZV0
  have e9 := (Zfr.ai fq62 tkl0 (by decide)).trans h8ZV0
  have e10 := (Zfr.ai fq62 tkw0 (by decide)).trans h9ZV0
  have e11 := (Zfr.gi fq62 t_x0 (by decide)).trans h10ZV0
  have k12 := GtP_fr k0ZV0 fq62 t_x0 W (by decide)
  have := li_1
  have sc14 : Sc c q62 x0 (1) (0) := by
    obtain ⟨yf2, yt2, z0y, z1y, x0y, x1y, x2y, x3y, x4y, x5y⟩ := pbZSq62
    exact Sc_mk h1ZV0 z0y h2ZV0 z1y h3ZV0 ((Zfr.gi (ci := 12) fq62 t_x0 (by decide)).trans h3ZV0) (by omega)
  have k13 := WyN_fr k1ZV0 fq62 t_x0 W (by decide) sc14
  have k15 := TbI_fr k2ZV0 fq62 t_x0 W (by decide) sc14
  have k16 := TbC_fr k3ZV0 fq62 t_x0 W (by decide) sc14
  have k17 := TkN_fr k4ZV0 fq62 t_x0 W (by decide)
  have F18 := Zfr.tr F0 fq62 (by decide)
  obtain ⟨bf2q62, bt2q62, h0ZSq62, h1ZSq62, r0ZSq62, r1ZSq62, r2ZSq62, r3ZSq62, r4ZSq62, r5ZSq62⟩ := pbZSq62
  obtain ⟨qt19, eqt19, Wqt19, fqt19, pbZVnqt19⟩ := p_Mo_nodeOf_172 hn Wq62 (x2 := x2) t_x0 (by omega) (by omega) (by omega) (by omega) (by omega) (by omega) (by omega) (by omega) e3 h0ZSq62 h1ZSq62 e4 (by omega) ⟨bks0, bkl0, bkw0, bna0, blb0, bnw0, bvn0, e3, h0ZSq62, h1ZSq62, e4, e5, e6, e7, e8, e9, e10, e11, tks0, tkl0, tkw0, by (try dsimp only); omega, by (try dsimp only); omega, by (try dsimp only); omega, by (try dsimp only); omega, by (try dsimp only); omega, by (try dsimp only); omega, by (try dsimp only); omega, by (try dsimp only); omega, by (try dsimp only); omega, by (try dsimp only); omega, by (try dsimp only); omega, by (try dsimp only); omega, by (try dsimp only); omega, by (try dsimp only); omega, by (try dsimp only); omega, by (try dsimp only); omega, by (try dsimp only); omega, by (try dsimp only); omega, k12, k13, k15, k16, k17⟩
  have e35 := (Zfr.gi fqt19 t_x0 (by decide)).trans e3
  have e36 := (Zfr.gi fqt19 t_x0 (by decide)).trans e4
  have e37 := (Zfr.gr fqt19 t_x0 (by decide)).trans e5
  have e38 := (Zfr.gr fqt19 t_x0 (by decide)).trans e6
  have e39 := (Zfr.gr fqt19 t_x0 (by decide)).trans e7
  have e40 := (Zfr.ai fqt19 tks0 (by decide)).trans e8
  have e41 := (Zfr.ai fqt19 tkl0 (by decide)).trans e9
  have e42 := (Zfr.ai fqt19 tkw0 (by decide)).trans e10
  have e43 := (Zfr.gi fqt19 t_x0 (by decide)).trans e11
  have F44 := Zfr.tr F18 fqt19 (by decide)
  obtain ⟨bf2qt19, bt2qt19, bd2qt19, bksqt19, bklqt19, bkwqt19, bnaqt19, blbqt19, bnwqt19, bvnqt19, h0ZVnqt19, h1ZVnqt19, h2ZVnqt19, h3ZVnqt19, h4ZVnqt19, h5ZVnqt19, h6ZVnqt19, h7ZVnqt19, h8ZVnqt19, h9ZVnqt19, h10ZVnqt19, tksqt19, tklqt19, tkwqt19, r0ZVnqt19, r1ZVnqt19, r2ZVnqt19, r3ZVnqt19, r4ZVnqt19, r5ZVnqt19, r6ZVnqt19, r7ZVnqt19, r8ZVnqt19, r9ZVnqt19, r10ZVnqt19, r11ZVnqt19, r12ZVnqt19, r13ZVnqt19, r14ZVnqt19, r15ZVnqt19, r16ZVnqt19, r17ZVnqt19, r18ZVnqt19, r19ZVnqt19, r20ZVnqt19, k0ZVnqt19, k1ZVnqt19, k2ZVnqt19, k3ZVnqt19, k4ZVnqt19⟩ := pbZVnqt19
  have := li_2
  exact ⟨_, eqt19, Wqt19, F44, ⟨bf2qt19, bt2qt19, bd2qt19, bksqt19, bklqt19, bkwqt19, bnaqt19, blbqt19, bnwqt19, bvnqt19, h0ZVnqt19, h1ZVnqt19, h2ZVnqt19, h3ZVnqt19, h4ZVnqt19, h5ZVnqt19, h6ZVnqt19, h7ZVnqt19, h8ZVnqt19, h9ZVnqt19, h10ZVnqt19, tksqt19, tklqt19, tkwqt19, by (try dsimp only); omega, by (try dsimp only); omega, by (try dsimp only); omega, by (try dsimp only); omega, by (try dsimp only); omega, by (try dsimp only); omega, by (try dsimp only); omega, by (try dsimp only); omega, by (try dsimp only); omega, by (try dsimp only); omega, by (try dsimp only); omega, by (try dsimp only); omega, by (try dsimp only); omega, by (try dsimp only); omega, by (try dsimp only); omega, by (try dsimp only); omega, by (try dsimp only); omega, by (try dsimp only); omega, by (try dsimp only); omega, by (try dsimp only); omega, by (try dsimp only); omega, k0ZVnqt19, k1ZVnqt19, k2ZVnqt19, k3ZVnqt19, k4ZVnqt19⟩⟩

abbrev M_Mo_nodeOf_73 : List (Nat × Nat) := [(64, 18), (64, 19), (64, 20), (64, 57), (79, 0), (82, 0), (83, 0), (105, 0), (106, 0)]
set_option maxRecDepth 100000 in
set_option maxHeartbeats 400000 in
theorem p_Mo_nodeOf_73 {nf : Nat} (hn : 8589934592 ≤ nf) {G : List Nat} {c : Zc} (W : Zwt zty G c) {x0 : Nat} {x2 : Int32} {x3 : Int32} {ni : Int32} {bc : Int32} {pv : Int32} {fv : Int32} {tv : Int32} {dv : Int32} (t_x0 : G[x0]? = some 64) (pl_pv : 0 ≤ pv.toInt) (pu_pv : pv.toInt ≤ 8) (pl_fv : 0 ≤ fv.toInt) (pu_fv : fv.toInt ≤ 6) (pl_tv : 0 ≤ tv.toInt) (pu_tv : tv.toInt ≤ 200) (pl_dv : 0 ≤ dv.toInt) (pu_dv : dv.toInt ≤ 11) (pl_x2 : (-1) ≤ x2.toInt) (pu_x2 : x2.toInt ≤ 107) (pl_x3 : 0 ≤ x3.toInt) (pu_x3 : x3.toInt ≤ 65) (eh_pv : zgi c x0 12 25 = some pv) (eh_fv : zgi c x0 12 19 = some fv) (eh_tv : zgi c x0 12 18 = some tv) (eh_dv : zgi c x0 12 53 = some dv) (pp_6 : (x2.toInt = -1 ∨ (0 ≤ x2.toInt ∧ x2.toInt ≤ 7) ∨ (100 ≤ x2.toInt ∧ ¬ fv.toInt = 0))) (hb_ZV : ZV G c x0 pv fv tv dv ni bc) : ∃ q, f_Mo_nodeOf_73 nf x0 x2 x3 c = some q ∧ Zwt zty G q.2 ∧ Zfr G M_Mo_nodeOf_73 c q.2 ∧ ZVn G q.2 x0 pv fv tv dv ni bc 2 q.1 := by
  have F0 : Zfr G M_Mo_nodeOf_73 c c := Zfr.rf
  unfold f_Mo_nodeOf_73
  obtain ⟨bks0, bkl0, bkw0, bna0, blb0, bnw0, bvn0, h0ZV0, h1ZV0, h2ZV0, h3ZV0, h4ZV0, h5ZV0, h6ZV0, h7ZV0, h8ZV0, h9ZV0, h10ZV0, tks0, tkl0, tkw0, r0ZV0, r1ZV0, r2ZV0, r3ZV0, r4ZV0, r5ZV0, r6ZV0, r7ZV0, r8ZV0, r9ZV0, r10ZV0, r11ZV0, r12ZV0, r13ZV0, r14ZV0, r15ZV0, r16ZV0, r17ZV0, k0ZV0, k1ZV0, k2ZV0, k3ZV0, k4ZV0⟩ := hb_ZV
  refine wi (fun hq1 => ?_) (fun hq1 => ?_)
  · have := li_0
    have hq1 := i_le hq1
    obtain ⟨qt2, eqt2, Wqt2, fqt2, pbZVnqt2⟩ := p_Mo_nodeOf_111 hn W (x2 := x2) t_x0 (by omega) (by omega) (by omega) (by omega) (by omega) (by omega) (by omega) (by omega) h0ZV0 h1ZV0 h2ZV0 h3ZV0 (by omega) ⟨bks0, bkl0, bkw0, bna0, blb0, bnw0, bvn0, h0ZV0, h1ZV0, h2ZV0, h3ZV0, h4ZV0, h5ZV0, h6ZV0, h7ZV0, h8ZV0, h9ZV0, h10ZV0, tks0, tkl0, tkw0, by (try dsimp only); omega, by (try dsimp only); omega, by (try dsimp only); omega, by (try dsimp only); omega, by (try dsimp only); omega, by (try dsimp only); omega, by (try dsimp only); omega, by (try dsimp only); omega, by (try dsimp only); omega, by (try dsimp only); omega, by (try dsimp only); omega, by (try dsimp only); omega, by (try dsimp only); omega, by (try dsimp only); omega, by (try dsimp only); omega, by (try dsimp only); omega, by (try dsimp only); omega, by (try dsimp only); omega, k0ZV0, k1ZV0, k2ZV0, k3ZV0, k4ZV0⟩
    have e18 := (Zfr.gi fqt2 t_x0 (by decide)).trans h0ZV0
    have e19 := (Zfr.gi fqt2 t_x0 (by decide)).trans h3ZV0
    have e20 := (Zfr.gr fqt2 t_x0 (by decide)).trans h4ZV0
    have e21 := (Zfr.gr fqt2 t_x0 (by decide)).trans h5ZV0
    have e22 := (Zfr.gr fqt2 t_x0 (by decide)).trans h6ZV0
    have e23 := (Zfr.ai fqt2 tks0 (by decide)).trans h7ZV0
    have e24 := (Zfr.ai fqt2 tkl0 (by decide)).trans h8ZV0
    have e25 := (Zfr.ai fqt2 tkw0 (by decide)).trans h9ZV0
    have e26 := (Zfr.gi fqt2 t_x0 (by decide)).trans h10ZV0
    have F27 := Zfr.tr F0 fqt2 (by decide)
    have := li_2
    obtain ⟨bf2qt2, bt2qt2, bd2qt2, bksqt2, bklqt2, bkwqt2, bnaqt2, blbqt2, bnwqt2, bvnqt2, h0ZVnqt2, h1ZVnqt2, h2ZVnqt2, h3ZVnqt2, h4ZVnqt2, h5ZVnqt2, h6ZVnqt2, h7ZVnqt2, h8ZVnqt2, h9ZVnqt2, h10ZVnqt2, tksqt2, tklqt2, tkwqt2, r0ZVnqt2, r1ZVnqt2, r2ZVnqt2, r3ZVnqt2, r4ZVnqt2, r5ZVnqt2, r6ZVnqt2, r7ZVnqt2, r8ZVnqt2, r9ZVnqt2, r10ZVnqt2, r11ZVnqt2, r12ZVnqt2, r13ZVnqt2, r14ZVnqt2, r15ZVnqt2, r16ZVnqt2, r17ZVnqt2, r18ZVnqt2, r19ZVnqt2, r20ZVnqt2, k0ZVnqt2, k1ZVnqt2, k2ZVnqt2, k3ZVnqt2, k4ZVnqt2⟩ := pbZVnqt2
    exact ⟨_, eqt2, Wqt2, F27, ⟨bf2qt2, bt2qt2, bd2qt2, bksqt2, bklqt2, bkwqt2, bnaqt2, blbqt2, bnwqt2, bvnqt2, h0ZVnqt2, h1ZVnqt2, h2ZVnqt2, h3ZVnqt2, h4ZVnqt2, h5ZVnqt2, h6ZVnqt2, h7ZVnqt2, h8ZVnqt2, h9ZVnqt2, h10ZVnqt2, tksqt2, tklqt2, tkwqt2, by (try dsimp only); omega, by (try dsimp only); omega, by (try dsimp only); omega, by (try dsimp only); omega, by (try dsimp only); omega, by (try dsimp only); omega, by (try dsimp only); omega, by (try dsimp only); omega, by (try dsimp only); omega, by (try dsimp only); omega, by (try dsimp only); omega, by (try dsimp only); omega, by (try dsimp only); omega, by (try dsimp only); omega, by (try dsimp only); omega, by (try dsimp only); omega, by (try dsimp only); omega, by (try dsimp only); omega, by (try dsimp only); omega, by (try dsimp only); omega, by (try dsimp only); omega, k0ZVnqt2, k1ZVnqt2, k2ZVnqt2, k3ZVnqt2, k4ZVnqt2⟩⟩
  · have := li_0
    have hq1 := i_nle hq1
    refine wb h1ZV0 ?_
    refine wi (fun hq39 => ?_) (fun hq39 => ?_)
    · have hq39 := i_eq hq39
      obtain ⟨v66, ev66, tv66⟩ := gf_64_16 W t_x0
      refine wb ev66 ?_
      refine wb h2ZV0 ?_
      obtain ⟨v68, ev68, _⟩ := ga_76 W tv66 (i := tv) (by omega) (by omega)
      refine wb ev68 ?_
      obtain ⟨w70, ew70⟩ := go_64 W t_x0
      refine wb ew70 ?_
      obtain ⟨q69, eq69, Wq69, fq69, pl0q69, pu0q69, pbZomq69⟩ := p_Mo_oneMore hn W (a1 := v68) t_x0 (by omega) (by omega) (by omega) (by omega) h1ZV0 h10ZV0
      refine wb eq69 ?_
      have e42 := (Zfr.gi fq69 t_x0 (by decide)).trans h0ZV0
      have e43 := (Zfr.gi fq69 t_x0 (by decide)).trans h2ZV0
      have e44 := (Zfr.gi fq69 t_x0 (by decide)).trans h3ZV0
      have e45 := (Zfr.gr fq69 t_x0 (by decide)).trans h4ZV0
      have e46 := (Zfr.gr fq69 t_x0 (by decide)).trans h5ZV0
      have e47 := (Zfr.gr fq69 t_x0 (by decide)).trans h6ZV0
      have e48 := (Zfr.ai fq69 tks0 (by decide)).trans h7ZV0
      have e49 := (Zfr.ai fq69 tkl0 (by decide)).trans h8ZV0
      have e50 := (Zfr.ai fq69 tkw0 (by decide)).trans h9ZV0
      have e51 := (Zfr.ai fq69 tv66 (by decide)).trans ev68
      have k52 := GtP_fr k0ZV0 fq69 t_x0 W (by decide)
      have sc54 : Sc c q69.2 x0 (0) (0) := by
        obtain ⟨yf2, yv2, z0y, z1y, x0y, x1y, x2y, x3y, x4y, x5y, x6y⟩ := pbZomq69
        exact Sc_mk h1ZV0 z0y h2ZV0 ((Zfr.gi (ci := 12) fq69 t_x0 (by decide)).trans h2ZV0) h3ZV0 ((Zfr.gi (ci := 12) fq69 t_x0 (by decide)).trans h3ZV0) (by omega)
      have k53 := WyN_fr k1ZV0 fq69 t_x0 W (by decide) sc54
      have k55 := TbI_fr k2ZV0 fq69 t_x0 W (by decide) sc54
      have k56 := TbC_fr k3ZV0 fq69 t_x0 W (by decide) sc54
      have k57 := TkN_fr k4ZV0 fq69 t_x0 W (by decide)
      have F58 := Zfr.tr F0 fq69 (by decide)
      obtain ⟨bf2q69, bv2q69, h0Zomq69, h1Zomq69, r0Zomq69, r1Zomq69, r2Zomq69, r3Zomq69, r4Zomq69, r5Zomq69, r6Zomq69⟩ := pbZomq69
      refine wi (fun hq59 => ?_) (fun hq59 => ?_)
      · have hq59 := i_eq hq59
        obtain ⟨qt60, eqt60, Wqt60, fqt60, pbZVnqt60⟩ := p_Mo_nodeOf_111 hn Wq69 (x2 := x2) t_x0 (by omega) (by omega) (by omega) (by omega) (by omega) (by omega) (by omega) (by omega) e42 h0Zomq69 e43 e44 (by omega) ⟨bks0, bkl0, bkw0, bna0, blb0, bnw0, bv2q69, e42, h0Zomq69, e43, e44, e45, e46, e47, e48, e49, e50, h1Zomq69, tks0, tkl0, tkw0, by (try dsimp only); omega, by (try dsimp only); omega, by (try dsimp only); omega, by (try dsimp only); omega, by (try dsimp only); omega, by (try dsimp only); omega, by (try dsimp only); omega, by (try dsimp only); omega, by (try dsimp only); omega, by (try dsimp only); omega, by (try dsimp only); omega, by (try dsimp only); omega, by (try dsimp only); omega, by (try dsimp only); omega, by (try dsimp only); omega, by (try dsimp only); omega, by (try dsimp only); omega, by (try dsimp only); omega, k52, k53, k55, k56, k57⟩
        have e76 := (Zfr.gi fqt60 t_x0 (by decide)).trans e42
        have e77 := (Zfr.gi fqt60 t_x0 (by decide)).trans e44
        have e78 := (Zfr.gr fqt60 t_x0 (by decide)).trans e45
        have e79 := (Zfr.gr fqt60 t_x0 (by decide)).trans e46
        have e80 := (Zfr.gr fqt60 t_x0 (by decide)).trans e47
        have e81 := (Zfr.ai fqt60 tks0 (by decide)).trans e48
        have e82 := (Zfr.ai fqt60 tkl0 (by decide)).trans e49
        have e83 := (Zfr.ai fqt60 tkw0 (by decide)).trans e50
        have e84 := (Zfr.ai fqt60 tv66 (by decide)).trans e51
        have e85 := (Zfr.gi fqt60 t_x0 (by decide)).trans h1Zomq69
        have F86 := Zfr.tr F58 fqt60 (by decide)
        have := li_2
        obtain ⟨bf2qt60, bt2qt60, bd2qt60, bksqt60, bklqt60, bkwqt60, bnaqt60, blbqt60, bnwqt60, bvnqt60, h0ZVnqt60, h1ZVnqt60, h2ZVnqt60, h3ZVnqt60, h4ZVnqt60, h5ZVnqt60, h6ZVnqt60, h7ZVnqt60, h8ZVnqt60, h9ZVnqt60, h10ZVnqt60, tksqt60, tklqt60, tkwqt60, r0ZVnqt60, r1ZVnqt60, r2ZVnqt60, r3ZVnqt60, r4ZVnqt60, r5ZVnqt60, r6ZVnqt60, r7ZVnqt60, r8ZVnqt60, r9ZVnqt60, r10ZVnqt60, r11ZVnqt60, r12ZVnqt60, r13ZVnqt60, r14ZVnqt60, r15ZVnqt60, r16ZVnqt60, r17ZVnqt60, r18ZVnqt60, r19ZVnqt60, r20ZVnqt60, k0ZVnqt60, k1ZVnqt60, k2ZVnqt60, k3ZVnqt60, k4ZVnqt60⟩ := pbZVnqt60
        exact ⟨_, eqt60, Wqt60, F86, ⟨bf2qt60, bt2qt60, bd2qt60, bksqt60, bklqt60, bkwqt60, bnaqt60, blbqt60, bnwqt60, bvnqt60, h0ZVnqt60, h1ZVnqt60, h2ZVnqt60, h3ZVnqt60, h4ZVnqt60, h5ZVnqt60, h6ZVnqt60, h7ZVnqt60, h8ZVnqt60, h9ZVnqt60, h10ZVnqt60, tksqt60, tklqt60, tkwqt60, by (try dsimp only); omega, by (try dsimp only); omega, by (try dsimp only); omega, by (try dsimp only); omega, by (try dsimp only); omega, by (try dsimp only); omega, by (try dsimp only); omega, by (try dsimp only); omega, by (try dsimp only); omega, by (try dsimp only); omega, by (try dsimp only); omega, by (try dsimp only); omega, by (try dsimp only); omega, by (try dsimp only); omega, by (try dsimp only); omega, by (try dsimp only); omega, by (try dsimp only); omega, by (try dsimp only); omega, by (try dsimp only); omega, by (try dsimp only); omega, by (try dsimp only); omega, k0ZVnqt60, k1ZVnqt60, k2ZVnqt60, k3ZVnqt60, k4ZVnqt60⟩⟩
      · have hq59 := i_ne hq59
        obtain ⟨w73, ew73⟩ := go_64 Wq69 t_x0
        refine wb ew73 ?_
        obtain ⟨q72, eq72, Wq72, fq72, pl0q72, pu0q72, pbZnsq72⟩ := p_Mo_newSlot hn Wq69  t_x0 (by omega) (by omega) (by omega) (by omega) e42 e45 e48
        refine wb eq72 ?_
        have e101 := (Zfr.gi fq72 t_x0 (by decide)).trans e42
        have e102 := (Zfr.gi fq72 t_x0 (by decide)).trans e43
        have e103 := (Zfr.gi fq72 t_x0 (by decide)).trans e44
        have e104 := (Zfr.gr fq72 t_x0 (by decide)).trans e45
        have e105 := (Zfr.gr fq72 t_x0 (by decide)).trans e46
        have e106 := (Zfr.gr fq72 t_x0 (by decide)).trans e47
        have e107 := (Zfr.ai fq72 tkl0 (by decide)).trans e49
        have e108 := (Zfr.ai fq72 tkw0 (by decide)).trans e50
        have e109 := (Zfr.ai fq72 tv66 (by decide)).trans e51
        have e110 := (Zfr.gi fq72 t_x0 (by decide)).trans h0Zomq69
        have e111 := (Zfr.gi fq72 t_x0 (by decide)).trans h1Zomq69
        have k112 := GtP_fr k52 fq72 t_x0 Wq69 (by decide)
        have sc114 := Sc_fr fq72 t_x0 (by decide) (by decide) (by decide)
        have k113 := WyN_fr k53 fq72 t_x0 Wq69 (by decide) sc114
        have k115 := TbI_fr k55 fq72 t_x0 Wq69 (by decide) sc114
        have k116 := TbC_fr k56 fq72 t_x0 Wq69 (by decide) sc114
        have k117 := TkN_fr k57 fq72 t_x0 Wq69 (by decide)
        have F118 := Zfr.tr F58 fq72 (by decide)
        obtain ⟨bksq72, bn2q72, h0Znsq72, h1Znsq72, h2Znsq72, tksq72, r0Znsq72⟩ := pbZnsq72
        obtain ⟨w75, ew75⟩ := go_64 Wq72 t_x0
        refine wb ew75 ?_
        obtain ⟨q74, eq74, Wq74, fq74⟩ := p_Mo_learn hn Wq72 (a1 := x3) (a2 := q72.1) t_x0 (by omega) (by omega) (by omega) (by omega) (by omega)
        refine wb eq74 ?_
        have e119 := (Zfr.gi fq74 t_x0 (by decide)).trans h0Znsq72
        have e120 := (Zfr.gi fq74 t_x0 (by decide)).trans e102
        have e121 := (Zfr.gi fq74 t_x0 (by decide)).trans e103
        have e122 := (Zfr.gr fq74 t_x0 (by decide)).trans h1Znsq72
        have e123 := (Zfr.gr fq74 t_x0 (by decide)).trans e105
        have e124 := (Zfr.gr fq74 t_x0 (by decide)).trans e106
        have e125 := (Zfr.ai fq74 tkl0 (by decide)).trans e107
        have e126 := (Zfr.ai fq74 tkw0 (by decide)).trans e108
        have e127 := (Zfr.ai fq74 tv66 (by decide)).trans e109
        have e128 := (Zfr.gi fq74 t_x0 (by decide)).trans e110
        have e129 := (Zfr.gi fq74 t_x0 (by decide)).trans e111
        have e130 := (Zfr.ai fq74 tksq72 (by decide)).trans h2Znsq72
        have k131 := GtP_fr k112 fq74 t_x0 Wq72 (by decide)
        have sc133 := Sc_fr fq74 t_x0 (by decide) (by decide) (by decide)
        have k132 := WyN_fr k113 fq74 t_x0 Wq72 (by decide) sc133
        have k134 := TbI_fr k115 fq74 t_x0 Wq72 (by decide) sc133
        have k135 := TbC_fr k116 fq74 t_x0 Wq72 (by decide) sc133
        have k136 := TkN_fr k117 fq74 t_x0 Wq72 (by decide)
        have F137 := Zfr.tr F118 fq74 (by decide)
        obtain ⟨qt138, eqt138, Wqt138, fqt138, pbZVnqt138⟩ := p_Mo_nodeOf_111 hn Wq74 (x2 := q72.1) t_x0 (by omega) (by omega) (by omega) (by omega) (by omega) (by omega) (by omega) (by omega) e119 e128 e120 e121 (by omega) ⟨bksq72, bkl0, bkw0, bn2q72, blb0, bnw0, bv2q69, e119, e128, e120, e121, e122, e123, e124, e130, e125, e126, e129, tksq72, tkl0, tkw0, by (try dsimp only); omega, by (try dsimp only); omega, by (try dsimp only); omega, by (try dsimp only); omega, by (try dsimp only); omega, by (try dsimp only); omega, by (try dsimp only); omega, by (try dsimp only); omega, by (try dsimp only); omega, by (try dsimp only); omega, by (try dsimp only); omega, by (try dsimp only); omega, by (try dsimp only); omega, by (try dsimp only); omega, by (try dsimp only); omega, by (try dsimp only); omega, by (try dsimp only); omega, by (try dsimp only); omega, k131, k132, k134, k135, k136⟩
        have e154 := (Zfr.gi fqt138 t_x0 (by decide)).trans e119
        have e155 := (Zfr.gi fqt138 t_x0 (by decide)).trans e121
        have e156 := (Zfr.gr fqt138 t_x0 (by decide)).trans e122
        have e157 := (Zfr.gr fqt138 t_x0 (by decide)).trans e123
        have e158 := (Zfr.gr fqt138 t_x0 (by decide)).trans e124
        have e159 := (Zfr.ai fqt138 tkl0 (by decide)).trans e125
        have e160 := (Zfr.ai fqt138 tkw0 (by decide)).trans e126
        have e161 := (Zfr.ai fqt138 tv66 (by decide)).trans e127
        have e162 := (Zfr.gi fqt138 t_x0 (by decide)).trans e129
        have e163 := (Zfr.ai fqt138 tksq72 (by decide)).trans e130
        have F164 := Zfr.tr F137 fqt138 (by decide)
        have := li_2
        obtain ⟨bf2qt138, bt2qt138, bd2qt138, bksqt138, bklqt138, bkwqt138, bnaqt138, blbqt138, bnwqt138, bvnqt138, h0ZVnqt138, h1ZVnqt138, h2ZVnqt138, h3ZVnqt138, h4ZVnqt138, h5ZVnqt138, h6ZVnqt138, h7ZVnqt138, h8ZVnqt138, h9ZVnqt138, h10ZVnqt138, tksqt138, tklqt138, tkwqt138, r0ZVnqt138, r1ZVnqt138, r2ZVnqt138, r3ZVnqt138, r4ZVnqt138, r5ZVnqt138, r6ZVnqt138, r7ZVnqt138, r8ZVnqt138, r9ZVnqt138, r10ZVnqt138, r11ZVnqt138, r12ZVnqt138, r13ZVnqt138, r14ZVnqt138, r15ZVnqt138, r16ZVnqt138, r17ZVnqt138, r18ZVnqt138, r19ZVnqt138, r20ZVnqt138, k0ZVnqt138, k1ZVnqt138, k2ZVnqt138, k3ZVnqt138, k4ZVnqt138⟩ := pbZVnqt138
        exact ⟨_, eqt138, Wqt138, F164, ⟨bf2qt138, bt2qt138, bd2qt138, bksqt138, bklqt138, bkwqt138, bnaqt138, blbqt138, bnwqt138, bvnqt138, h0ZVnqt138, h1ZVnqt138, h2ZVnqt138, h3ZVnqt138, h4ZVnqt138, h5ZVnqt138, h6ZVnqt138, h7ZVnqt138, h8ZVnqt138, h9ZVnqt138, h10ZVnqt138, tksqt138, tklqt138, tkwqt138, by (try dsimp only); omega, by (try dsimp only); omega, by (try dsimp only); omega, by (try dsimp only); omega, by (try dsimp only); omega, by (try dsimp only); omega, by (try dsimp only); omega, by (try dsimp only); omega, by (try dsimp only); omega, by (try dsimp only); omega, by (try dsimp only); omega, by (try dsimp only); omega, by (try dsimp only); omega, by (try dsimp only); omega, by (try dsimp only); omega, by (try dsimp only); omega, by (try dsimp only); omega, by (try dsimp only); omega, by (try dsimp only); omega, by (try dsimp only); omega, by (try dsimp only); omega, k0ZVnqt138, k1ZVnqt138, k2ZVnqt138, k3ZVnqt138, k4ZVnqt138⟩⟩
    · have hq39 := i_ne hq39
      obtain ⟨qt176, eqt176, Wqt176, fqt176, pbZVnqt176⟩ := p_Mo_nodeOf_111 hn W (x2 := x2) t_x0 (by omega) (by omega) (by omega) (by omega) (by omega) (by omega) (by omega) (by omega) h0ZV0 h1ZV0 h2ZV0 h3ZV0 (by omega) ⟨bks0, bkl0, bkw0, bna0, blb0, bnw0, bvn0, h0ZV0, h1ZV0, h2ZV0, h3ZV0, h4ZV0, h5ZV0, h6ZV0, h7ZV0, h8ZV0, h9ZV0, h10ZV0, tks0, tkl0, tkw0, by (try dsimp only); omega, by (try dsimp only); omega, by (try dsimp only); omega, by (try dsimp only); omega, by (try dsimp only); omega, by (try dsimp only); omega, by (try dsimp only); omega, by (try dsimp only); omega, by (try dsimp only); omega, by (try dsimp only); omega, by (try dsimp only); omega, by (try dsimp only); omega, by (try dsimp only); omega, by (try dsimp only); omega, by (try dsimp only); omega, by (try dsimp only); omega, by (try dsimp only); omega, by (try dsimp only); omega, k0ZV0, k1ZV0, k2ZV0, k3ZV0, k4ZV0⟩
      have e192 := (Zfr.gi fqt176 t_x0 (by decide)).trans h0ZV0
      have e193 := (Zfr.gi fqt176 t_x0 (by decide)).trans h3ZV0
      have e194 := (Zfr.gr fqt176 t_x0 (by decide)).trans h4ZV0
      have e195 := (Zfr.gr fqt176 t_x0 (by decide)).trans h5ZV0
      have e196 := (Zfr.gr fqt176 t_x0 (by decide)).trans h6ZV0
      have e197 := (Zfr.ai fqt176 tks0 (by decide)).trans h7ZV0
      have e198 := (Zfr.ai fqt176 tkl0 (by decide)).trans h8ZV0
      have e199 := (Zfr.ai fqt176 tkw0 (by decide)).trans h9ZV0
      have e200 := (Zfr.gi fqt176 t_x0 (by decide)).trans h10ZV0
      have F201 := Zfr.tr F0 fqt176 (by decide)
      have := li_2
      obtain ⟨bf2qt176, bt2qt176, bd2qt176, bksqt176, bklqt176, bkwqt176, bnaqt176, blbqt176, bnwqt176, bvnqt176, h0ZVnqt176, h1ZVnqt176, h2ZVnqt176, h3ZVnqt176, h4ZVnqt176, h5ZVnqt176, h6ZVnqt176, h7ZVnqt176, h8ZVnqt176, h9ZVnqt176, h10ZVnqt176, tksqt176, tklqt176, tkwqt176, r0ZVnqt176, r1ZVnqt176, r2ZVnqt176, r3ZVnqt176, r4ZVnqt176, r5ZVnqt176, r6ZVnqt176, r7ZVnqt176, r8ZVnqt176, r9ZVnqt176, r10ZVnqt176, r11ZVnqt176, r12ZVnqt176, r13ZVnqt176, r14ZVnqt176, r15ZVnqt176, r16ZVnqt176, r17ZVnqt176, r18ZVnqt176, r19ZVnqt176, r20ZVnqt176, k0ZVnqt176, k1ZVnqt176, k2ZVnqt176, k3ZVnqt176, k4ZVnqt176⟩ := pbZVnqt176
      exact ⟨_, eqt176, Wqt176, F201, ⟨bf2qt176, bt2qt176, bd2qt176, bksqt176, bklqt176, bkwqt176, bnaqt176, blbqt176, bnwqt176, bvnqt176, h0ZVnqt176, h1ZVnqt176, h2ZVnqt176, h3ZVnqt176, h4ZVnqt176, h5ZVnqt176, h6ZVnqt176, h7ZVnqt176, h8ZVnqt176, h9ZVnqt176, h10ZVnqt176, tksqt176, tklqt176, tkwqt176, by (try dsimp only); omega, by (try dsimp only); omega, by (try dsimp only); omega, by (try dsimp only); omega, by (try dsimp only); omega, by (try dsimp only); omega, by (try dsimp only); omega, by (try dsimp only); omega, by (try dsimp only); omega, by (try dsimp only); omega, by (try dsimp only); omega, by (try dsimp only); omega, by (try dsimp only); omega, by (try dsimp only); omega, by (try dsimp only); omega, by (try dsimp only); omega, by (try dsimp only); omega, by (try dsimp only); omega, by (try dsimp only); omega, by (try dsimp only); omega, by (try dsimp only); omega, k0ZVnqt176, k1ZVnqt176, k2ZVnqt176, k3ZVnqt176, k4ZVnqt176⟩⟩

abbrev M_Mo_nodeOf_152 : List (Nat × Nat) := [(64, 18), (64, 19), (64, 20), (64, 57), (79, 0), (82, 0), (83, 0)]
set_option maxRecDepth 100000 in
set_option maxHeartbeats 400000 in
theorem p_Mo_nodeOf_152 {nf : Nat} (hn : 8589934592 ≤ nf) {G : List Nat} {c : Zc} (W : Zwt zty G c) {x0 : Nat} {x1 : Int32} {x2 : Int32} {ni : Int32} {bc : Int32} {pv : Int32} {fv : Int32} {tv : Int32} {dv : Int32} (t_x0 : G[x0]? = some 64) (pl_pv : 0 ≤ pv.toInt) (pu_pv : pv.toInt ≤ 8) (pl_fv : 0 ≤ fv.toInt) (pu_fv : fv.toInt ≤ 6) (pl_tv : 0 ≤ tv.toInt) (pu_tv : tv.toInt ≤ 200) (pl_dv : 0 ≤ dv.toInt) (pu_dv : dv.toInt ≤ 11) (pl_x2 : (-1) ≤ x2.toInt) (pu_x2 : x2.toInt ≤ (-1)) (eh_pv : zgi c x0 12 25 = some pv) (eh_fv : zgi c x0 12 19 = some fv) (eh_tv : zgi c x0 12 18 = some tv) (eh_dv : zgi c x0 12 53 = some dv) (hb_ZV : ZV G c x0 pv fv tv dv ni bc) : ∃ q, f_Mo_nodeOf_152 nf x0 x1 x2 c = some q ∧ Zwt zty G q.2 ∧ Zfr G M_Mo_nodeOf_152 c q.2 ∧ ZVn G q.2 x0 pv fv tv dv ni bc 1 q.1 := by
  have F0 : Zfr G M_Mo_nodeOf_152 c c := Zfr.rf
  unfold f_Mo_nodeOf_152
  obtain ⟨bks0, bkl0, bkw0, bna0, blb0, bnw0, bvn0, h0ZV0, h1ZV0, h2ZV0, h3ZV0, h4ZV0, h5ZV0, h6ZV0, h7ZV0, h8ZV0, h9ZV0, h10ZV0, tks0, tkl0, tkw0, r0ZV0, r1ZV0, r2ZV0, r3ZV0, r4ZV0, r5ZV0, r6ZV0, r7ZV0, r8ZV0, r9ZV0, r10ZV0, r11ZV0, r12ZV0, r13ZV0, r14ZV0, r15ZV0, r16ZV0, r17ZV0, k0ZV0, k1ZV0, k2ZV0, k3ZV0, k4ZV0⟩ := hb_ZV
  refine wb h1ZV0 ?_
  refine wi (fun hq1 => ?_) (fun hq1 => ?_)
  · have := li_0
    have hq1 := i_eq hq1
    obtain ⟨w40, ew40⟩ := go_64 W t_x0
    refine wb ew40 ?_
    obtain ⟨q39, eq39, Wq39, fq39, pl0q39, pu0q39, pbZomq39⟩ := p_Mo_oneMore hn W (a1 := x1) t_x0 (by omega) (by omega) (by omega) (by omega) h1ZV0 h10ZV0
    refine wb eq39 ?_
    have e4 := (Zfr.gi fq39 t_x0 (by decide)).trans h0ZV0
    have e5 := (Zfr.gi fq39 t_x0 (by decide)).trans h2ZV0
    have e6 := (Zfr.gi fq39 t_x0 (by decide)).trans h3ZV0
    have e7 := (Zfr.gr fq39 t_x0 (by decide)).trans h4ZV0
    have e8 := (Zfr.gr fq39 t_x0 (by decide)).trans h5ZV0
    have e9 := (Zfr.gr fq39 t_x0 (by decide)).trans h6ZV0
    have e10 := (Zfr.ai fq39 tks0 (by decide)).trans h7ZV0
    have e11 := (Zfr.ai fq39 tkl0 (by decide)).trans h8ZV0
    have e12 := (Zfr.ai fq39 tkw0 (by decide)).trans h9ZV0
    have k13 := GtP_fr k0ZV0 fq39 t_x0 W (by decide)
    have sc15 : Sc c q39.2 x0 (0) (0) := by
      obtain ⟨yf2, yv2, z0y, z1y, x0y, x1y, x2y, x3y, x4y, x5y, x6y⟩ := pbZomq39
      exact Sc_mk h1ZV0 z0y h2ZV0 ((Zfr.gi (ci := 12) fq39 t_x0 (by decide)).trans h2ZV0) h3ZV0 ((Zfr.gi (ci := 12) fq39 t_x0 (by decide)).trans h3ZV0) (by omega)
    have k14 := WyN_fr k1ZV0 fq39 t_x0 W (by decide) sc15
    have k16 := TbI_fr k2ZV0 fq39 t_x0 W (by decide) sc15
    have k17 := TbC_fr k3ZV0 fq39 t_x0 W (by decide) sc15
    have k18 := TkN_fr k4ZV0 fq39 t_x0 W (by decide)
    have F19 := Zfr.tr F0 fq39 (by decide)
    obtain ⟨bf2q39, bv2q39, h0Zomq39, h1Zomq39, r0Zomq39, r1Zomq39, r2Zomq39, r3Zomq39, r4Zomq39, r5Zomq39, r6Zomq39⟩ := pbZomq39
    refine wi (fun hq20 => ?_) (fun hq20 => ?_)
    · have hq20 := i_eq hq20
      obtain ⟨qt21, eqt21, Wqt21, fqt21, pbZVnqt21⟩ := p_Mo_nodeOf_172 hn Wq39 (x2 := x2) t_x0 (by omega) (by omega) (by omega) (by omega) (by omega) (by omega) (by omega) (by omega) e4 h0Zomq39 e5 e6 (by omega) ⟨bks0, bkl0, bkw0, bna0, blb0, bnw0, bv2q39, e4, h0Zomq39, e5, e6, e7, e8, e9, e10, e11, e12, h1Zomq39, tks0, tkl0, tkw0, by (try dsimp only); omega, by (try dsimp only); omega, by (try dsimp only); omega, by (try dsimp only); omega, by (try dsimp only); omega, by (try dsimp only); omega, by (try dsimp only); omega, by (try dsimp only); omega, by (try dsimp only); omega, by (try dsimp only); omega, by (try dsimp only); omega, by (try dsimp only); omega, by (try dsimp only); omega, by (try dsimp only); omega, by (try dsimp only); omega, by (try dsimp only); omega, by (try dsimp only); omega, by (try dsimp only); omega, k13, k14, k16, k17, k18⟩
      have e37 := (Zfr.gi fqt21 t_x0 (by decide)).trans e4
      have e38 := (Zfr.gi fqt21 t_x0 (by decide)).trans e6
      have e39 := (Zfr.gr fqt21 t_x0 (by decide)).trans e7
      have e40 := (Zfr.gr fqt21 t_x0 (by decide)).trans e8
      have e41 := (Zfr.gr fqt21 t_x0 (by decide)).trans e9
      have e42 := (Zfr.ai fqt21 tks0 (by decide)).trans e10
      have e43 := (Zfr.ai fqt21 tkl0 (by decide)).trans e11
      have e44 := (Zfr.ai fqt21 tkw0 (by decide)).trans e12
      have e45 := (Zfr.gi fqt21 t_x0 (by decide)).trans h1Zomq39
      have F46 := Zfr.tr F19 fqt21 (by decide)
      have := li_1
      obtain ⟨bf2qt21, bt2qt21, bd2qt21, bksqt21, bklqt21, bkwqt21, bnaqt21, blbqt21, bnwqt21, bvnqt21, h0ZVnqt21, h1ZVnqt21, h2ZVnqt21, h3ZVnqt21, h4ZVnqt21, h5ZVnqt21, h6ZVnqt21, h7ZVnqt21, h8ZVnqt21, h9ZVnqt21, h10ZVnqt21, tksqt21, tklqt21, tkwqt21, r0ZVnqt21, r1ZVnqt21, r2ZVnqt21, r3ZVnqt21, r4ZVnqt21, r5ZVnqt21, r6ZVnqt21, r7ZVnqt21, r8ZVnqt21, r9ZVnqt21, r10ZVnqt21, r11ZVnqt21, r12ZVnqt21, r13ZVnqt21, r14ZVnqt21, r15ZVnqt21, r16ZVnqt21, r17ZVnqt21, r18ZVnqt21, r19ZVnqt21, r20ZVnqt21, k0ZVnqt21, k1ZVnqt21, k2ZVnqt21, k3ZVnqt21, k4ZVnqt21⟩ := pbZVnqt21
      exact ⟨_, eqt21, Wqt21, F46, ⟨bf2qt21, bt2qt21, bd2qt21, bksqt21, bklqt21, bkwqt21, bnaqt21, blbqt21, bnwqt21, bvnqt21, h0ZVnqt21, h1ZVnqt21, h2ZVnqt21, h3ZVnqt21, h4ZVnqt21, h5ZVnqt21, h6ZVnqt21, h7ZVnqt21, h8ZVnqt21, h9ZVnqt21, h10ZVnqt21, tksqt21, tklqt21, tkwqt21, by (try dsimp only); omega, by (try dsimp only); omega, by (try dsimp only); omega, by (try dsimp only); omega, by (try dsimp only); omega, by (try dsimp only); omega, by (try dsimp only); omega, by (try dsimp only); omega, by (try dsimp only); omega, by (try dsimp only); omega, by (try dsimp only); omega, by (try dsimp only); omega, by (try dsimp only); omega, by (try dsimp only); omega, by (try dsimp only); omega, by (try dsimp only); omega, by (try dsimp only); omega, by (try dsimp only); omega, by (try dsimp only); omega, by (try dsimp only); omega, by (try dsimp only); omega, k0ZVnqt21, k1ZVnqt21, k2ZVnqt21, k3ZVnqt21, k4ZVnqt21⟩⟩
    · have hq20 := i_ne hq20
      obtain ⟨w43, ew43⟩ := go_64 Wq39 t_x0
      refine wb ew43 ?_
      obtain ⟨q42, eq42, Wq42, fq42, pl0q42, pu0q42, pbZnsq42⟩ := p_Mo_newSlot hn Wq39  t_x0 (by omega) (by omega) (by omega) (by omega) e4 e7 e10
      refine wb eq42 ?_
      have e61 := (Zfr.gi fq42 t_x0 (by decide)).trans e4
      have e62 := (Zfr.gi fq42 t_x0 (by decide)).trans e5
      have e63 := (Zfr.gi fq42 t_x0 (by decide)).trans e6
      have e64 := (Zfr.gr fq42 t_x0 (by decide)).trans e7
      have e65 := (Zfr.gr fq42 t_x0 (by decide)).trans e8
      have e66 := (Zfr.gr fq42 t_x0 (by decide)).trans e9
      have e67 := (Zfr.ai fq42 tkl0 (by decide)).trans e11
      have e68 := (Zfr.ai fq42 tkw0 (by decide)).trans e12
      have e69 := (Zfr.gi fq42 t_x0 (by decide)).trans h0Zomq39
      have e70 := (Zfr.gi fq42 t_x0 (by decide)).trans h1Zomq39
      have k71 := GtP_fr k13 fq42 t_x0 Wq39 (by decide)
      have sc73 := Sc_fr fq42 t_x0 (by decide) (by decide) (by decide)
      have k72 := WyN_fr k14 fq42 t_x0 Wq39 (by decide) sc73
      have k74 := TbI_fr k16 fq42 t_x0 Wq39 (by decide) sc73
      have k75 := TbC_fr k17 fq42 t_x0 Wq39 (by decide) sc73
      have k76 := TkN_fr k18 fq42 t_x0 Wq39 (by decide)
      have F77 := Zfr.tr F19 fq42 (by decide)
      obtain ⟨bksq42, bn2q42, h0Znsq42, h1Znsq42, h2Znsq42, tksq42, r0Znsq42⟩ := pbZnsq42
      obtain ⟨qt78, eqt78, Wqt78, fqt78, pbZVnqt78⟩ := p_Mo_nodeOf_172 hn Wq42 (x2 := q42.1) t_x0 (by omega) (by omega) (by omega) (by omega) (by omega) (by omega) (by omega) (by omega) h0Znsq42 e69 e62 e63 (by omega) ⟨bksq42, bkl0, bkw0, bn2q42, blb0, bnw0, bv2q39, h0Znsq42, e69, e62, e63, h1Znsq42, e65, e66, h2Znsq42, e67, e68, e70, tksq42, tkl0, tkw0, by (try dsimp only); omega, by (try dsimp only); omega, by (try dsimp only); omega, by (try dsimp only); omega, by (try dsimp only); omega, by (try dsimp only); omega, by (try dsimp only); omega, by (try dsimp only); omega, by (try dsimp only); omega, by (try dsimp only); omega, by (try dsimp only); omega, by (try dsimp only); omega, by (try dsimp only); omega, by (try dsimp only); omega, by (try dsimp only); omega, by (try dsimp only); omega, by (try dsimp only); omega, by (try dsimp only); omega, k71, k72, k74, k75, k76⟩
      have e94 := (Zfr.gi fqt78 t_x0 (by decide)).trans h0Znsq42
      have e95 := (Zfr.gi fqt78 t_x0 (by decide)).trans e63
      have e96 := (Zfr.gr fqt78 t_x0 (by decide)).trans h1Znsq42
      have e97 := (Zfr.gr fqt78 t_x0 (by decide)).trans e65
      have e98 := (Zfr.gr fqt78 t_x0 (by decide)).trans e66
      have e99 := (Zfr.ai fqt78 tkl0 (by decide)).trans e67
      have e100 := (Zfr.ai fqt78 tkw0 (by decide)).trans e68
      have e101 := (Zfr.gi fqt78 t_x0 (by decide)).trans e70
      have e102 := (Zfr.ai fqt78 tksq42 (by decide)).trans h2Znsq42
      have F103 := Zfr.tr F77 fqt78 (by decide)
      have := li_1
      obtain ⟨bf2qt78, bt2qt78, bd2qt78, bksqt78, bklqt78, bkwqt78, bnaqt78, blbqt78, bnwqt78, bvnqt78, h0ZVnqt78, h1ZVnqt78, h2ZVnqt78, h3ZVnqt78, h4ZVnqt78, h5ZVnqt78, h6ZVnqt78, h7ZVnqt78, h8ZVnqt78, h9ZVnqt78, h10ZVnqt78, tksqt78, tklqt78, tkwqt78, r0ZVnqt78, r1ZVnqt78, r2ZVnqt78, r3ZVnqt78, r4ZVnqt78, r5ZVnqt78, r6ZVnqt78, r7ZVnqt78, r8ZVnqt78, r9ZVnqt78, r10ZVnqt78, r11ZVnqt78, r12ZVnqt78, r13ZVnqt78, r14ZVnqt78, r15ZVnqt78, r16ZVnqt78, r17ZVnqt78, r18ZVnqt78, r19ZVnqt78, r20ZVnqt78, k0ZVnqt78, k1ZVnqt78, k2ZVnqt78, k3ZVnqt78, k4ZVnqt78⟩ := pbZVnqt78
      exact ⟨_, eqt78, Wqt78, F103, ⟨bf2qt78, bt2qt78, bd2qt78, bksqt78, bklqt78, bkwqt78, bnaqt78, blbqt78, bnwqt78, bvnqt78, h0ZVnqt78, h1ZVnqt78, h2ZVnqt78, h3ZVnqt78, h4ZVnqt78, h5ZVnqt78, h6ZVnqt78, h7ZVnqt78, h8ZVnqt78, h9ZVnqt78, h10ZVnqt78, tksqt78, tklqt78, tkwqt78, by (try dsimp only); omega, by (try dsimp only); omega, by (try dsimp only); omega, by (try dsimp only); omega, by (try dsimp only); omega, by (try dsimp only); omega, by (try dsimp only); omega, by (try dsimp only); omega, by (try dsimp only); omega, by (try dsimp only); omega, by (try dsimp only); omega, by (try dsimp only); omega, by (try dsimp only); omega, by (try dsimp only); omega, by (try dsimp only); omega, by (try dsimp only); omega, by (try dsimp only); omega, by (try dsimp only); omega, by (try dsimp only); omega, by (try dsimp only); omega, by (try dsimp only); omega, k0ZVnqt78, k1ZVnqt78, k2ZVnqt78, k3ZVnqt78, k4ZVnqt78⟩⟩
  · have := li_0
    have hq1 := i_ne hq1
    obtain ⟨qt115, eqt115, Wqt115, fqt115, pbZVnqt115⟩ := p_Mo_nodeOf_172 hn W (x2 := x2) t_x0 (by omega) (by omega) (by omega) (by omega) (by omega) (by omega) (by omega) (by omega) h0ZV0 h1ZV0 h2ZV0 h3ZV0 (by omega) ⟨bks0, bkl0, bkw0, bna0, blb0, bnw0, bvn0, h0ZV0, h1ZV0, h2ZV0, h3ZV0, h4ZV0, h5ZV0, h6ZV0, h7ZV0, h8ZV0, h9ZV0, h10ZV0, tks0, tkl0, tkw0, by (try dsimp only); omega, by (try dsimp only); omega, by (try dsimp only); omega, by (try dsimp only); omega, by (try dsimp only); omega, by (try dsimp only); omega, by (try dsimp only); omega, by (try dsimp only); omega, by (try dsimp only); omega, by (try dsimp only); omega, by (try dsimp only); omega, by (try dsimp only); omega, by (try dsimp only); omega, by (try dsimp only); omega, by (try dsimp only); omega, by (try dsimp only); omega, by (try dsimp only); omega, by (try dsimp only); omega, k0ZV0, k1ZV0, k2ZV0, k3ZV0, k4ZV0⟩
    have e131 := (Zfr.gi fqt115 t_x0 (by decide)).trans h0ZV0
    have e132 := (Zfr.gi fqt115 t_x0 (by decide)).trans h3ZV0
    have e133 := (Zfr.gr fqt115 t_x0 (by decide)).trans h4ZV0
    have e134 := (Zfr.gr fqt115 t_x0 (by decide)).trans h5ZV0
    have e135 := (Zfr.gr fqt115 t_x0 (by decide)).trans h6ZV0
    have e136 := (Zfr.ai fqt115 tks0 (by decide)).trans h7ZV0
    have e137 := (Zfr.ai fqt115 tkl0 (by decide)).trans h8ZV0
    have e138 := (Zfr.ai fqt115 tkw0 (by decide)).trans h9ZV0
    have e139 := (Zfr.gi fqt115 t_x0 (by decide)).trans h10ZV0
    have F140 := Zfr.tr F0 fqt115 (by decide)
    have := li_1
    obtain ⟨bf2qt115, bt2qt115, bd2qt115, bksqt115, bklqt115, bkwqt115, bnaqt115, blbqt115, bnwqt115, bvnqt115, h0ZVnqt115, h1ZVnqt115, h2ZVnqt115, h3ZVnqt115, h4ZVnqt115, h5ZVnqt115, h6ZVnqt115, h7ZVnqt115, h8ZVnqt115, h9ZVnqt115, h10ZVnqt115, tksqt115, tklqt115, tkwqt115, r0ZVnqt115, r1ZVnqt115, r2ZVnqt115, r3ZVnqt115, r4ZVnqt115, r5ZVnqt115, r6ZVnqt115, r7ZVnqt115, r8ZVnqt115, r9ZVnqt115, r10ZVnqt115, r11ZVnqt115, r12ZVnqt115, r13ZVnqt115, r14ZVnqt115, r15ZVnqt115, r16ZVnqt115, r17ZVnqt115, r18ZVnqt115, r19ZVnqt115, r20ZVnqt115, k0ZVnqt115, k1ZVnqt115, k2ZVnqt115, k3ZVnqt115, k4ZVnqt115⟩ := pbZVnqt115
    exact ⟨_, eqt115, Wqt115, F140, ⟨bf2qt115, bt2qt115, bd2qt115, bksqt115, bklqt115, bkwqt115, bnaqt115, blbqt115, bnwqt115, bvnqt115, h0ZVnqt115, h1ZVnqt115, h2ZVnqt115, h3ZVnqt115, h4ZVnqt115, h5ZVnqt115, h6ZVnqt115, h7ZVnqt115, h8ZVnqt115, h9ZVnqt115, h10ZVnqt115, tksqt115, tklqt115, tkwqt115, by (try dsimp only); omega, by (try dsimp only); omega, by (try dsimp only); omega, by (try dsimp only); omega, by (try dsimp only); omega, by (try dsimp only); omega, by (try dsimp only); omega, by (try dsimp only); omega, by (try dsimp only); omega, by (try dsimp only); omega, by (try dsimp only); omega, by (try dsimp only); omega, by (try dsimp only); omega, by (try dsimp only); omega, by (try dsimp only); omega, by (try dsimp only); omega, by (try dsimp only); omega, by (try dsimp only); omega, by (try dsimp only); omega, by (try dsimp only); omega, by (try dsimp only); omega, k0ZVnqt115, k1ZVnqt115, k2ZVnqt115, k3ZVnqt115, k4ZVnqt115⟩⟩

abbrev M_Mo_nodeOf_118 : List (Nat × Nat) := [(64, 18), (64, 19), (64, 20), (64, 57), (79, 0), (82, 0), (83, 0)]
set_option maxRecDepth 100000 in
set_option maxHeartbeats 400000 in
theorem p_Mo_nodeOf_118 {nf : Nat} (hn : 8589934592 ≤ nf) {G : List Nat} {c : Zc} (W : Zwt zty G c) {x0 : Nat} {x1 : Int32} {x2 : Int32} {ni : Int32} {bc : Int32} {pv : Int32} {fv : Int32} {tv : Int32} {dv : Int32} (t_x0 : G[x0]? = some 64) (pl_pv : 0 ≤ pv.toInt) (pu_pv : pv.toInt ≤ 8) (pl_fv : 0 ≤ fv.toInt) (pu_fv : fv.toInt ≤ 6) (pl_tv : 0 ≤ tv.toInt) (pu_tv : tv.toInt ≤ 200) (pl_dv : 0 ≤ dv.toInt) (pu_dv : dv.toInt ≤ 11) (pl_x2 : (-1) ≤ x2.toInt) (pu_x2 : x2.toInt ≤ (-1)) (eh_pv : zgi c x0 12 25 = some pv) (eh_fv : zgi c x0 12 19 = some fv) (eh_tv : zgi c x0 12 18 = some tv) (eh_dv : zgi c x0 12 53 = some dv) (hb_ZV : ZV G c x0 pv fv tv dv ni bc) : ∃ q, f_Mo_nodeOf_118 nf x0 x1 x2 c = some q ∧ Zwt zty G q.2 ∧ Zfr G M_Mo_nodeOf_118 c q.2 ∧ ZVn G q.2 x0 pv fv tv dv ni bc 1 q.1 := by
  have F0 : Zfr G M_Mo_nodeOf_118 c c := Zfr.rf
  unfold f_Mo_nodeOf_118
  obtain ⟨bks0, bkl0, bkw0, bna0, blb0, bnw0, bvn0, h0ZV0, h1ZV0, h2ZV0, h3ZV0, h4ZV0, h5ZV0, h6ZV0, h7ZV0, h8ZV0, h9ZV0, h10ZV0, tks0, tkl0, tkw0, r0ZV0, r1ZV0, r2ZV0, r3ZV0, r4ZV0, r5ZV0, r6ZV0, r7ZV0, r8ZV0, r9ZV0, r10ZV0, r11ZV0, r12ZV0, r13ZV0, r14ZV0, r15ZV0, r16ZV0, r17ZV0, k0ZV0, k1ZV0, k2ZV0, k3ZV0, k4ZV0⟩ := hb_ZV
  refine wb h1ZV0 ?_
  refine wi (fun hq1 => ?_) (fun hq1 => ?_)
  · have := li_0
    have hq1 := i_eq hq1
    obtain ⟨w35, ew35⟩ := go_64 W t_x0
    refine wb ew35 ?_
    obtain ⟨q34, eq34, Wq34, fq34, pbZScq34, pbZkdq34⟩ := p_Mo_kind hn W  t_x0 (by omega) (by omega) (by omega) (by omega) h1ZV0 h2ZV0
    refine wb eq34 ?_
    have e4 := (Zfr.gi fq34 t_x0 (by decide)).trans h0ZV0
    have e5 := (Zfr.gi fq34 t_x0 (by decide)).trans h2ZV0
    have e6 := (Zfr.gi fq34 t_x0 (by decide)).trans h3ZV0
    have e7 := (Zfr.gr fq34 t_x0 (by decide)).trans h4ZV0
    have e8 := (Zfr.gr fq34 t_x0 (by decide)).trans h5ZV0
    have e9 := (Zfr.gr fq34 t_x0 (by decide)).trans h6ZV0
    have e10 := (Zfr.ai fq34 tks0 (by decide)).trans h7ZV0
    have e11 := (Zfr.ai fq34 tkl0 (by decide)).trans h8ZV0
    have e12 := (Zfr.ai fq34 tkw0 (by decide)).trans h9ZV0
    have e13 := (Zfr.gi fq34 t_x0 (by decide)).trans h10ZV0
    have k14 := GtP_fr k0ZV0 fq34 t_x0 W (by decide)
    have sc16 : Sc c q34.2 x0 (0) (0) := by
      obtain ⟨yf2, z0y, x0y, x1y, x2y, x3y⟩ := pbZScq34
      exact Sc_mk h1ZV0 z0y h2ZV0 ((Zfr.gi (ci := 12) fq34 t_x0 (by decide)).trans h2ZV0) h3ZV0 ((Zfr.gi (ci := 12) fq34 t_x0 (by decide)).trans h3ZV0) (by omega)
    have k15 := WyN_fr k1ZV0 fq34 t_x0 W (by decide) sc16
    have k17 := TbI_fr k2ZV0 fq34 t_x0 W (by decide) sc16
    have k18 := TbC_fr k3ZV0 fq34 t_x0 W (by decide) sc16
    have k19 := TkN_fr k4ZV0 fq34 t_x0 W (by decide)
    have F20 := Zfr.tr F0 fq34 (by decide)
    obtain ⟨bf2q34, h0ZScq34, r0ZScq34, r1ZScq34, r2ZScq34, r3ZScq34⟩ := pbZScq34
    obtain ⟨bkkq34, h0Zkdq34, h1Zkdq34, tkkq34⟩ := pbZkdq34
    refine wi (fun hq21 => ?_) (fun hq21 => ?_)
    · have := li_58
      have := i_ge q34.1
      have := i_up q34.1
      have hq21 := i_eq hq21
      obtain ⟨qt22, eqt22, Wqt22, fqt22, pbZVnqt22⟩ := p_Mo_nodeOf_152 hn Wq34 (x1 := x1) (x2 := x2) t_x0 (by omega) (by omega) (by omega) (by omega) (by omega) (by omega) (by omega) (by omega) (by omega) (by omega) e4 h0ZScq34 e5 e6 ⟨bks0, bkl0, bkw0, bna0, blb0, bnw0, bvn0, e4, h0ZScq34, e5, e6, e7, e8, e9, e10, e11, e12, e13, tks0, tkl0, tkw0, by (try dsimp only); omega, by (try dsimp only); omega, by (try dsimp only); omega, by (try dsimp only); omega, by (try dsimp only); omega, by (try dsimp only); omega, by (try dsimp only); omega, by (try dsimp only); omega, by (try dsimp only); omega, by (try dsimp only); omega, by (try dsimp only); omega, by (try dsimp only); omega, by (try dsimp only); omega, by (try dsimp only); omega, by (try dsimp only); omega, by (try dsimp only); omega, by (try dsimp only); omega, by (try dsimp only); omega, k14, k15, k17, k18, k19⟩
      have e38 := (Zfr.gi fqt22 t_x0 (by decide)).trans e4
      have e39 := (Zfr.gi fqt22 t_x0 (by decide)).trans e6
      have e40 := (Zfr.gr fqt22 t_x0 (by decide)).trans e7
      have e41 := (Zfr.gr fqt22 t_x0 (by decide)).trans e8
      have e42 := (Zfr.gr fqt22 t_x0 (by decide)).trans e9
      have e43 := (Zfr.ai fqt22 tkl0 (by decide)).trans e11
      have e44 := (Zfr.ai fqt22 tkw0 (by decide)).trans e12
      have e45 := (Zfr.gr fqt22 t_x0 (by decide)).trans h0Zkdq34
      have e46 := (Zfr.ai fqt22 tkkq34 (by decide)).trans h1Zkdq34
      have F47 := Zfr.tr F20 fqt22 (by decide)
      have := li_1
      obtain ⟨bf2qt22, bt2qt22, bd2qt22, bksqt22, bklqt22, bkwqt22, bnaqt22, blbqt22, bnwqt22, bvnqt22, h0ZVnqt22, h1ZVnqt22, h2ZVnqt22, h3ZVnqt22, h4ZVnqt22, h5ZVnqt22, h6ZVnqt22, h7ZVnqt22, h8ZVnqt22, h9ZVnqt22, h10ZVnqt22, tksqt22, tklqt22, tkwqt22, r0ZVnqt22, r1ZVnqt22, r2ZVnqt22, r3ZVnqt22, r4ZVnqt22, r5ZVnqt22, r6ZVnqt22, r7ZVnqt22, r8ZVnqt22, r9ZVnqt22, r10ZVnqt22, r11ZVnqt22, r12ZVnqt22, r13ZVnqt22, r14ZVnqt22, r15ZVnqt22, r16ZVnqt22, r17ZVnqt22, r18ZVnqt22, r19ZVnqt22, r20ZVnqt22, k0ZVnqt22, k1ZVnqt22, k2ZVnqt22, k3ZVnqt22, k4ZVnqt22⟩ := pbZVnqt22
      exact ⟨_, eqt22, Wqt22, F47, ⟨bf2qt22, bt2qt22, bd2qt22, bksqt22, bklqt22, bkwqt22, bnaqt22, blbqt22, bnwqt22, bvnqt22, h0ZVnqt22, h1ZVnqt22, h2ZVnqt22, h3ZVnqt22, h4ZVnqt22, h5ZVnqt22, h6ZVnqt22, h7ZVnqt22, h8ZVnqt22, h9ZVnqt22, h10ZVnqt22, tksqt22, tklqt22, tkwqt22, by (try dsimp only); omega, by (try dsimp only); omega, by (try dsimp only); omega, by (try dsimp only); omega, by (try dsimp only); omega, by (try dsimp only); omega, by (try dsimp only); omega, by (try dsimp only); omega, by (try dsimp only); omega, by (try dsimp only); omega, by (try dsimp only); omega, by (try dsimp only); omega, by (try dsimp only); omega, by (try dsimp only); omega, by (try dsimp only); omega, by (try dsimp only); omega, by (try dsimp only); omega, by (try dsimp only); omega, by (try dsimp only); omega, by (try dsimp only); omega, by (try dsimp only); omega, k0ZVnqt22, k1ZVnqt22, k2ZVnqt22, k3ZVnqt22, k4ZVnqt22⟩⟩
    · have := li_58
      have := i_ge q34.1
      have := i_up q34.1
      have hq21 := i_ne hq21
      refine wb h0Zkdq34 ?_
      refine wb e5 ?_
      refine wb h1Zkdq34 ?_
      refine wi (fun hq59 => ?_) (fun hq59 => ?_)
      · have := li_41
        have hq59 := i_eq hq59
        obtain ⟨qt60, eqt60, Wqt60, fqt60, pbZVnqt60⟩ := p_Mo_nodeOf_152 hn Wq34 (x1 := x1) (x2 := x2) t_x0 (by omega) (by omega) (by omega) (by omega) (by omega) (by omega) (by omega) (by omega) (by omega) (by omega) e4 h0ZScq34 e5 e6 ⟨bks0, bkl0, bkw0, bna0, blb0, bnw0, bvn0, e4, h0ZScq34, e5, e6, e7, e8, e9, e10, e11, e12, e13, tks0, tkl0, tkw0, by (try dsimp only); omega, by (try dsimp only); omega, by (try dsimp only); omega, by (try dsimp only); omega, by (try dsimp only); omega, by (try dsimp only); omega, by (try dsimp only); omega, by (try dsimp only); omega, by (try dsimp only); omega, by (try dsimp only); omega, by (try dsimp only); omega, by (try dsimp only); omega, by (try dsimp only); omega, by (try dsimp only); omega, by (try dsimp only); omega, by (try dsimp only); omega, by (try dsimp only); omega, by (try dsimp only); omega, k14, k15, k17, k18, k19⟩
        have e76 := (Zfr.gi fqt60 t_x0 (by decide)).trans e4
        have e77 := (Zfr.gi fqt60 t_x0 (by decide)).trans e6
        have e78 := (Zfr.gr fqt60 t_x0 (by decide)).trans e7
        have e79 := (Zfr.gr fqt60 t_x0 (by decide)).trans e8
        have e80 := (Zfr.gr fqt60 t_x0 (by decide)).trans e9
        have e81 := (Zfr.ai fqt60 tkl0 (by decide)).trans e11
        have e82 := (Zfr.ai fqt60 tkw0 (by decide)).trans e12
        have e83 := (Zfr.gr fqt60 t_x0 (by decide)).trans h0Zkdq34
        have e84 := (Zfr.ai fqt60 tkkq34 (by decide)).trans h1Zkdq34
        have F85 := Zfr.tr F20 fqt60 (by decide)
        have := li_1
        obtain ⟨bf2qt60, bt2qt60, bd2qt60, bksqt60, bklqt60, bkwqt60, bnaqt60, blbqt60, bnwqt60, bvnqt60, h0ZVnqt60, h1ZVnqt60, h2ZVnqt60, h3ZVnqt60, h4ZVnqt60, h5ZVnqt60, h6ZVnqt60, h7ZVnqt60, h8ZVnqt60, h9ZVnqt60, h10ZVnqt60, tksqt60, tklqt60, tkwqt60, r0ZVnqt60, r1ZVnqt60, r2ZVnqt60, r3ZVnqt60, r4ZVnqt60, r5ZVnqt60, r6ZVnqt60, r7ZVnqt60, r8ZVnqt60, r9ZVnqt60, r10ZVnqt60, r11ZVnqt60, r12ZVnqt60, r13ZVnqt60, r14ZVnqt60, r15ZVnqt60, r16ZVnqt60, r17ZVnqt60, r18ZVnqt60, r19ZVnqt60, r20ZVnqt60, k0ZVnqt60, k1ZVnqt60, k2ZVnqt60, k3ZVnqt60, k4ZVnqt60⟩ := pbZVnqt60
        exact ⟨_, eqt60, Wqt60, F85, ⟨bf2qt60, bt2qt60, bd2qt60, bksqt60, bklqt60, bkwqt60, bnaqt60, blbqt60, bnwqt60, bvnqt60, h0ZVnqt60, h1ZVnqt60, h2ZVnqt60, h3ZVnqt60, h4ZVnqt60, h5ZVnqt60, h6ZVnqt60, h7ZVnqt60, h8ZVnqt60, h9ZVnqt60, h10ZVnqt60, tksqt60, tklqt60, tkwqt60, by (try dsimp only); omega, by (try dsimp only); omega, by (try dsimp only); omega, by (try dsimp only); omega, by (try dsimp only); omega, by (try dsimp only); omega, by (try dsimp only); omega, by (try dsimp only); omega, by (try dsimp only); omega, by (try dsimp only); omega, by (try dsimp only); omega, by (try dsimp only); omega, by (try dsimp only); omega, by (try dsimp only); omega, by (try dsimp only); omega, by (try dsimp only); omega, by (try dsimp only); omega, by (try dsimp only); omega, by (try dsimp only); omega, by (try dsimp only); omega, by (try dsimp only); omega, k0ZVnqt60, k1ZVnqt60, k2ZVnqt60, k3ZVnqt60, k4ZVnqt60⟩⟩
      · have := li_41
        have hq59 := i_ne hq59
        obtain ⟨w49, ew49⟩ := go_64 Wq34 t_x0
        refine wb ew49 ?_
        obtain ⟨q48, eq48, Wq48, fq48, pbZSfq48⟩ := p_Mo_wrong hn Wq34  t_x0 (by omega) (by omega) (by omega) (by omega) h0ZScq34 e5
        refine wb eq48 ?_
        have e99 := (Zfr.gi fq48 t_x0 (by decide)).trans e4
        have e100 := (Zfr.gi fq48 t_x0 (by decide)).trans e5
        have e101 := (Zfr.gi fq48 t_x0 (by decide)).trans e6
        have e102 := (Zfr.gr fq48 t_x0 (by decide)).trans e7
        have e103 := (Zfr.gr fq48 t_x0 (by decide)).trans e8
        have e104 := (Zfr.gr fq48 t_x0 (by decide)).trans e9
        have e105 := (Zfr.ai fq48 tks0 (by decide)).trans e10
        have e106 := (Zfr.ai fq48 tkl0 (by decide)).trans e11
        have e107 := (Zfr.ai fq48 tkw0 (by decide)).trans e12
        have e108 := (Zfr.gi fq48 t_x0 (by decide)).trans e13
        have e109 := (Zfr.gr fq48 t_x0 (by decide)).trans h0Zkdq34
        have e110 := (Zfr.ai fq48 tkkq34 (by decide)).trans h1Zkdq34
        have k111 := GtP_fr k14 fq48 t_x0 Wq34 (by decide)
        have sc113 : Sc q34.2 q48 x0 (0) (0) := by
          obtain ⟨yf2, z0y, x0y, x1y⟩ := pbZSfq48
          exact Sc_mk h0ZScq34 z0y e5 ((Zfr.gi (ci := 12) fq48 t_x0 (by decide)).trans e5) e6 ((Zfr.gi (ci := 12) fq48 t_x0 (by decide)).trans e6) (by omega)
        have k112 := WyN_fr k15 fq48 t_x0 Wq34 (by decide) sc113
        have k114 := TbI_fr k17 fq48 t_x0 Wq34 (by decide) sc113
        have k115 := TbC_fr k18 fq48 t_x0 Wq34 (by decide) sc113
        have k116 := TkN_fr k19 fq48 t_x0 Wq34 (by decide)
        have F117 := Zfr.tr F20 fq48 (by decide)
        obtain ⟨bf2q48, h0ZSfq48, r0ZSfq48, r1ZSfq48⟩ := pbZSfq48
        obtain ⟨qt118, eqt118, Wqt118, fqt118, pbZVnqt118⟩ := p_Mo_nodeOf_152 hn Wq48 (x1 := x1) (x2 := x2) t_x0 (by omega) (by omega) (by omega) (by omega) (by omega) (by omega) (by omega) (by omega) (by omega) (by omega) e99 h0ZSfq48 e100 e101 ⟨bks0, bkl0, bkw0, bna0, blb0, bnw0, bvn0, e99, h0ZSfq48, e100, e101, e102, e103, e104, e105, e106, e107, e108, tks0, tkl0, tkw0, by (try dsimp only); omega, by (try dsimp only); omega, by (try dsimp only); omega, by (try dsimp only); omega, by (try dsimp only); omega, by (try dsimp only); omega, by (try dsimp only); omega, by (try dsimp only); omega, by (try dsimp only); omega, by (try dsimp only); omega, by (try dsimp only); omega, by (try dsimp only); omega, by (try dsimp only); omega, by (try dsimp only); omega, by (try dsimp only); omega, by (try dsimp only); omega, by (try dsimp only); omega, by (try dsimp only); omega, k111, k112, k114, k115, k116⟩
        have e134 := (Zfr.gi fqt118 t_x0 (by decide)).trans e99
        have e135 := (Zfr.gi fqt118 t_x0 (by decide)).trans e101
        have e136 := (Zfr.gr fqt118 t_x0 (by decide)).trans e102
        have e137 := (Zfr.gr fqt118 t_x0 (by decide)).trans e103
        have e138 := (Zfr.gr fqt118 t_x0 (by decide)).trans e104
        have e139 := (Zfr.ai fqt118 tkl0 (by decide)).trans e106
        have e140 := (Zfr.ai fqt118 tkw0 (by decide)).trans e107
        have e141 := (Zfr.gr fqt118 t_x0 (by decide)).trans e109
        have e142 := (Zfr.ai fqt118 tkkq34 (by decide)).trans e110
        have F143 := Zfr.tr F117 fqt118 (by decide)
        have := li_1
        obtain ⟨bf2qt118, bt2qt118, bd2qt118, bksqt118, bklqt118, bkwqt118, bnaqt118, blbqt118, bnwqt118, bvnqt118, h0ZVnqt118, h1ZVnqt118, h2ZVnqt118, h3ZVnqt118, h4ZVnqt118, h5ZVnqt118, h6ZVnqt118, h7ZVnqt118, h8ZVnqt118, h9ZVnqt118, h10ZVnqt118, tksqt118, tklqt118, tkwqt118, r0ZVnqt118, r1ZVnqt118, r2ZVnqt118, r3ZVnqt118, r4ZVnqt118, r5ZVnqt118, r6ZVnqt118, r7ZVnqt118, r8ZVnqt118, r9ZVnqt118, r10ZVnqt118, r11ZVnqt118, r12ZVnqt118, r13ZVnqt118, r14ZVnqt118, r15ZVnqt118, r16ZVnqt118, r17ZVnqt118, r18ZVnqt118, r19ZVnqt118, r20ZVnqt118, k0ZVnqt118, k1ZVnqt118, k2ZVnqt118, k3ZVnqt118, k4ZVnqt118⟩ := pbZVnqt118
        exact ⟨_, eqt118, Wqt118, F143, ⟨bf2qt118, bt2qt118, bd2qt118, bksqt118, bklqt118, bkwqt118, bnaqt118, blbqt118, bnwqt118, bvnqt118, h0ZVnqt118, h1ZVnqt118, h2ZVnqt118, h3ZVnqt118, h4ZVnqt118, h5ZVnqt118, h6ZVnqt118, h7ZVnqt118, h8ZVnqt118, h9ZVnqt118, h10ZVnqt118, tksqt118, tklqt118, tkwqt118, by (try dsimp only); omega, by (try dsimp only); omega, by (try dsimp only); omega, by (try dsimp only); omega, by (try dsimp only); omega, by (try dsimp only); omega, by (try dsimp only); omega, by (try dsimp only); omega, by (try dsimp only); omega, by (try dsimp only); omega, by (try dsimp only); omega, by (try dsimp only); omega, by (try dsimp only); omega, by (try dsimp only); omega, by (try dsimp only); omega, by (try dsimp only); omega, by (try dsimp only); omega, by (try dsimp only); omega, by (try dsimp only); omega, by (try dsimp only); omega, by (try dsimp only); omega, k0ZVnqt118, k1ZVnqt118, k2ZVnqt118, k3ZVnqt118, k4ZVnqt118⟩⟩
  · have := li_0
    have hq1 := i_ne hq1
    obtain ⟨qt155, eqt155, Wqt155, fqt155, pbZVnqt155⟩ := p_Mo_nodeOf_172 hn W (x2 := x2) t_x0 (by omega) (by omega) (by omega) (by omega) (by omega) (by omega) (by omega) (by omega) h0ZV0 h1ZV0 h2ZV0 h3ZV0 (by omega) ⟨bks0, bkl0, bkw0, bna0, blb0, bnw0, bvn0, h0ZV0, h1ZV0, h2ZV0, h3ZV0, h4ZV0, h5ZV0, h6ZV0, h7ZV0, h8ZV0, h9ZV0, h10ZV0, tks0, tkl0, tkw0, by (try dsimp only); omega, by (try dsimp only); omega, by (try dsimp only); omega, by (try dsimp only); omega, by (try dsimp only); omega, by (try dsimp only); omega, by (try dsimp only); omega, by (try dsimp only); omega, by (try dsimp only); omega, by (try dsimp only); omega, by (try dsimp only); omega, by (try dsimp only); omega, by (try dsimp only); omega, by (try dsimp only); omega, by (try dsimp only); omega, by (try dsimp only); omega, by (try dsimp only); omega, by (try dsimp only); omega, k0ZV0, k1ZV0, k2ZV0, k3ZV0, k4ZV0⟩
    have e171 := (Zfr.gi fqt155 t_x0 (by decide)).trans h0ZV0
    have e172 := (Zfr.gi fqt155 t_x0 (by decide)).trans h3ZV0
    have e173 := (Zfr.gr fqt155 t_x0 (by decide)).trans h4ZV0
    have e174 := (Zfr.gr fqt155 t_x0 (by decide)).trans h5ZV0
    have e175 := (Zfr.gr fqt155 t_x0 (by decide)).trans h6ZV0
    have e176 := (Zfr.ai fqt155 tks0 (by decide)).trans h7ZV0
    have e177 := (Zfr.ai fqt155 tkl0 (by decide)).trans h8ZV0
    have e178 := (Zfr.ai fqt155 tkw0 (by decide)).trans h9ZV0
    have e179 := (Zfr.gi fqt155 t_x0 (by decide)).trans h10ZV0
    have F180 := Zfr.tr F0 fqt155 (by decide)
    have := li_1
    obtain ⟨bf2qt155, bt2qt155, bd2qt155, bksqt155, bklqt155, bkwqt155, bnaqt155, blbqt155, bnwqt155, bvnqt155, h0ZVnqt155, h1ZVnqt155, h2ZVnqt155, h3ZVnqt155, h4ZVnqt155, h5ZVnqt155, h6ZVnqt155, h7ZVnqt155, h8ZVnqt155, h9ZVnqt155, h10ZVnqt155, tksqt155, tklqt155, tkwqt155, r0ZVnqt155, r1ZVnqt155, r2ZVnqt155, r3ZVnqt155, r4ZVnqt155, r5ZVnqt155, r6ZVnqt155, r7ZVnqt155, r8ZVnqt155, r9ZVnqt155, r10ZVnqt155, r11ZVnqt155, r12ZVnqt155, r13ZVnqt155, r14ZVnqt155, r15ZVnqt155, r16ZVnqt155, r17ZVnqt155, r18ZVnqt155, r19ZVnqt155, r20ZVnqt155, k0ZVnqt155, k1ZVnqt155, k2ZVnqt155, k3ZVnqt155, k4ZVnqt155⟩ := pbZVnqt155
    exact ⟨_, eqt155, Wqt155, F180, ⟨bf2qt155, bt2qt155, bd2qt155, bksqt155, bklqt155, bkwqt155, bnaqt155, blbqt155, bnwqt155, bvnqt155, h0ZVnqt155, h1ZVnqt155, h2ZVnqt155, h3ZVnqt155, h4ZVnqt155, h5ZVnqt155, h6ZVnqt155, h7ZVnqt155, h8ZVnqt155, h9ZVnqt155, h10ZVnqt155, tksqt155, tklqt155, tkwqt155, by (try dsimp only); omega, by (try dsimp only); omega, by (try dsimp only); omega, by (try dsimp only); omega, by (try dsimp only); omega, by (try dsimp only); omega, by (try dsimp only); omega, by (try dsimp only); omega, by (try dsimp only); omega, by (try dsimp only); omega, by (try dsimp only); omega, by (try dsimp only); omega, by (try dsimp only); omega, by (try dsimp only); omega, by (try dsimp only); omega, by (try dsimp only); omega, by (try dsimp only); omega, by (try dsimp only); omega, by (try dsimp only); omega, by (try dsimp only); omega, by (try dsimp only); omega, k0ZVnqt155, k1ZVnqt155, k2ZVnqt155, k3ZVnqt155, k4ZVnqt155⟩⟩

abbrev M_Mo_nodeOf : List (Nat × Nat) := [(64, 18), (64, 19), (64, 20), (64, 57), (79, 0), (82, 0), (83, 0), (105, 0), (106, 0)]
set_option maxRecDepth 100000 in
set_option maxHeartbeats 400000 in
theorem p_Mo_nodeOf {nf : Nat} (hn : 8589934592 ≤ nf) {G : List Nat} {c : Zc} (W : Zwt zty G c) {a0 : Nat} {ni : Int32} {bc : Int32} {pv : Int32} {fv : Int32} {tv : Int32} {dv : Int32} (t_a0 : G[a0]? = some 64) (pl_pv : 0 ≤ pv.toInt) (pu_pv : pv.toInt ≤ 8) (pl_fv : 0 ≤ fv.toInt) (pu_fv : fv.toInt ≤ 6) (pl_tv : 0 ≤ tv.toInt) (pu_tv : tv.toInt ≤ 200) (pl_dv : 0 ≤ dv.toInt) (pu_dv : dv.toInt ≤ 11) (eh_pv : zgi c a0 12 25 = some pv) (eh_fv : zgi c a0 12 19 = some fv) (eh_tv : zgi c a0 12 18 = some tv) (eh_dv : zgi c a0 12 53 = some dv) (hb_ZV : ZV G c a0 pv fv tv dv ni bc) : ∃ q, f_Mo_nodeOf nf a0 c = some q ∧ Zwt zty G q.2 ∧ Zfr G M_Mo_nodeOf c q.2 ∧ ZVn G q.2 a0 pv fv tv dv ni bc 2 q.1 := by
  have F0 : Zfr G M_Mo_nodeOf c c := Zfr.rf
  unfold f_Mo_nodeOf
  obtain ⟨bks0, bkl0, bkw0, bna0, blb0, bnw0, bvn0, h0ZV0, h1ZV0, h2ZV0, h3ZV0, h4ZV0, h5ZV0, h6ZV0, h7ZV0, h8ZV0, h9ZV0, h10ZV0, tks0, tkl0, tkw0, r0ZV0, r1ZV0, r2ZV0, r3ZV0, r4ZV0, r5ZV0, r6ZV0, r7ZV0, r8ZV0, r9ZV0, r10ZV0, r11ZV0, r12ZV0, r13ZV0, r14ZV0, r15ZV0, r16ZV0, r17ZV0, k0ZV0, k1ZV0, k2ZV0, k3ZV0, k4ZV0⟩ := hb_ZV
  obtain ⟨v1, ev1, tv1⟩ := gf_64_16 W t_a0
  refine wb ev1 ?_
  refine wb h2ZV0 ?_
  obtain ⟨v3, ev3, _⟩ := ga_76 W tv1 (i := tv) (by omega) (by omega)
  refine wb ev3 ?_
  obtain ⟨w5, ew5⟩ := go_64 W t_a0
  refine wb ew5 ?_
  have := li_40
  obtain ⟨q4, eq4, Wq4, fq4, pbZSq4⟩ := p_Mo_need hn W (a1 := 40) t_a0 (by omega) (by omega) (by omega) (by omega) h1ZV0 h2ZV0
  refine wb eq4 ?_
  have e3 := (Zfr.gi fq4 t_a0 (by decide)).trans h0ZV0
  have e4 := (Zfr.gi fq4 t_a0 (by decide)).trans h3ZV0
  have e5 := (Zfr.gr fq4 t_a0 (by decide)).trans h4ZV0
  have e6 := (Zfr.gr fq4 t_a0 (by decide)).trans h5ZV0
  have e7 := (Zfr.gr fq4 t_a0 (by decide)).trans h6ZV0
  have e8 := (Zfr.ai fq4 tks0 (by decide)).trans h7ZV0
  have e9 := (Zfr.ai fq4 tkl0 (by decide)).trans h8ZV0
  have e10 := (Zfr.ai fq4 tkw0 (by decide)).trans h9ZV0
  have e11 := (Zfr.gi fq4 t_a0 (by decide)).trans h10ZV0
  have e12 := (Zfr.gr fq4 t_a0 (by decide)).trans ev1
  have e13 := (Zfr.ai fq4 tv1 (by decide)).trans ev3
  have k14 := GtP_fr k0ZV0 fq4 t_a0 W (by decide)
  have := li_1
  have sc16 : Sc c q4 a0 (1) (0) := by
    obtain ⟨yf2, yt2, z0y, z1y, x0y, x1y, x2y, x3y, x4y, x5y⟩ := pbZSq4
    exact Sc_mk h1ZV0 z0y h2ZV0 z1y h3ZV0 ((Zfr.gi (ci := 12) fq4 t_a0 (by decide)).trans h3ZV0) (by omega)
  have k15 := WyN_fr k1ZV0 fq4 t_a0 W (by decide) sc16
  have k17 := TbI_fr k2ZV0 fq4 t_a0 W (by decide) sc16
  have k18 := TbC_fr k3ZV0 fq4 t_a0 W (by decide) sc16
  have k19 := TkN_fr k4ZV0 fq4 t_a0 W (by decide)
  have F20 := Zfr.tr F0 fq4 (by decide)
  obtain ⟨bf2q4, bt2q4, h0ZSq4, h1ZSq4, r0ZSq4, r1ZSq4, r2ZSq4, r3ZSq4, r4ZSq4, r5ZSq4⟩ := pbZSq4
  refine wb h0ZSq4 ?_
  refine wi (fun hq21 => ?_) (fun hq21 => ?_)
  · have := li_0
    have hq21 := i_eq hq21
    obtain ⟨w51, ew51⟩ := go_64 Wq4 t_a0
    refine wb ew51 ?_
    obtain ⟨q50, eq50, Wq50, fq50, pbZScq50, pbZkdq50⟩ := p_Mo_kind hn Wq4  t_a0 (by omega) (by omega) (by omega) (by omega) h0ZSq4 h1ZSq4
    refine wb eq50 ?_
    have e24 := (Zfr.gi fq50 t_a0 (by decide)).trans e3
    have e25 := (Zfr.gi fq50 t_a0 (by decide)).trans e4
    have e26 := (Zfr.gr fq50 t_a0 (by decide)).trans e5
    have e27 := (Zfr.gr fq50 t_a0 (by decide)).trans e6
    have e28 := (Zfr.gr fq50 t_a0 (by decide)).trans e7
    have e29 := (Zfr.ai fq50 tks0 (by decide)).trans e8
    have e30 := (Zfr.ai fq50 tkl0 (by decide)).trans e9
    have e31 := (Zfr.ai fq50 tkw0 (by decide)).trans e10
    have e32 := (Zfr.gi fq50 t_a0 (by decide)).trans e11
    have e33 := (Zfr.gr fq50 t_a0 (by decide)).trans e12
    have e34 := (Zfr.ai fq50 tv1 (by decide)).trans e13
    have e35 := (Zfr.gi fq50 t_a0 (by decide)).trans h1ZSq4
    have k36 := GtP_fr k14 fq50 t_a0 Wq4 (by decide)
    have sc38 : Sc q4 q50.2 a0 (0) (0) := by
      obtain ⟨yf2, z0y, x0y, x1y, x2y, x3y⟩ := pbZScq50
      exact Sc_mk h0ZSq4 z0y h1ZSq4 ((Zfr.gi (ci := 12) fq50 t_a0 (by decide)).trans h1ZSq4) e4 ((Zfr.gi (ci := 12) fq50 t_a0 (by decide)).trans e4) (by omega)
    have k37 := WyN_fr k15 fq50 t_a0 Wq4 (by decide) sc38
    have k39 := TbI_fr k17 fq50 t_a0 Wq4 (by decide) sc38
    have k40 := TbC_fr k18 fq50 t_a0 Wq4 (by decide) sc38
    have k41 := TkN_fr k19 fq50 t_a0 Wq4 (by decide)
    have F42 := Zfr.tr F20 fq50 (by decide)
    obtain ⟨bf2q50, h0ZScq50, r0ZScq50, r1ZScq50, r2ZScq50, r3ZScq50⟩ := pbZScq50
    obtain ⟨bkkq50, h0Zkdq50, h1Zkdq50, tkkq50⟩ := pbZkdq50
    refine wi (fun hq43 => ?_) (fun hq43 => ?_)
    · have := li_2
      have := i_ge q50.1
      have := i_up q50.1
      have hq43 := i_eq hq43
      obtain ⟨v53, ev53, tv53⟩ := gf_64_15 Wq50 t_a0
      refine wb ev53 ?_
      refine wb e35 ?_
      obtain ⟨v55, ev55, _⟩ := ga_75 Wq50 tv53 (i := bt2q4) (by omega) (by omega)
      have ht44 := TkM_at (k41 _ _ h0Zkdq50 ev53) h1Zkdq50 ev55
      have := tkr2 ht44 (by omega)
      refine wb ev55 ?_
      obtain ⟨w57, ew57⟩ := go_64 Wq50 t_a0
      refine wb ew57 ?_
      obtain ⟨q56, eq56, Wq56, fq56, pbZStq56⟩ := p_Mo_stands hn Wq50  t_a0 (by omega) (by omega) (by omega) (by omega) h0ZScq50 e35
      refine wb eq56 ?_
      have e47 := (Zfr.gi fq56 t_a0 (by decide)).trans e24
      have e48 := (Zfr.gi fq56 t_a0 (by decide)).trans e25
      have e49 := (Zfr.gr fq56 t_a0 (by decide)).trans e26
      have e50 := (Zfr.gr fq56 t_a0 (by decide)).trans e27
      have e51 := (Zfr.gr fq56 t_a0 (by decide)).trans e28
      have e52 := (Zfr.ai fq56 tks0 (by decide)).trans e29
      have e53 := (Zfr.ai fq56 tkl0 (by decide)).trans e30
      have e54 := (Zfr.ai fq56 tkw0 (by decide)).trans e31
      have e55 := (Zfr.gi fq56 t_a0 (by decide)).trans e32
      have e56 := (Zfr.gr fq56 t_a0 (by decide)).trans e33
      have e57 := (Zfr.ai fq56 tv1 (by decide)).trans e34
      have e58 := (Zfr.gi fq56 t_a0 (by decide)).trans e35
      have e59 := (Zfr.gr fq56 t_a0 (by decide)).trans h0Zkdq50
      have e60 := (Zfr.ai fq56 tkkq50 (by decide)).trans h1Zkdq50
      have e61 := (Zfr.gr fq56 t_a0 (by decide)).trans ev53
      have e62 := (Zfr.ai fq56 tv53 (by decide)).trans ev55
      have k63 := GtP_fr k36 fq56 t_a0 Wq50 (by decide)
      have sc65 : Sc q50.2 q56 a0 (0) (0) := by
        obtain ⟨yf2, z0y, x0y, x1y, x2y⟩ := pbZStq56
        exact Sc_mk h0ZScq50 z0y e35 ((Zfr.gi (ci := 12) fq56 t_a0 (by decide)).trans e35) e25 ((Zfr.gi (ci := 12) fq56 t_a0 (by decide)).trans e25) (by omega)
      have k64 := WyN_fr k37 fq56 t_a0 Wq50 (by decide) sc65
      have k66 := TbI_fr k39 fq56 t_a0 Wq50 (by decide) sc65
      have k67 := TbC_fr k40 fq56 t_a0 Wq50 (by decide) sc65
      have k68 := TkN_fr k41 fq56 t_a0 Wq50 (by decide)
      have F69 := Zfr.tr F42 fq56 (by decide)
      obtain ⟨bf2q56, h0ZStq56, r0ZStq56, r1ZStq56, r2ZStq56⟩ := pbZStq56
      obtain ⟨w59, ew59⟩ := go_64 Wq56 t_a0
      refine wb ew59 ?_
      obtain ⟨q58, eq58, Wq58, fq58, po0q58, pl1q58, pu1q58⟩ := p_Mo_meaning hn Wq56 (a1 := v55) t_a0 (by omega) (by omega)
      refine wb eq58 ?_
      have e70 := (Zfr.gi fq58 t_a0 (by decide)).trans e47
      have e71 := (Zfr.gi fq58 t_a0 (by decide)).trans e48
      have e72 := (Zfr.gr fq58 t_a0 (by decide)).trans e49
      have e73 := (Zfr.gr fq58 t_a0 (by decide)).trans e50
      have e74 := (Zfr.gr fq58 t_a0 (by decide)).trans e51
      have e75 := (Zfr.ai fq58 tks0 (by decide)).trans e52
      have e76 := (Zfr.ai fq58 tkl0 (by decide)).trans e53
      have e77 := (Zfr.ai fq58 tkw0 (by decide)).trans e54
      have e78 := (Zfr.gi fq58 t_a0 (by decide)).trans e55
      have e79 := (Zfr.gr fq58 t_a0 (by decide)).trans e56
      have e80 := (Zfr.ai fq58 tv1 (by decide)).trans e57
      have e81 := (Zfr.gi fq58 t_a0 (by decide)).trans e58
      have e82 := (Zfr.gr fq58 t_a0 (by decide)).trans e59
      have e83 := (Zfr.ai fq58 tkkq50 (by decide)).trans e60
      have e84 := (Zfr.gr fq58 t_a0 (by decide)).trans e61
      have e85 := (Zfr.ai fq58 tv53 (by decide)).trans e62
      have e86 := (Zfr.gi fq58 t_a0 (by decide)).trans h0ZStq56
      have k87 := GtP_fr k63 fq58 t_a0 Wq56 (by decide)
      have sc89 := Sc_fr fq58 t_a0 (by decide) (by decide) (by decide)
      have k88 := WyN_fr k64 fq58 t_a0 Wq56 (by decide) sc89
      have k90 := TbI_fr k66 fq58 t_a0 Wq56 (by decide) sc89
      have k91 := TbC_fr k67 fq58 t_a0 Wq56 (by decide) sc89
      have k92 := TkN_fr k68 fq58 t_a0 Wq56 (by decide)
      have F93 := Zfr.tr F69 fq58 (by decide)
      refine wi (fun hq94 => ?_) (fun hq94 => ?_)
      · have := li_100
        have hq94 := i_lt hq94
        obtain ⟨qt95, eqt95, Wqt95, fqt95, pbZVnqt95⟩ := p_Mo_nodeOf_73 hn Wq58 (x2 := q58.1) (x3 := v55) t_a0 (by omega) (by omega) (by omega) (by omega) (by omega) (by omega) (by omega) (by omega) (by omega) (by omega) (by omega) (by omega) e70 e86 e81 e71 (by omega) ⟨bks0, bkl0, bkw0, bna0, blb0, bnw0, bvn0, e70, e86, e81, e71, e72, e73, e74, e75, e76, e77, e78, tks0, tkl0, tkw0, by (try dsimp only); omega, by (try dsimp only); omega, by (try dsimp only); omega, by (try dsimp only); omega, by (try dsimp only); omega, by (try dsimp only); omega, by (try dsimp only); omega, by (try dsimp only); omega, by (try dsimp only); omega, by (try dsimp only); omega, by (try dsimp only); omega, by (try dsimp only); omega, by (try dsimp only); omega, by (try dsimp only); omega, by (try dsimp only); omega, by (try dsimp only); omega, by (try dsimp only); omega, by (try dsimp only); omega, k87, k88, k90, k91, k92⟩
        have e111 := (Zfr.gi fqt95 t_a0 (by decide)).trans e70
        have e112 := (Zfr.gi fqt95 t_a0 (by decide)).trans e71
        have e113 := (Zfr.gr fqt95 t_a0 (by decide)).trans e72
        have e114 := (Zfr.gr fqt95 t_a0 (by decide)).trans e73
        have e115 := (Zfr.gr fqt95 t_a0 (by decide)).trans e74
        have e116 := (Zfr.ai fqt95 tkl0 (by decide)).trans e76
        have e117 := (Zfr.ai fqt95 tkw0 (by decide)).trans e77
        have e118 := (Zfr.ai fqt95 tv1 (by decide)).trans e80
        have e119 := (Zfr.gr fqt95 t_a0 (by decide)).trans e82
        have e120 := (Zfr.ai fqt95 tkkq50 (by decide)).trans e83
        have e121 := (Zfr.gr fqt95 t_a0 (by decide)).trans e84
        have e122 := (Zfr.ai fqt95 tv53 (by decide)).trans e85
        have F123 := Zfr.tr F93 fqt95 (by decide)
        obtain ⟨bf2qt95, bt2qt95, bd2qt95, bksqt95, bklqt95, bkwqt95, bnaqt95, blbqt95, bnwqt95, bvnqt95, h0ZVnqt95, h1ZVnqt95, h2ZVnqt95, h3ZVnqt95, h4ZVnqt95, h5ZVnqt95, h6ZVnqt95, h7ZVnqt95, h8ZVnqt95, h9ZVnqt95, h10ZVnqt95, tksqt95, tklqt95, tkwqt95, r0ZVnqt95, r1ZVnqt95, r2ZVnqt95, r3ZVnqt95, r4ZVnqt95, r5ZVnqt95, r6ZVnqt95, r7ZVnqt95, r8ZVnqt95, r9ZVnqt95, r10ZVnqt95, r11ZVnqt95, r12ZVnqt95, r13ZVnqt95, r14ZVnqt95, r15ZVnqt95, r16ZVnqt95, r17ZVnqt95, r18ZVnqt95, r19ZVnqt95, r20ZVnqt95, k0ZVnqt95, k1ZVnqt95, k2ZVnqt95, k3ZVnqt95, k4ZVnqt95⟩ := pbZVnqt95
        exact ⟨_, eqt95, Wqt95, F123, ⟨bf2qt95, bt2qt95, bd2qt95, bksqt95, bklqt95, bkwqt95, bnaqt95, blbqt95, bnwqt95, bvnqt95, h0ZVnqt95, h1ZVnqt95, h2ZVnqt95, h3ZVnqt95, h4ZVnqt95, h5ZVnqt95, h6ZVnqt95, h7ZVnqt95, h8ZVnqt95, h9ZVnqt95, h10ZVnqt95, tksqt95, tklqt95, tkwqt95, by (try dsimp only); omega, by (try dsimp only); omega, by (try dsimp only); omega, by (try dsimp only); omega, by (try dsimp only); omega, by (try dsimp only); omega, by (try dsimp only); omega, by (try dsimp only); omega, by (try dsimp only); omega, by (try dsimp only); omega, by (try dsimp only); omega, by (try dsimp only); omega, by (try dsimp only); omega, by (try dsimp only); omega, by (try dsimp only); omega, by (try dsimp only); omega, by (try dsimp only); omega, by (try dsimp only); omega, by (try dsimp only); omega, by (try dsimp only); omega, by (try dsimp only); omega, k0ZVnqt95, k1ZVnqt95, k2ZVnqt95, k3ZVnqt95, k4ZVnqt95⟩⟩
      · have := li_100
        have hq94 := i_nlt hq94
        refine wb e79 ?_
        refine wb e81 ?_
        obtain ⟨v78, ev78, _⟩ := ga_76 Wq58 tv1 (i := bt2q4) (by omega) (by omega)
        refine wb ev78 ?_
        obtain ⟨w80, ew80⟩ := go_64 Wq58 t_a0
        refine wb ew80 ?_
        have := li_4
        obtain ⟨q79, eq79, Wq79, fq79, pbZSfq79⟩ := p_Mo_refuse hn Wq58 (a1 := 4) (a2 := v78) t_a0 (by omega) (by omega) (by omega) (by omega) e86
        refine wb eq79 ?_
        have e136 := (Zfr.gi fq79 t_a0 (by decide)).trans e70
        have e137 := (Zfr.gi fq79 t_a0 (by decide)).trans e71
        have e138 := (Zfr.gr fq79 t_a0 (by decide)).trans e72
        have e139 := (Zfr.gr fq79 t_a0 (by decide)).trans e73
        have e140 := (Zfr.gr fq79 t_a0 (by decide)).trans e74
        have e141 := (Zfr.ai fq79 tks0 (by decide)).trans e75
        have e142 := (Zfr.ai fq79 tkl0 (by decide)).trans e76
        have e143 := (Zfr.ai fq79 tkw0 (by decide)).trans e77
        have e144 := (Zfr.gi fq79 t_a0 (by decide)).trans e78
        have e145 := (Zfr.ai fq79 tv1 (by decide)).trans e80
        have e146 := (Zfr.gi fq79 t_a0 (by decide)).trans e81
        have e147 := (Zfr.gr fq79 t_a0 (by decide)).trans e82
        have e148 := (Zfr.ai fq79 tkkq50 (by decide)).trans e83
        have e149 := (Zfr.gr fq79 t_a0 (by decide)).trans e84
        have e150 := (Zfr.ai fq79 tv53 (by decide)).trans e85
        have e151 := (Zfr.ai fq79 tv1 (by decide)).trans ev78
        have k152 := GtP_fr k87 fq79 t_a0 Wq58 (by decide)
        have sc154 : Sc q58.2 q79 a0 (0) (0) := by
          obtain ⟨yf2, z0y, x0y, x1y⟩ := pbZSfq79
          exact Sc_mk e86 z0y e81 ((Zfr.gi (ci := 12) fq79 t_a0 (by decide)).trans e81) e71 ((Zfr.gi (ci := 12) fq79 t_a0 (by decide)).trans e71) (by omega)
        have k153 := WyN_fr k88 fq79 t_a0 Wq58 (by decide) sc154
        have k155 := TbI_fr k90 fq79 t_a0 Wq58 (by decide) sc154
        have k156 := TbC_fr k91 fq79 t_a0 Wq58 (by decide) sc154
        have k157 := TkN_fr k92 fq79 t_a0 Wq58 (by decide)
        have F158 := Zfr.tr F93 fq79 (by decide)
        obtain ⟨bf2q79, h0ZSfq79, r0ZSfq79, r1ZSfq79⟩ := pbZSfq79
        obtain ⟨qt159, eqt159, Wqt159, fqt159, pbZVnqt159⟩ := p_Mo_nodeOf_73 hn Wq79 (x2 := q58.1) (x3 := v55) t_a0 (by omega) (by omega) (by omega) (by omega) (by omega) (by omega) (by omega) (by omega) (by omega) (by omega) (by omega) (by omega) e136 h0ZSfq79 e146 e137 (by omega) ⟨bks0, bkl0, bkw0, bna0, blb0, bnw0, bvn0, e136, h0ZSfq79, e146, e137, e138, e139, e140, e141, e142, e143, e144, tks0, tkl0, tkw0, by (try dsimp only); omega, by (try dsimp only); omega, by (try dsimp only); omega, by (try dsimp only); omega, by (try dsimp only); omega, by (try dsimp only); omega, by (try dsimp only); omega, by (try dsimp only); omega, by (try dsimp only); omega, by (try dsimp only); omega, by (try dsimp only); omega, by (try dsimp only); omega, by (try dsimp only); omega, by (try dsimp only); omega, by (try dsimp only); omega, by (try dsimp only); omega, by (try dsimp only); omega, by (try dsimp only); omega, k152, k153, k155, k156, k157⟩
        have e175 := (Zfr.gi fqt159 t_a0 (by decide)).trans e136
        have e176 := (Zfr.gi fqt159 t_a0 (by decide)).trans e137
        have e177 := (Zfr.gr fqt159 t_a0 (by decide)).trans e138
        have e178 := (Zfr.gr fqt159 t_a0 (by decide)).trans e139
        have e179 := (Zfr.gr fqt159 t_a0 (by decide)).trans e140
        have e180 := (Zfr.ai fqt159 tkl0 (by decide)).trans e142
        have e181 := (Zfr.ai fqt159 tkw0 (by decide)).trans e143
        have e182 := (Zfr.ai fqt159 tv1 (by decide)).trans e145
        have e183 := (Zfr.gr fqt159 t_a0 (by decide)).trans e147
        have e184 := (Zfr.ai fqt159 tkkq50 (by decide)).trans e148
        have e185 := (Zfr.gr fqt159 t_a0 (by decide)).trans e149
        have e186 := (Zfr.ai fqt159 tv53 (by decide)).trans e150
        have e187 := (Zfr.ai fqt159 tv1 (by decide)).trans e151
        have F188 := Zfr.tr F158 fqt159 (by decide)
        obtain ⟨bf2qt159, bt2qt159, bd2qt159, bksqt159, bklqt159, bkwqt159, bnaqt159, blbqt159, bnwqt159, bvnqt159, h0ZVnqt159, h1ZVnqt159, h2ZVnqt159, h3ZVnqt159, h4ZVnqt159, h5ZVnqt159, h6ZVnqt159, h7ZVnqt159, h8ZVnqt159, h9ZVnqt159, h10ZVnqt159, tksqt159, tklqt159, tkwqt159, r0ZVnqt159, r1ZVnqt159, r2ZVnqt159, r3ZVnqt159, r4ZVnqt159, r5ZVnqt159, r6ZVnqt159, r7ZVnqt159, r8ZVnqt159, r9ZVnqt159, r10ZVnqt159, r11ZVnqt159, r12ZVnqt159, r13ZVnqt159, r14ZVnqt159, r15ZVnqt159, r16ZVnqt159, r17ZVnqt159, r18ZVnqt159, r19ZVnqt159, r20ZVnqt159, k0ZVnqt159, k1ZVnqt159, k2ZVnqt159, k3ZVnqt159, k4ZVnqt159⟩ := pbZVnqt159
        exact ⟨_, eqt159, Wqt159, F188, ⟨bf2qt159, bt2qt159, bd2qt159, bksqt159, bklqt159, bkwqt159, bnaqt159, blbqt159, bnwqt159, bvnqt159, h0ZVnqt159, h1ZVnqt159, h2ZVnqt159, h3ZVnqt159, h4ZVnqt159, h5ZVnqt159, h6ZVnqt159, h7ZVnqt159, h8ZVnqt159, h9ZVnqt159, h10ZVnqt159, tksqt159, tklqt159, tkwqt159, by (try dsimp only); omega, by (try dsimp only); omega, by (try dsimp only); omega, by (try dsimp only); omega, by (try dsimp only); omega, by (try dsimp only); omega, by (try dsimp only); omega, by (try dsimp only); omega, by (try dsimp only); omega, by (try dsimp only); omega, by (try dsimp only); omega, by (try dsimp only); omega, by (try dsimp only); omega, by (try dsimp only); omega, by (try dsimp only); omega, by (try dsimp only); omega, by (try dsimp only); omega, by (try dsimp only); omega, by (try dsimp only); omega, by (try dsimp only); omega, by (try dsimp only); omega, k0ZVnqt159, k1ZVnqt159, k2ZVnqt159, k3ZVnqt159, k4ZVnqt159⟩⟩
    · have := li_2
      have := i_ge q50.1
      have := i_up q50.1
      have hq43 := i_ne hq43
      have := li_m1
      obtain ⟨qt200, eqt200, Wqt200, fqt200, pbZVnqt200⟩ := p_Mo_nodeOf_118 hn Wq50 (x1 := v3) (x2 := (-1)) t_a0 (by omega) (by omega) (by omega) (by omega) (by omega) (by omega) (by omega) (by omega) (by omega) (by omega) e24 h0ZScq50 e35 e25 ⟨bks0, bkl0, bkw0, bna0, blb0, bnw0, bvn0, e24, h0ZScq50, e35, e25, e26, e27, e28, e29, e30, e31, e32, tks0, tkl0, tkw0, by (try dsimp only); omega, by (try dsimp only); omega, by (try dsimp only); omega, by (try dsimp only); omega, by (try dsimp only); omega, by (try dsimp only); omega, by (try dsimp only); omega, by (try dsimp only); omega, by (try dsimp only); omega, by (try dsimp only); omega, by (try dsimp only); omega, by (try dsimp only); omega, by (try dsimp only); omega, by (try dsimp only); omega, by (try dsimp only); omega, by (try dsimp only); omega, by (try dsimp only); omega, by (try dsimp only); omega, k36, k37, k39, k40, k41⟩
      have e216 := (Zfr.gi fqt200 t_a0 (by decide)).trans e24
      have e217 := (Zfr.gi fqt200 t_a0 (by decide)).trans e25
      have e218 := (Zfr.gr fqt200 t_a0 (by decide)).trans e26
      have e219 := (Zfr.gr fqt200 t_a0 (by decide)).trans e27
      have e220 := (Zfr.gr fqt200 t_a0 (by decide)).trans e28
      have e221 := (Zfr.ai fqt200 tkl0 (by decide)).trans e30
      have e222 := (Zfr.ai fqt200 tkw0 (by decide)).trans e31
      have e223 := (Zfr.ai fqt200 tv1 (by decide)).trans e34
      have e224 := (Zfr.gr fqt200 t_a0 (by decide)).trans h0Zkdq50
      have e225 := (Zfr.ai fqt200 tkkq50 (by decide)).trans h1Zkdq50
      have F226 := Zfr.tr F42 fqt200 (by decide)
      obtain ⟨bf2qt200, bt2qt200, bd2qt200, bksqt200, bklqt200, bkwqt200, bnaqt200, blbqt200, bnwqt200, bvnqt200, h0ZVnqt200, h1ZVnqt200, h2ZVnqt200, h3ZVnqt200, h4ZVnqt200, h5ZVnqt200, h6ZVnqt200, h7ZVnqt200, h8ZVnqt200, h9ZVnqt200, h10ZVnqt200, tksqt200, tklqt200, tkwqt200, r0ZVnqt200, r1ZVnqt200, r2ZVnqt200, r3ZVnqt200, r4ZVnqt200, r5ZVnqt200, r6ZVnqt200, r7ZVnqt200, r8ZVnqt200, r9ZVnqt200, r10ZVnqt200, r11ZVnqt200, r12ZVnqt200, r13ZVnqt200, r14ZVnqt200, r15ZVnqt200, r16ZVnqt200, r17ZVnqt200, r18ZVnqt200, r19ZVnqt200, r20ZVnqt200, k0ZVnqt200, k1ZVnqt200, k2ZVnqt200, k3ZVnqt200, k4ZVnqt200⟩ := pbZVnqt200
      exact ⟨_, eqt200, Wqt200, F226, ⟨bf2qt200, bt2qt200, bd2qt200, bksqt200, bklqt200, bkwqt200, bnaqt200, blbqt200, bnwqt200, bvnqt200, h0ZVnqt200, h1ZVnqt200, h2ZVnqt200, h3ZVnqt200, h4ZVnqt200, h5ZVnqt200, h6ZVnqt200, h7ZVnqt200, h8ZVnqt200, h9ZVnqt200, h10ZVnqt200, tksqt200, tklqt200, tkwqt200, by (try dsimp only); omega, by (try dsimp only); omega, by (try dsimp only); omega, by (try dsimp only); omega, by (try dsimp only); omega, by (try dsimp only); omega, by (try dsimp only); omega, by (try dsimp only); omega, by (try dsimp only); omega, by (try dsimp only); omega, by (try dsimp only); omega, by (try dsimp only); omega, by (try dsimp only); omega, by (try dsimp only); omega, by (try dsimp only); omega, by (try dsimp only); omega, by (try dsimp only); omega, by (try dsimp only); omega, by (try dsimp only); omega, by (try dsimp only); omega, by (try dsimp only); omega, k0ZVnqt200, k1ZVnqt200, k2ZVnqt200, k3ZVnqt200, k4ZVnqt200⟩⟩
  · have := li_0
    have hq21 := i_ne hq21
    have := li_m1
    obtain ⟨qt238, eqt238, Wqt238, fqt238, pbZVnqt238⟩ := p_Mo_nodeOf_118 hn Wq4 (x1 := v3) (x2 := (-1)) t_a0 (by omega) (by omega) (by omega) (by omega) (by omega) (by omega) (by omega) (by omega) (by omega) (by omega) e3 h0ZSq4 h1ZSq4 e4 ⟨bks0, bkl0, bkw0, bna0, blb0, bnw0, bvn0, e3, h0ZSq4, h1ZSq4, e4, e5, e6, e7, e8, e9, e10, e11, tks0, tkl0, tkw0, by (try dsimp only); omega, by (try dsimp only); omega, by (try dsimp only); omega, by (try dsimp only); omega, by (try dsimp only); omega, by (try dsimp only); omega, by (try dsimp only); omega, by (try dsimp only); omega, by (try dsimp only); omega, by (try dsimp only); omega, by (try dsimp only); omega, by (try dsimp only); omega, by (try dsimp only); omega, by (try dsimp only); omega, by (try dsimp only); omega, by (try dsimp only); omega, by (try dsimp only); omega, by (try dsimp only); omega, k14, k15, k17, k18, k19⟩
    have e254 := (Zfr.gi fqt238 t_a0 (by decide)).trans e3
    have e255 := (Zfr.gi fqt238 t_a0 (by decide)).trans e4
    have e256 := (Zfr.gr fqt238 t_a0 (by decide)).trans e5
    have e257 := (Zfr.gr fqt238 t_a0 (by decide)).trans e6
    have e258 := (Zfr.gr fqt238 t_a0 (by decide)).trans e7
    have e259 := (Zfr.ai fqt238 tkl0 (by decide)).trans e9
    have e260 := (Zfr.ai fqt238 tkw0 (by decide)).trans e10
    have e261 := (Zfr.ai fqt238 tv1 (by decide)).trans e13
    have F262 := Zfr.tr F20 fqt238 (by decide)
    obtain ⟨bf2qt238, bt2qt238, bd2qt238, bksqt238, bklqt238, bkwqt238, bnaqt238, blbqt238, bnwqt238, bvnqt238, h0ZVnqt238, h1ZVnqt238, h2ZVnqt238, h3ZVnqt238, h4ZVnqt238, h5ZVnqt238, h6ZVnqt238, h7ZVnqt238, h8ZVnqt238, h9ZVnqt238, h10ZVnqt238, tksqt238, tklqt238, tkwqt238, r0ZVnqt238, r1ZVnqt238, r2ZVnqt238, r3ZVnqt238, r4ZVnqt238, r5ZVnqt238, r6ZVnqt238, r7ZVnqt238, r8ZVnqt238, r9ZVnqt238, r10ZVnqt238, r11ZVnqt238, r12ZVnqt238, r13ZVnqt238, r14ZVnqt238, r15ZVnqt238, r16ZVnqt238, r17ZVnqt238, r18ZVnqt238, r19ZVnqt238, r20ZVnqt238, k0ZVnqt238, k1ZVnqt238, k2ZVnqt238, k3ZVnqt238, k4ZVnqt238⟩ := pbZVnqt238
    have := li_2
    exact ⟨_, eqt238, Wqt238, F262, ⟨bf2qt238, bt2qt238, bd2qt238, bksqt238, bklqt238, bkwqt238, bnaqt238, blbqt238, bnwqt238, bvnqt238, h0ZVnqt238, h1ZVnqt238, h2ZVnqt238, h3ZVnqt238, h4ZVnqt238, h5ZVnqt238, h6ZVnqt238, h7ZVnqt238, h8ZVnqt238, h9ZVnqt238, h10ZVnqt238, tksqt238, tklqt238, tkwqt238, by (try dsimp only); omega, by (try dsimp only); omega, by (try dsimp only); omega, by (try dsimp only); omega, by (try dsimp only); omega, by (try dsimp only); omega, by (try dsimp only); omega, by (try dsimp only); omega, by (try dsimp only); omega, by (try dsimp only); omega, by (try dsimp only); omega, by (try dsimp only); omega, by (try dsimp only); omega, by (try dsimp only); omega, by (try dsimp only); omega, by (try dsimp only); omega, by (try dsimp only); omega, by (try dsimp only); omega, by (try dsimp only); omega, by (try dsimp only); omega, by (try dsimp only); omega, k0ZVnqt238, k1ZVnqt238, k2ZVnqt238, k3ZVnqt238, k4ZVnqt238⟩⟩

end ZzT
