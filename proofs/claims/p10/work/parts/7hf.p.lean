section ZzT
abbrev M_Mo_without : List (Nat × Nat) := [(64, 18), (64, 19), (64, 20), (64, 52), (64, 53), (64, 56), (64, 57), (64, 65), (79, 0), (80, 0), (81, 0), (82, 0), (83, 0), (84, 0), (85, 0), (86, 0), (87, 0), (88, 0), (89, 0), (90, 0), (91, 0), (92, 0), (93, 0), (94, 0), (95, 0), (103, 0), (104, 0), (105, 0), (106, 0), (107, 0), (108, 0), (109, 0), (110, 0), (111, 0), (112, 0), (113, 0), (134, 0)]
set_option maxRecDepth 100000 in
set_option maxHeartbeats 4000000 in
theorem p_Mo_without {nf : Nat} (hn : 8589934592 ≤ nf) {G : List Nat} {c : Zc} (W : Zwt zty G c) {a0 : Nat} {ni : Int32} {bc : Int32} {s0 : Nat} {gk : Nat} {δ : Int} {τ : Int} {ε : Int} {π : Int} {μ : Int} {pv : Int32} {fv : Int32} {tv : Int32} {dv : Int32} {kg : Nat} {gc : Int32} (t_a0 : G[a0]? = some 64) (pl_pv : 0 ≤ pv.toInt) (pu_pv : pv.toInt ≤ 8) (pl_fv : 0 ≤ fv.toInt) (pu_fv : fv.toInt ≤ 0) (pl_tv : 0 ≤ tv.toInt) (pu_tv : tv.toInt ≤ 200) (pl_dv : 0 ≤ dv.toInt) (pu_dv : dv.toInt ≤ 11) (pl_gc : 0 ≤ gc.toInt) (pu_gc : gc.toInt ≤ 78) (eh_pv : zgi c a0 12 25 = some pv) (eh_fv : zgi c a0 12 19 = some fv) (eh_tv : zgi c a0 12 18 = some tv) (eh_dv : zgi c a0 12 53 = some dv) (eh_kg : zgr c a0 12 28 = some kg) (eh_gc : zai c kg 0 pv = some gc) (pp_5 : 3 * gc.toInt + 1 ≤ tv.toInt) (pp_6 : 1 ≤ τ) (hb_ZV : ZV G c a0 pv fv tv dv ni bc) (hb_ZPB : ZPB G c a0 s0 gk δ τ ε π μ) : ∃ q, f_Mo_without nf a0 c = some q ∧ Zwt zty G q ∧ Zfr G M_Mo_without c q ∧ ZVq G q a0 pv fv tv dv ni bc 2 ∧ ZPB G q a0 s0 gk (δ + 1) τ ε π μ ∧ Zgc G q a0 pv gc := by
  have F0 : Zfr G M_Mo_without c c := Zfr.rf
  unfold f_Mo_without
  obtain ⟨xq, xe, tqw_1⟩ := gf_64_28 W t_a0
  rw [eh_kg] at xe; cases xe
  obtain ⟨bks0, bkl0, bkw0, bna0, blb0, bnw0, bvn0, h0ZV0, h1ZV0, h2ZV0, h3ZV0, h4ZV0, h5ZV0, h6ZV0, h7ZV0, h8ZV0, h9ZV0, h10ZV0, tks0, tkl0, tkw0, r0ZV0, r1ZV0, r2ZV0, r3ZV0, r4ZV0, r5ZV0, r6ZV0, r7ZV0, r8ZV0, r9ZV0, r10ZV0, r11ZV0, r12ZV0, r13ZV0, r14ZV0, r15ZV0, r16ZV0, r17ZV0, k0ZV0, k1ZV0, k2ZV0, k3ZV0, k4ZV0⟩ := hb_ZV
  have k0ZPB0 := hb_ZPB
  refine wb eh_kg ?_
  refine wb h0ZV0 ?_
  refine wb eh_gc ?_
  have := li_1
  have := i_add (a := gc) (b := 1) (by omega) (by omega)
  obtain ⟨c4, ec4, Wc4, fc4, gc4⟩ := pa_81 W tqw_1 (i := pv) (by omega) (by omega) (x := (gc + 1)) (rgi (by omega) (by omega))
  refine wb ec4 ?_
  have e2 := (Zfr.gi fc4 t_a0 (by decide)).trans h0ZV0
  have e3 := (Zfr.gi fc4 t_a0 (by decide)).trans h1ZV0
  have e4 := (Zfr.gi fc4 t_a0 (by decide)).trans h2ZV0
  have e5 := (Zfr.gi fc4 t_a0 (by decide)).trans h3ZV0
  have e6 := (Zfr.gr fc4 t_a0 (by decide)).trans eh_kg
  have e7 := (Zfr.gr fc4 t_a0 (by decide)).trans h4ZV0
  have e8 := (Zfr.gr fc4 t_a0 (by decide)).trans h5ZV0
  have e9 := (Zfr.gr fc4 t_a0 (by decide)).trans h6ZV0
  have e10 := (Zfr.ai fc4 tks0 (by decide)).trans h7ZV0
  have e11 := (Zfr.ai fc4 tkl0 (by decide)).trans h8ZV0
  have e12 := (Zfr.ai fc4 tkw0 (by decide)).trans h9ZV0
  have e13 := (Zfr.gi fc4 t_a0 (by decide)).trans h10ZV0
  have k14 := GtP_fr k0ZV0 fc4 t_a0 W (by decide)
  have sc16 := Sc_fr fc4 t_a0 (by decide) (by decide) (by decide)
  have k15 := WyN_fr k1ZV0 fc4 t_a0 W (by decide) sc16
  have k17 := TbI_fr k2ZV0 fc4 t_a0 W (by decide) sc16
  have k18 := TbC_fr k3ZV0 fc4 t_a0 W (by decide) sc16
  have k19 := TkN_fr k4ZV0 fc4 t_a0 W (by decide)
  have k20 := PB_s0 k0ZPB0 fc4 t_a0 W (by decide) sc16
  have F21 := Zfr.tr F0 fc4 (by decide)
  refine wb e6 ?_
  refine wb e2 ?_
  refine wb gc4 ?_
  obtain ⟨c8, ec8, Wc8, fc8, gc8⟩ := pf_64_56 Wc4 t_a0 (x := (gc + 1)) (rgi (by omega) (by omega))
  refine wb ec8 ?_
  have e22 := (Zfr.gi fc8 t_a0 (by decide)).trans e2
  have e23 := (Zfr.gi fc8 t_a0 (by decide)).trans e3
  have e24 := (Zfr.gi fc8 t_a0 (by decide)).trans e4
  have e25 := (Zfr.gi fc8 t_a0 (by decide)).trans e5
  have e26 := (Zfr.gr fc8 t_a0 (by decide)).trans e6
  have e27 := (Zfr.gr fc8 t_a0 (by decide)).trans e7
  have e28 := (Zfr.gr fc8 t_a0 (by decide)).trans e8
  have e29 := (Zfr.gr fc8 t_a0 (by decide)).trans e9
  have e30 := (Zfr.ai fc8 tks0 (by decide)).trans e10
  have e31 := (Zfr.ai fc8 tkl0 (by decide)).trans e11
  have e32 := (Zfr.ai fc8 tkw0 (by decide)).trans e12
  have e33 := (Zfr.gi fc8 t_a0 (by decide)).trans e13
  have e34 := (Zfr.ai fc8 tqw_1 (by decide)).trans gc4
  have k35 := GtP_fr k14 fc8 t_a0 Wc4 (by decide)
  have sc37 := Sc_fr fc8 t_a0 (by decide) (by decide) (by decide)
  have k36 := WyN_fr k15 fc8 t_a0 Wc4 (by decide) sc37
  have k38 := TbI_fr k17 fc8 t_a0 Wc4 (by decide) sc37
  have k39 := TbC_fr k18 fc8 t_a0 Wc4 (by decide) sc37
  have k40 := TkN_fr k19 fc8 t_a0 Wc4 (by decide)
  have k41 := PB_s0 k20 fc8 t_a0 Wc4 (by decide) sc37
  have F42 := Zfr.tr F21 fc8 (by decide)
  unfold f_Mo_without_28
  have := li_0
  have L43 : ∃ b, zlp (fun a : Nat × Int32 × Zc => g_Mo_without_28 nf a.1 a.2.1 a.2.2) nf (a0, 0, c8) = some b ∧ (fun b : (Nat × Zc) => a0 = b.1 ∧ Zwt zty G b.2 ∧ Zfr G ([(106, 0)] : List (Nat × Nat)) c8 b.2) b := by
    refine wlp (fun a : Nat × Int32 × Zc => a0 = a.1 ∧ Zwt zty G a.2.2 ∧ Zfr G ([(106, 0)] : List (Nat × Nat)) c8 a.2.2 ∧ 0 ≤ a.2.1.toInt ∧ a.2.1.toInt ≤ 66) (fun a => (66 - a.2.1.toInt).toNat) (fun b : (Nat × Zc) => a0 = b.1 ∧ Zwt zty G b.2 ∧ Zfr G ([(106, 0)] : List (Nat × Nat)) c8 b.2) ?_ ?_ ?_
    · rintro ⟨x0_44, x1_44, c_44⟩ hI
      try dsimp only at hI ⊢
      obtain ⟨rfl, WLc_44, FLc_44, j45, j46⟩ := hI
      have e47 := (Zfr.gi FLc_44 t_a0 (by decide)).trans e22
      have e48 := (Zfr.gi FLc_44 t_a0 (by decide)).trans e23
      have e49 := (Zfr.gi FLc_44 t_a0 (by decide)).trans e24
      have e50 := (Zfr.gi FLc_44 t_a0 (by decide)).trans e25
      have e51 := (Zfr.gr FLc_44 t_a0 (by decide)).trans e26
      have e52 := (Zfr.gr FLc_44 t_a0 (by decide)).trans e27
      have e53 := (Zfr.gr FLc_44 t_a0 (by decide)).trans e28
      have e54 := (Zfr.gr FLc_44 t_a0 (by decide)).trans e29
      have e55 := (Zfr.ai FLc_44 tks0 (by decide)).trans e30
      have e56 := (Zfr.ai FLc_44 tkl0 (by decide)).trans e31
      have e57 := (Zfr.ai FLc_44 tkw0 (by decide)).trans e32
      have e58 := (Zfr.gi FLc_44 t_a0 (by decide)).trans e33
      have e59 := (Zfr.ai FLc_44 tqw_1 (by decide)).trans e34
      have k60 := GtP_fr k35 FLc_44 t_a0 Wc8 (by decide)
      have sc62 := Sc_fr FLc_44 t_a0 (by decide) (by decide) (by decide)
      have k61 := WyN_fr k36 FLc_44 t_a0 Wc8 (by decide) sc62
      have k63 := TbI_fr k38 FLc_44 t_a0 Wc8 (by decide) sc62
      have k64 := TbC_fr k39 FLc_44 t_a0 Wc8 (by decide) sc62
      have k65 := TkN_fr k40 FLc_44 t_a0 Wc8 (by decide)
      have k66 := PB_s0 k41 FLc_44 t_a0 Wc8 (by decide) sc62
      unfold g_Mo_without_28
      refine wi (fun hq67 => ?_) (fun hq67 => ?_)
      · have := li_66
        have hq67 := i_le hq67
        exact lInr ⟨rfl, WLc_44, FLc_44⟩
      · have := li_66
        have hq67 := i_nle hq67
        obtain ⟨v10, ev10, tv10⟩ := gf_64_55 WLc_44 t_a0
        refine wb ev10 ?_
        have := li_m1
        obtain ⟨c11, ec11, Wc11, fc11, gc11⟩ := pa_106 WLc_44 tv10 (i := x1_44) (by omega) (by omega) (x := (-1)) (kni (by omega))
        refine wb ec11 ?_
        have e68 := (Zfr.gi fc11 t_a0 (by decide)).trans e47
        have e69 := (Zfr.gi fc11 t_a0 (by decide)).trans e48
        have e70 := (Zfr.gi fc11 t_a0 (by decide)).trans e49
        have e71 := (Zfr.gi fc11 t_a0 (by decide)).trans e50
        have e72 := (Zfr.gr fc11 t_a0 (by decide)).trans e51
        have e73 := (Zfr.gr fc11 t_a0 (by decide)).trans e52
        have e74 := (Zfr.gr fc11 t_a0 (by decide)).trans e53
        have e75 := (Zfr.gr fc11 t_a0 (by decide)).trans e54
        have e76 := (Zfr.ai fc11 tks0 (by decide)).trans e55
        have e77 := (Zfr.ai fc11 tkl0 (by decide)).trans e56
        have e78 := (Zfr.ai fc11 tkw0 (by decide)).trans e57
        have e79 := (Zfr.gi fc11 t_a0 (by decide)).trans e58
        have e80 := (Zfr.ai fc11 tqw_1 (by decide)).trans e59
        have k81 := GtP_fr k60 fc11 t_a0 WLc_44 (by decide)
        have sc83 := Sc_fr fc11 t_a0 (by decide) (by decide) (by decide)
        have k82 := WyN_fr k61 fc11 t_a0 WLc_44 (by decide) sc83
        have k84 := TbI_fr k63 fc11 t_a0 WLc_44 (by decide) sc83
        have k85 := TbC_fr k64 fc11 t_a0 WLc_44 (by decide) sc83
        have k86 := TkN_fr k65 fc11 t_a0 WLc_44 (by decide)
        have k87 := PB_s0 k66 fc11 t_a0 WLc_44 (by decide) sc83
        have F88 := Zfr.tr FLc_44 fc11 (by decide)
        have := i_add (a := x1_44) (b := 1) (by omega) (by omega)
        exact lInl ⟨rfl, Wc11, F88, by (try dsimp only); omega, by (try dsimp only); omega⟩ (by (try dsimp only); omega)
    · exact ⟨rfl, Wc8, Zfr.rf, by (try dsimp only); omega, by (try dsimp only); omega⟩
    · (try dsimp only); omega
  obtain ⟨b, eb, hb⟩ := L43
  refine wb eb ?_
  clear eb
  obtain ⟨z0_89, c_89⟩ := b
  try dsimp only at hb ⊢
  obtain ⟨rfl, WXc_89, FXc_89⟩ := hb
  have e90 := (Zfr.gi FXc_89 t_a0 (by decide)).trans e22
  have e91 := (Zfr.gi FXc_89 t_a0 (by decide)).trans e23
  have e92 := (Zfr.gi FXc_89 t_a0 (by decide)).trans e24
  have e93 := (Zfr.gi FXc_89 t_a0 (by decide)).trans e25
  have e94 := (Zfr.gr FXc_89 t_a0 (by decide)).trans e26
  have e95 := (Zfr.gr FXc_89 t_a0 (by decide)).trans e27
  have e96 := (Zfr.gr FXc_89 t_a0 (by decide)).trans e28
  have e97 := (Zfr.gr FXc_89 t_a0 (by decide)).trans e29
  have e98 := (Zfr.ai FXc_89 tks0 (by decide)).trans e30
  have e99 := (Zfr.ai FXc_89 tkl0 (by decide)).trans e31
  have e100 := (Zfr.ai FXc_89 tkw0 (by decide)).trans e32
  have e101 := (Zfr.gi FXc_89 t_a0 (by decide)).trans e33
  have e102 := (Zfr.ai FXc_89 tqw_1 (by decide)).trans e34
  have e103 := (Zfr.gi FXc_89 t_a0 (by decide)).trans gc8
  have k104 := GtP_fr k35 FXc_89 t_a0 Wc8 (by decide)
  have sc106 := Sc_fr FXc_89 t_a0 (by decide) (by decide) (by decide)
  have k105 := WyN_fr k36 FXc_89 t_a0 Wc8 (by decide) sc106
  have k107 := TbI_fr k38 FXc_89 t_a0 Wc8 (by decide) sc106
  have k108 := TbC_fr k39 FXc_89 t_a0 Wc8 (by decide) sc106
  have k109 := TkN_fr k40 FXc_89 t_a0 Wc8 (by decide)
  have k110 := PB_s0 k41 FXc_89 t_a0 Wc8 (by decide) sc106
  have F111 := Zfr.tr F42 FXc_89 (by decide)
  obtain ⟨w13, ew13⟩ := go_64 WXc_89 t_a0
  refine wb ew13 ?_
  obtain ⟨q12, eq12, Wq12, fq12, pbZVqq12⟩ := p_Mo_pattern hn WXc_89 (ni := ni) (bc := bc) t_a0 (by omega) (by omega) (by omega) (by omega) (by omega) (by omega) (by omega) (by omega) e90 e91 e92 e93 ⟨bks0, bkl0, bkw0, bna0, blb0, bnw0, bvn0, e90, e91, e92, e93, e95, e96, e97, e98, e99, e100, e101, tks0, tkl0, tkw0, by (try dsimp only); omega, by (try dsimp only); omega, by (try dsimp only); omega, by (try dsimp only); omega, by (try dsimp only); omega, by (try dsimp only); omega, by (try dsimp only); omega, by (try dsimp only); omega, by (try dsimp only); omega, by (try dsimp only); omega, by (try dsimp only); omega, by (try dsimp only); omega, by (try dsimp only); omega, by (try dsimp only); omega, by (try dsimp only); omega, by (try dsimp only); omega, by (try dsimp only); omega, by (try dsimp only); omega, k104, k105, k107, k108, k109⟩
  refine wb eq12 ?_
  have e127 := (Zfr.gi fq12 t_a0 (by decide)).trans e90
  have e128 := (Zfr.gr fq12 t_a0 (by decide)).trans e94
  have e129 := (Zfr.gr fq12 t_a0 (by decide)).trans e95
  have e130 := (Zfr.gr fq12 t_a0 (by decide)).trans e96
  have e131 := (Zfr.gr fq12 t_a0 (by decide)).trans e97
  have e132 := (Zfr.ai fq12 tqw_1 (by decide)).trans e102
  have e133 := (Zfr.gi fq12 t_a0 (by decide)).trans e103
  have := li_2
  have sc135 : Sc c_89 q12 a0 (2) (0) := by
    obtain ⟨yf2, yt2, yd2, yks, ykl, ykw, yna, ylb, ynw, yvn, z0y, z1y, z2y, z3y, z4y, z5y, z6y, z7y, z8y, z9y, z10y, x0y, x1y, x2y, x3y, x4y, x5y, x6y, x7y, x8y, x9y, x10y, x11y, x12y, x13y, x14y, x15y, x16y, x17y, x18y, x19y, x20y, x21y, x22y, x23y, x24y, x25y, x26y, x27y⟩ := pbZVqq12
    exact Sc_mk e91 z1y e92 z2y e93 z3y (by omega)
  have k134 := PB_sc k110 fq12 t_a0 WXc_89 (by decide) sc135 (by omega)
  have F136 := Zfr.tr F111 fq12 (by decide)
  obtain ⟨bf2q12, bt2q12, bd2q12, bksq12, bklq12, bkwq12, bnaq12, blbq12, bnwq12, bvnq12, h0ZVqq12, h1ZVqq12, h2ZVqq12, h3ZVqq12, h4ZVqq12, h5ZVqq12, h6ZVqq12, h7ZVqq12, h8ZVqq12, h9ZVqq12, h10ZVqq12, tksq12, tklq12, tkwq12, r0ZVqq12, r1ZVqq12, r2ZVqq12, r3ZVqq12, r4ZVqq12, r5ZVqq12, r6ZVqq12, r7ZVqq12, r8ZVqq12, r9ZVqq12, r10ZVqq12, r11ZVqq12, r12ZVqq12, r13ZVqq12, r14ZVqq12, r15ZVqq12, r16ZVqq12, r17ZVqq12, r18ZVqq12, r19ZVqq12, k0ZVqq12, k1ZVqq12, k2ZVqq12, k3ZVqq12, k4ZVqq12⟩ := pbZVqq12
  refine wb e133 ?_
  obtain ⟨w16, ew16⟩ := go_64 Wq12 t_a0
  refine wb ew16 ?_
  obtain ⟨w_138, ew_138, lw_138, uw_138⟩ := gf_64_52 Wq12 t_a0
  have := PB_nm k134 h1ZVqq12 ew_138 h2ZVqq12
  have := li_19
  obtain ⟨q15, eq15, Wq15, fq15, po0q15⟩ := p_Mo_code hn Wq12 (a1 := 19) (a2 := (gc + 1)) t_a0 h1ZVqq12 ew_138 (by omega)
  refine wb eq15 ?_
  have e142 := (Zfr.gi fq15 t_a0 (by decide)).trans h0ZVqq12
  have e143 := (Zfr.gr fq15 t_a0 (by decide)).trans e128
  have e144 := (Zfr.gr fq15 t_a0 (by decide)).trans h4ZVqq12
  have e145 := (Zfr.gr fq15 t_a0 (by decide)).trans h5ZVqq12
  have e146 := (Zfr.gr fq15 t_a0 (by decide)).trans h6ZVqq12
  have e147 := (Zfr.ai fq15 tqw_1 (by decide)).trans e132
  have e148 := (Zfr.gi fq15 t_a0 (by decide)).trans h1ZVqq12
  have e149 := (Zfr.gi fq15 t_a0 (by decide)).trans h2ZVqq12
  have e150 := (Zfr.gi fq15 t_a0 (by decide)).trans h3ZVqq12
  have e151 := (Zfr.ai fq15 tksq12 (by decide)).trans h7ZVqq12
  have e152 := (Zfr.ai fq15 tklq12 (by decide)).trans h8ZVqq12
  have e153 := (Zfr.ai fq15 tkwq12 (by decide)).trans h9ZVqq12
  have e154 := (Zfr.gi fq15 t_a0 (by decide)).trans h10ZVqq12
  have k155 := PB_push k134 fq15 t_a0 Wq12 po0q15 h1ZVqq12 (by omega)
  have k156 := GtP_cd k0ZVqq12 fq15 t_a0 Wq12 po0q15
  have sc158 := Sc_fr fq15 t_a0 (by decide) (by decide) (by decide)
  have k157 := WyN_fr k1ZVqq12 fq15 t_a0 Wq12 (by decide) sc158
  have k159 := TbI_cd k2ZVqq12 fq15 t_a0 Wq12 po0q15
  have k160 := TbC_cd k3ZVqq12 fq15 t_a0 Wq12 po0q15
  have k161 := TkN_fr k4ZVqq12 fq15 t_a0 Wq12 (by decide)
  have F162 := Zfr.tr F136 fq15 (by decide)
  obtain ⟨c17, ec17, Wc17, fc17, gc17⟩ := pf_64_56 Wq15 t_a0 (x := 0) (rgi (by omega) (by omega))
  refine wb ec17 ?_
  have e163 := (Zfr.gi fc17 t_a0 (by decide)).trans e142
  have e164 := (Zfr.gr fc17 t_a0 (by decide)).trans e143
  have e165 := (Zfr.gr fc17 t_a0 (by decide)).trans e144
  have e166 := (Zfr.gr fc17 t_a0 (by decide)).trans e145
  have e167 := (Zfr.gr fc17 t_a0 (by decide)).trans e146
  have e168 := (Zfr.ai fc17 tqw_1 (by decide)).trans e147
  have e169 := (Zfr.gi fc17 t_a0 (by decide)).trans e148
  have e170 := (Zfr.gi fc17 t_a0 (by decide)).trans e149
  have e171 := (Zfr.gi fc17 t_a0 (by decide)).trans e150
  have e172 := (Zfr.ai fc17 tksq12 (by decide)).trans e151
  have e173 := (Zfr.ai fc17 tklq12 (by decide)).trans e152
  have e174 := (Zfr.ai fc17 tkwq12 (by decide)).trans e153
  have e175 := (Zfr.gi fc17 t_a0 (by decide)).trans e154
  have sc177 := Sc_fr fc17 t_a0 (by decide) (by decide) (by decide)
  have k176 := PB_s0 k155 fc17 t_a0 Wq15 (by decide) sc177
  have k178 := GtP_fr k156 fc17 t_a0 Wq15 (by decide)
  have k179 := WyN_fr k157 fc17 t_a0 Wq15 (by decide) sc177
  have k180 := TbI_fr k159 fc17 t_a0 Wq15 (by decide) sc177
  have k181 := TbC_fr k160 fc17 t_a0 Wq15 (by decide) sc177
  have k182 := TkN_fr k161 fc17 t_a0 Wq15 (by decide)
  have F183 := Zfr.tr F162 fc17 (by decide)
  exact ⟨_, rfl, Wc17, F183, ⟨bf2q12, bt2q12, bd2q12, bksq12, bklq12, bkwq12, bnaq12, blbq12, bnwq12, bvnq12, e163, e169, e170, e171, e165, e166, e167, e172, e173, e174, e175, tksq12, tklq12, tkwq12, by (try dsimp only); omega, by (try dsimp only); omega, by (try dsimp only); omega, by (try dsimp only); omega, by (try dsimp only); omega, by (try dsimp only); omega, by (try dsimp only); omega, by (try dsimp only); omega, by (try dsimp only); omega, by (try dsimp only); omega, by (try dsimp only); omega, by (try dsimp only); omega, by (try dsimp only); omega, by (try dsimp only); omega, by (try dsimp only); omega, by (try dsimp only); omega, by (try dsimp only); omega, by (try dsimp only); omega, by (try dsimp only); omega, by (try dsimp only); omega, k178, k179, k180, k181, k182⟩, PB_m k176 (by omega) (by omega) (by omega) (by omega), ⟨kg, (gc + 1), e163, e164, e168, tqw_1, by (try dsimp only); omega, by (try dsimp only); omega⟩⟩

abbrev M_Mo_variable : List (Nat × Nat) := [(64, 18), (64, 19), (64, 20), (64, 52), (103, 0), (104, 0)]
set_option maxRecDepth 100000 in
set_option maxHeartbeats 4000000 in
theorem p_Mo_variable {nf : Nat} (hn : 8589934592 ≤ nf) {G : List Nat} {c : Zc} (W : Zwt zty G c) {a0 : Nat} {ni : Int32} {bc : Int32} {s0 : Nat} {gk : Nat} {δ : Int} {τ : Int} {ε : Int} {π : Int} {μ : Int} {pv : Int32} {fv : Int32} {tv : Int32} {dv : Int32} {kk : Nat} {kt : Int32} (t_a0 : G[a0]? = some 64) (pl_pv : 0 ≤ pv.toInt) (pu_pv : pv.toInt ≤ 8) (pl_fv : 0 ≤ fv.toInt) (pu_fv : fv.toInt ≤ 0) (pl_tv : 0 ≤ tv.toInt) (pu_tv : tv.toInt ≤ 200) (pl_dv : 0 ≤ dv.toInt) (pu_dv : dv.toInt ≤ 11) (pl_kt : 2 ≤ kt.toInt) (pu_kt : kt.toInt ≤ 2) (eh_pv : zgi c a0 12 25 = some pv) (eh_fv : zgi c a0 12 19 = some fv) (eh_tv : zgi c a0 12 18 = some tv) (eh_dv : zgi c a0 12 53 = some dv) (eh_kk : zgr c a0 12 14 = some kk) (eh_kt : zai c kk 0 tv = some kt) (pp_5 : 0 ≤ τ) (hb_ZV : ZV G c a0 pv fv tv dv ni bc) (hb_ZPB : ZPB G c a0 s0 gk δ τ ε π μ) : ∃ q, f_Mo_variable nf a0 c = some q ∧ Zwt zty G q ∧ Zfr G M_Mo_variable c q ∧ ZVq G q a0 pv fv tv dv ni bc 1 ∧ ZPB G q a0 s0 gk (δ + 1) τ ε π μ := by
  have F0 : Zfr G M_Mo_variable c c := Zfr.rf
  unfold f_Mo_variable
  obtain ⟨xq, xe, tqw_1⟩ := gf_64_14 W t_a0
  rw [eh_kk] at xe; cases xe
  obtain ⟨bks0, bkl0, bkw0, bna0, blb0, bnw0, bvn0, h0ZV0, h1ZV0, h2ZV0, h3ZV0, h4ZV0, h5ZV0, h6ZV0, h7ZV0, h8ZV0, h9ZV0, h10ZV0, tks0, tkl0, tkw0, r0ZV0, r1ZV0, r2ZV0, r3ZV0, r4ZV0, r5ZV0, r6ZV0, r7ZV0, r8ZV0, r9ZV0, r10ZV0, r11ZV0, r12ZV0, r13ZV0, r14ZV0, r15ZV0, r16ZV0, r17ZV0, k0ZV0, k1ZV0, k2ZV0, k3ZV0, k4ZV0⟩ := hb_ZV
  have k0ZPB0 := hb_ZPB
  obtain ⟨w2, ew2⟩ := go_64 W t_a0
  refine wb ew2 ?_
  obtain ⟨q1, eq1, Wq1, fq1, pbZStq1⟩ := p_Mo_stands hn W  t_a0 (by omega) (by omega) (by omega) (by omega) h1ZV0 h2ZV0
  refine wb eq1 ?_
  have e4 := (Zfr.gi fq1 t_a0 (by decide)).trans h0ZV0
  have e5 := (Zfr.gi fq1 t_a0 (by decide)).trans h2ZV0
  have e6 := (Zfr.gi fq1 t_a0 (by decide)).trans h3ZV0
  have e7 := (Zfr.gr fq1 t_a0 (by decide)).trans eh_kk
  have e8 := (Zfr.ai fq1 tqw_1 (by decide)).trans eh_kt
  have e9 := (Zfr.gr fq1 t_a0 (by decide)).trans h4ZV0
  have e10 := (Zfr.gr fq1 t_a0 (by decide)).trans h5ZV0
  have e11 := (Zfr.gr fq1 t_a0 (by decide)).trans h6ZV0
  have e12 := (Zfr.ai fq1 tks0 (by decide)).trans h7ZV0
  have e13 := (Zfr.ai fq1 tkl0 (by decide)).trans h8ZV0
  have e14 := (Zfr.ai fq1 tkw0 (by decide)).trans h9ZV0
  have e15 := (Zfr.gi fq1 t_a0 (by decide)).trans h10ZV0
  have k16 := GtP_fr k0ZV0 fq1 t_a0 W (by decide)
  have sc18 : Sc c q1 a0 (0) (0) := by
    obtain ⟨yf2, z0y, x0y, x1y, x2y⟩ := pbZStq1
    exact Sc_mk h1ZV0 z0y h2ZV0 ((Zfr.gi (ci := 12) fq1 t_a0 (by decide)).trans h2ZV0) h3ZV0 ((Zfr.gi (ci := 12) fq1 t_a0 (by decide)).trans h3ZV0) (by omega)
  have k17 := WyN_fr k1ZV0 fq1 t_a0 W (by decide) sc18
  have k19 := TbI_fr k2ZV0 fq1 t_a0 W (by decide) sc18
  have k20 := TbC_fr k3ZV0 fq1 t_a0 W (by decide) sc18
  have k21 := TkN_fr k4ZV0 fq1 t_a0 W (by decide)
  have k22 := PB_s0 k0ZPB0 fq1 t_a0 W (by decide) sc18
  have F23 := Zfr.tr F0 fq1 (by decide)
  obtain ⟨bf2q1, h0ZStq1, r0ZStq1, r1ZStq1, r2ZStq1⟩ := pbZStq1
  obtain ⟨v3, ev3, tv3⟩ := gf_64_54 Wq1 t_a0
  refine wb ev3 ?_
  obtain ⟨v4, ev4, tv4⟩ := gf_64_15 Wq1 t_a0
  refine wb ev4 ?_
  refine wb e5 ?_
  obtain ⟨v6, ev6, _⟩ := ga_75 Wq1 tv4 (i := tv) (by omega) (by omega)
  have ht24 := TkM_at (k21 _ _ e7 ev4) e8 ev6
  have := tkr2 ht24 (by omega)
  refine wb ev6 ?_
  obtain ⟨v7, ev7, pv7⟩ := ga_105 Wq1 tv3 (i := v6) (by omega) (by omega)
  have pv7 : v7.toInt = -1 ∨ (0 ≤ v7.toInt ∧ v7.toInt ≤ 7) ∨ (100 ≤ v7.toInt ∧ v7.toInt ≤ 107) := pv7
  refine wb ev7 ?_
  refine wi (fun hq25 => ?_) (fun hq25 => ?_)
  · have := li_m1
    have hq25 := i_eq hq25
    obtain ⟨v38, ev38, tv38⟩ := gf_64_16 Wq1 t_a0
    refine wb ev38 ?_
    refine wb e5 ?_
    obtain ⟨v40, ev40, _⟩ := ga_76 Wq1 tv38 (i := tv) (by omega) (by omega)
    refine wb ev40 ?_
    obtain ⟨w42, ew42⟩ := go_64 Wq1 t_a0
    refine wb ew42 ?_
    have := li_5
    obtain ⟨q41, eq41, Wq41, fq41, pbZSfq41⟩ := p_Mo_refuse hn Wq1 (a1 := 5) (a2 := v40) t_a0 (by omega) (by omega) (by omega) (by omega) h0ZStq1
    refine wb eq41 ?_
    have e27 := (Zfr.gi fq41 t_a0 (by decide)).trans e4
    have e28 := (Zfr.gi fq41 t_a0 (by decide)).trans e5
    have e29 := (Zfr.gi fq41 t_a0 (by decide)).trans e6
    have e30 := (Zfr.gr fq41 t_a0 (by decide)).trans e7
    have e31 := (Zfr.ai fq41 tqw_1 (by decide)).trans e8
    have e32 := (Zfr.gr fq41 t_a0 (by decide)).trans e9
    have e33 := (Zfr.gr fq41 t_a0 (by decide)).trans e10
    have e34 := (Zfr.gr fq41 t_a0 (by decide)).trans e11
    have e35 := (Zfr.ai fq41 tks0 (by decide)).trans e12
    have e36 := (Zfr.ai fq41 tkl0 (by decide)).trans e13
    have e37 := (Zfr.ai fq41 tkw0 (by decide)).trans e14
    have e38 := (Zfr.gi fq41 t_a0 (by decide)).trans e15
    have e39 := (Zfr.gr fq41 t_a0 (by decide)).trans ev4
    have e40 := (Zfr.ai fq41 tv4 (by decide)).trans ev6
    have e41 := (Zfr.ai fq41 tv3 (by decide)).trans ev7
    have e42 := (Zfr.gr fq41 t_a0 (by decide)).trans ev38
    have e43 := (Zfr.ai fq41 tv38 (by decide)).trans ev40
    have k44 := GtP_fr k16 fq41 t_a0 Wq1 (by decide)
    have sc46 : Sc q1 q41 a0 (0) (0) := by
      obtain ⟨yf2, z0y, x0y, x1y⟩ := pbZSfq41
      exact Sc_mk h0ZStq1 z0y e5 ((Zfr.gi (ci := 12) fq41 t_a0 (by decide)).trans e5) e6 ((Zfr.gi (ci := 12) fq41 t_a0 (by decide)).trans e6) (by omega)
    have k45 := WyN_fr k17 fq41 t_a0 Wq1 (by decide) sc46
    have k47 := TbI_fr k19 fq41 t_a0 Wq1 (by decide) sc46
    have k48 := TbC_fr k20 fq41 t_a0 Wq1 (by decide) sc46
    have k49 := TkN_fr k21 fq41 t_a0 Wq1 (by decide)
    have k50 := PB_s0 k22 fq41 t_a0 Wq1 (by decide) sc46
    have F51 := Zfr.tr F23 fq41 (by decide)
    obtain ⟨bf2q41, h0ZSfq41, r0ZSfq41, r1ZSfq41⟩ := pbZSfq41
    unfold f_Mo_variable_38
    obtain ⟨w10, ew10⟩ := go_64 Wq41 t_a0
    refine wb ew10 ?_
    obtain ⟨q9, eq9, Wq9, fq9, pbZSq9⟩ := p_Mo_pass hn Wq41  t_a0 (by omega) (by omega) (by omega) (by omega) h0ZSfq41 e28
    refine wb eq9 ?_
    have e54 := (Zfr.gi fq9 t_a0 (by decide)).trans e27
    have e55 := (Zfr.gi fq9 t_a0 (by decide)).trans e29
    have e56 := (Zfr.gr fq9 t_a0 (by decide)).trans e30
    have e57 := (Zfr.ai fq9 tqw_1 (by decide)).trans e31
    have e58 := (Zfr.gr fq9 t_a0 (by decide)).trans e32
    have e59 := (Zfr.gr fq9 t_a0 (by decide)).trans e33
    have e60 := (Zfr.gr fq9 t_a0 (by decide)).trans e34
    have e61 := (Zfr.ai fq9 tks0 (by decide)).trans e35
    have e62 := (Zfr.ai fq9 tkl0 (by decide)).trans e36
    have e63 := (Zfr.ai fq9 tkw0 (by decide)).trans e37
    have e64 := (Zfr.gi fq9 t_a0 (by decide)).trans e38
    have e65 := (Zfr.gr fq9 t_a0 (by decide)).trans e39
    have e66 := (Zfr.ai fq9 tv4 (by decide)).trans e40
    have e67 := (Zfr.ai fq9 tv3 (by decide)).trans e41
    have e68 := (Zfr.gr fq9 t_a0 (by decide)).trans e42
    have e69 := (Zfr.ai fq9 tv38 (by decide)).trans e43
    have k70 := GtP_fr k44 fq9 t_a0 Wq41 (by decide)
    have := li_1
    have sc72 : Sc q41 q9 a0 (1) (0) := by
      obtain ⟨yf2, yt2, z0y, z1y, x0y, x1y, x2y, x3y, x4y, x5y⟩ := pbZSq9
      exact Sc_mk h0ZSfq41 z0y e28 z1y e29 ((Zfr.gi (ci := 12) fq9 t_a0 (by decide)).trans e29) (by omega)
    have k71 := WyN_fr k45 fq9 t_a0 Wq41 (by decide) sc72
    have k73 := TbI_fr k47 fq9 t_a0 Wq41 (by decide) sc72
    have k74 := TbC_fr k48 fq9 t_a0 Wq41 (by decide) sc72
    have k75 := TkN_fr k49 fq9 t_a0 Wq41 (by decide)
    have k76 := PB_sc k50 fq9 t_a0 Wq41 (by decide) sc72 (by omega)
    have F77 := Zfr.tr F51 fq9 (by decide)
    obtain ⟨bf2q9, bt2q9, h0ZSq9, h1ZSq9, r0ZSq9, r1ZSq9, r2ZSq9, r3ZSq9, r4ZSq9, r5ZSq9⟩ := pbZSq9
    obtain ⟨w12, ew12⟩ := go_64 Wq9 t_a0
    refine wb ew12 ?_
    have := li_46
    obtain ⟨q11, eq11, Wq11, fq11, pl0q11, pu0q11, pbZSkq11⟩ := p_Mo_takes hn Wq9 (a1 := 46) t_a0 (by omega) (by omega) (by omega) (by omega) h0ZSq9 h1ZSq9
    refine wb eq11 ?_
    have e80 := (Zfr.gi fq11 t_a0 (by decide)).trans e54
    have e81 := (Zfr.gi fq11 t_a0 (by decide)).trans e55
    have e82 := (Zfr.gr fq11 t_a0 (by decide)).trans e56
    have e83 := (Zfr.ai fq11 tqw_1 (by decide)).trans e57
    have e84 := (Zfr.gr fq11 t_a0 (by decide)).trans e58
    have e85 := (Zfr.gr fq11 t_a0 (by decide)).trans e59
    have e86 := (Zfr.gr fq11 t_a0 (by decide)).trans e60
    have e87 := (Zfr.ai fq11 tks0 (by decide)).trans e61
    have e88 := (Zfr.ai fq11 tkl0 (by decide)).trans e62
    have e89 := (Zfr.ai fq11 tkw0 (by decide)).trans e63
    have e90 := (Zfr.gi fq11 t_a0 (by decide)).trans e64
    have e91 := (Zfr.gr fq11 t_a0 (by decide)).trans e65
    have e92 := (Zfr.ai fq11 tv4 (by decide)).trans e66
    have e93 := (Zfr.ai fq11 tv3 (by decide)).trans e67
    have e94 := (Zfr.gr fq11 t_a0 (by decide)).trans e68
    have e95 := (Zfr.ai fq11 tv38 (by decide)).trans e69
    have k96 := GtP_fr k70 fq11 t_a0 Wq9 (by decide)
    have sc98 : Sc q9 q11.2 a0 (q11.1.toInt) (0) := by
      obtain ⟨yf2, yt2, z0y, z1y, x0y, x1y, x2y, x3y, x4y, x5y, x6y⟩ := pbZSkq11
      exact Sc_mk h0ZSq9 z0y h1ZSq9 z1y e55 ((Zfr.gi (ci := 12) fq11 t_a0 (by decide)).trans e55) (by omega)
    have k97 := WyN_fr k71 fq11 t_a0 Wq9 (by decide) sc98
    have k99 := TbI_fr k73 fq11 t_a0 Wq9 (by decide) sc98
    have k100 := TbC_fr k74 fq11 t_a0 Wq9 (by decide) sc98
    have k101 := TkN_fr k75 fq11 t_a0 Wq9 (by decide)
    have k102 := PB_sc k76 fq11 t_a0 Wq9 (by decide) sc98 (by omega)
    have F103 := Zfr.tr F77 fq11 (by decide)
    obtain ⟨bf2q11, bt2q11, h0ZSkq11, h1ZSkq11, r0ZSkq11, r1ZSkq11, r2ZSkq11, r3ZSkq11, r4ZSkq11, r5ZSkq11, r6ZSkq11⟩ := pbZSkq11
    refine wi (fun hq104 => ?_) (fun hq104 => ?_)
    · have := li_0
      have hq104 := i_eq hq104
      refine wi (fun hq105 => ?_) (fun hq105 => ?_)
      · have := li_100
        have hq105 := i_lt hq105
        unfold f_Mo_variable_63
        obtain ⟨w37, ew37⟩ := go_64 Wq11 t_a0
        refine wb ew37 ?_
        obtain ⟨w_107, ew_107, lw_107, uw_107⟩ := gf_64_52 Wq11 t_a0
        have := PB_nm k102 h0ZSkq11 ew_107 h1ZSkq11
        obtain ⟨q36, eq36, Wq36, fq36, po0q36⟩ := p_Mo_code hn Wq11 (a1 := 1) (a2 := (v7 - ((v7 / 100) * 100))) t_a0 h0ZSkq11 ew_107 (by omega)
        refine wb eq36 ?_
        have e111 := (Zfr.gi fq36 t_a0 (by decide)).trans e80
        have e112 := (Zfr.gi fq36 t_a0 (by decide)).trans e81
        have e113 := (Zfr.gr fq36 t_a0 (by decide)).trans e82
        have e114 := (Zfr.ai fq36 tqw_1 (by decide)).trans e83
        have e115 := (Zfr.gr fq36 t_a0 (by decide)).trans e84
        have e116 := (Zfr.gr fq36 t_a0 (by decide)).trans e85
        have e117 := (Zfr.gr fq36 t_a0 (by decide)).trans e86
        have e118 := (Zfr.ai fq36 tks0 (by decide)).trans e87
        have e119 := (Zfr.ai fq36 tkl0 (by decide)).trans e88
        have e120 := (Zfr.ai fq36 tkw0 (by decide)).trans e89
        have e121 := (Zfr.gi fq36 t_a0 (by decide)).trans e90
        have e122 := (Zfr.gr fq36 t_a0 (by decide)).trans e91
        have e123 := (Zfr.ai fq36 tv4 (by decide)).trans e92
        have e124 := (Zfr.ai fq36 tv3 (by decide)).trans e93
        have e125 := (Zfr.ai fq36 tv38 (by decide)).trans e95
        have e126 := (Zfr.gi fq36 t_a0 (by decide)).trans h0ZSkq11
        have e127 := (Zfr.gi fq36 t_a0 (by decide)).trans h1ZSkq11
        have k128 := GtP_cd k96 fq36 t_a0 Wq11 po0q36
        have sc130 := Sc_fr fq36 t_a0 (by decide) (by decide) (by decide)
        have k129 := WyN_fr k97 fq36 t_a0 Wq11 (by decide) sc130
        have k131 := TbI_cd k99 fq36 t_a0 Wq11 po0q36
        have k132 := TbC_cd k100 fq36 t_a0 Wq11 po0q36
        have k133 := TkN_fr k101 fq36 t_a0 Wq11 (by decide)
        have k134 := PB_push k102 fq36 t_a0 Wq11 po0q36 h0ZSkq11 (by omega)
        have F135 := Zfr.tr F103 fq36 (by decide)
        exact ⟨_, rfl, Wq36, F135, ⟨bf2q11, bt2q11, dv, bks0, bkl0, bkw0, bna0, blb0, bnw0, bvn0, e111, e126, e127, e112, e115, e116, e117, e118, e119, e120, e121, tks0, tkl0, tkw0, by (try dsimp only); omega, by (try dsimp only); omega, by (try dsimp only); omega, by (try dsimp only); omega, by (try dsimp only); omega, by (try dsimp only); omega, by (try dsimp only); omega, by (try dsimp only); omega, by (try dsimp only); omega, by (try dsimp only); omega, by (try dsimp only); omega, by (try dsimp only); omega, by (try dsimp only); omega, by (try dsimp only); omega, by (try dsimp only); omega, by (try dsimp only); omega, by (try dsimp only); omega, by (try dsimp only); omega, by (try dsimp only); omega, by (try dsimp only); omega, k128, k129, k131, k132, k133⟩, PB_m k134 (by omega) (by omega) (by omega) (by omega)⟩
      · have := li_100
        have hq105 := i_nlt hq105
        exfalso
        omega
    · have := li_0
      have hq104 := i_ne hq104
      obtain ⟨w15, ew15⟩ := go_64 Wq11 t_a0
      refine wb ew15 ?_
      obtain ⟨q14, eq14, Wq14, fq14, pbZScq14, pbZkdq14⟩ := p_Mo_kind hn Wq11  t_a0 (by omega) (by omega) (by omega) (by omega) h0ZSkq11 h1ZSkq11
      refine wb eq14 ?_
      have e150 := (Zfr.gi fq14 t_a0 (by decide)).trans e80
      have e151 := (Zfr.gi fq14 t_a0 (by decide)).trans e81
      have e152 := (Zfr.gr fq14 t_a0 (by decide)).trans e82
      have e153 := (Zfr.ai fq14 tqw_1 (by decide)).trans e83
      have e154 := (Zfr.gr fq14 t_a0 (by decide)).trans e84
      have e155 := (Zfr.gr fq14 t_a0 (by decide)).trans e85
      have e156 := (Zfr.gr fq14 t_a0 (by decide)).trans e86
      have e157 := (Zfr.ai fq14 tks0 (by decide)).trans e87
      have e158 := (Zfr.ai fq14 tkl0 (by decide)).trans e88
      have e159 := (Zfr.ai fq14 tkw0 (by decide)).trans e89
      have e160 := (Zfr.gi fq14 t_a0 (by decide)).trans e90
      have e161 := (Zfr.gr fq14 t_a0 (by decide)).trans e91
      have e162 := (Zfr.ai fq14 tv4 (by decide)).trans e92
      have e163 := (Zfr.ai fq14 tv3 (by decide)).trans e93
      have e164 := (Zfr.gr fq14 t_a0 (by decide)).trans e94
      have e165 := (Zfr.ai fq14 tv38 (by decide)).trans e95
      have e166 := (Zfr.gi fq14 t_a0 (by decide)).trans h1ZSkq11
      have k167 := GtP_fr k96 fq14 t_a0 Wq11 (by decide)
      have sc169 : Sc q11.2 q14.2 a0 (0) (0) := by
        obtain ⟨yf2, z0y, x0y, x1y, x2y, x3y⟩ := pbZScq14
        exact Sc_mk h0ZSkq11 z0y h1ZSkq11 ((Zfr.gi (ci := 12) fq14 t_a0 (by decide)).trans h1ZSkq11) e81 ((Zfr.gi (ci := 12) fq14 t_a0 (by decide)).trans e81) (by omega)
      have k168 := WyN_fr k97 fq14 t_a0 Wq11 (by decide) sc169
      have k170 := TbI_fr k99 fq14 t_a0 Wq11 (by decide) sc169
      have k171 := TbC_fr k100 fq14 t_a0 Wq11 (by decide) sc169
      have k172 := TkN_fr k101 fq14 t_a0 Wq11 (by decide)
      have k173 := PB_s0 k102 fq14 t_a0 Wq11 (by decide) sc169
      have F174 := Zfr.tr F103 fq14 (by decide)
      obtain ⟨bf2q14, h0ZScq14, r0ZScq14, r1ZScq14, r2ZScq14, r3ZScq14⟩ := pbZScq14
      obtain ⟨bkkq14, h0Zkdq14, h1Zkdq14, tkkq14⟩ := pbZkdq14
      refine wi (fun hq175 => ?_) (fun hq175 => ?_)
      · have := li_4
        have := i_ge q14.1
        have := i_up q14.1
        have hq175 := i_eq hq175
        obtain ⟨w18, ew18⟩ := go_64 Wq14 t_a0
        refine wb ew18 ?_
        obtain ⟨q17, eq17, Wq17, fq17, pbZStq17⟩ := p_Mo_stands hn Wq14  t_a0 (by omega) (by omega) (by omega) (by omega) h0ZScq14 e166
        refine wb eq17 ?_
        have e178 := (Zfr.gi fq17 t_a0 (by decide)).trans e150
        have e179 := (Zfr.gi fq17 t_a0 (by decide)).trans e151
        have e180 := (Zfr.gr fq17 t_a0 (by decide)).trans h0Zkdq14
        have e181 := (Zfr.ai fq17 tqw_1 (by decide)).trans e153
        have e182 := (Zfr.gr fq17 t_a0 (by decide)).trans e154
        have e183 := (Zfr.gr fq17 t_a0 (by decide)).trans e155
        have e184 := (Zfr.gr fq17 t_a0 (by decide)).trans e156
        have e185 := (Zfr.ai fq17 tks0 (by decide)).trans e157
        have e186 := (Zfr.ai fq17 tkl0 (by decide)).trans e158
        have e187 := (Zfr.ai fq17 tkw0 (by decide)).trans e159
        have e188 := (Zfr.gi fq17 t_a0 (by decide)).trans e160
        have e189 := (Zfr.gr fq17 t_a0 (by decide)).trans e161
        have e190 := (Zfr.ai fq17 tv4 (by decide)).trans e162
        have e191 := (Zfr.ai fq17 tv3 (by decide)).trans e163
        have e192 := (Zfr.gr fq17 t_a0 (by decide)).trans e164
        have e193 := (Zfr.ai fq17 tv38 (by decide)).trans e165
        have e194 := (Zfr.gi fq17 t_a0 (by decide)).trans e166
        have e195 := (Zfr.ai fq17 tkkq14 (by decide)).trans h1Zkdq14
        have k196 := GtP_fr k167 fq17 t_a0 Wq14 (by decide)
        have sc198 : Sc q14.2 q17 a0 (0) (0) := by
          obtain ⟨yf2, z0y, x0y, x1y, x2y⟩ := pbZStq17
          exact Sc_mk h0ZScq14 z0y e166 ((Zfr.gi (ci := 12) fq17 t_a0 (by decide)).trans e166) e151 ((Zfr.gi (ci := 12) fq17 t_a0 (by decide)).trans e151) (by omega)
        have k197 := WyN_fr k168 fq17 t_a0 Wq14 (by decide) sc198
        have k199 := TbI_fr k170 fq17 t_a0 Wq14 (by decide) sc198
        have k200 := TbC_fr k171 fq17 t_a0 Wq14 (by decide) sc198
        have k201 := TkN_fr k172 fq17 t_a0 Wq14 (by decide)
        have k202 := PB_s0 k173 fq17 t_a0 Wq14 (by decide) sc198
        have F203 := Zfr.tr F174 fq17 (by decide)
        obtain ⟨bf2q17, h0ZStq17, r0ZStq17, r1ZStq17, r2ZStq17⟩ := pbZStq17
        refine wi (fun hq204 => ?_) (fun hq204 => ?_)
        · have := li_100
          have hq204 := i_lt hq204
          unfold f_Mo_variable_108
          refine wb e189 ?_
          refine wb e194 ?_
          obtain ⟨v22, ev22, _⟩ := ga_75 Wq17 tv4 (i := bt2q11) (by omega) (by omega)
          have ht205 := TkM_at (k201 _ _ e180 e189) e195 ev22
          have := tkr4 ht205 (by omega)
          refine wb ev22 ?_
          obtain ⟨w24, ew24⟩ := go_64 Wq17 t_a0
          refine wb ew24 ?_
          obtain ⟨w_207, ew_207, lw_207, uw_207⟩ := gf_64_52 Wq17 t_a0
          have := PB_nm k202 h0ZStq17 ew_207 e194
          have := li_3
          have := i_mull (a := 4) (b := v7) (n := 4) li_4 (by omega) (by omega)
          have := i_add (a := (4 * v7)) (b := v22) (by omega) (by omega)
          obtain ⟨q23, eq23, Wq23, fq23, po0q23⟩ := p_Mo_code hn Wq17 (a1 := 3) (a2 := ((4 * v7) + v22)) t_a0 h0ZStq17 ew_207 (by omega)
          refine wb eq23 ?_
          have e211 := (Zfr.gi fq23 t_a0 (by decide)).trans e178
          have e212 := (Zfr.gi fq23 t_a0 (by decide)).trans e179
          have e213 := (Zfr.gr fq23 t_a0 (by decide)).trans e180
          have e214 := (Zfr.ai fq23 tqw_1 (by decide)).trans e181
          have e215 := (Zfr.gr fq23 t_a0 (by decide)).trans e182
          have e216 := (Zfr.gr fq23 t_a0 (by decide)).trans e183
          have e217 := (Zfr.gr fq23 t_a0 (by decide)).trans e184
          have e218 := (Zfr.ai fq23 tks0 (by decide)).trans e185
          have e219 := (Zfr.ai fq23 tkl0 (by decide)).trans e186
          have e220 := (Zfr.ai fq23 tkw0 (by decide)).trans e187
          have e221 := (Zfr.gi fq23 t_a0 (by decide)).trans e188
          have e222 := (Zfr.gr fq23 t_a0 (by decide)).trans e189
          have e223 := (Zfr.ai fq23 tv4 (by decide)).trans e190
          have e224 := (Zfr.ai fq23 tv3 (by decide)).trans e191
          have e225 := (Zfr.ai fq23 tv38 (by decide)).trans e193
          have e226 := (Zfr.gi fq23 t_a0 (by decide)).trans e194
          have e227 := (Zfr.ai fq23 tkkq14 (by decide)).trans e195
          have e228 := (Zfr.gi fq23 t_a0 (by decide)).trans h0ZStq17
          have e229 := (Zfr.ai fq23 tv4 (by decide)).trans ev22
          have k230 := GtP_cd k196 fq23 t_a0 Wq17 po0q23
          have sc232 := Sc_fr fq23 t_a0 (by decide) (by decide) (by decide)
          have k231 := WyN_fr k197 fq23 t_a0 Wq17 (by decide) sc232
          have k233 := TbI_cd k199 fq23 t_a0 Wq17 po0q23
          have k234 := TbC_cd k200 fq23 t_a0 Wq17 po0q23
          have k235 := TkN_fr k201 fq23 t_a0 Wq17 (by decide)
          have k236 := PB_push k202 fq23 t_a0 Wq17 po0q23 h0ZStq17 (by omega)
          have F237 := Zfr.tr F203 fq23 (by decide)
          obtain ⟨w26, ew26⟩ := go_64 Wq23 t_a0
          refine wb ew26 ?_
          obtain ⟨q25, eq25, Wq25, fq25, pbZSq25⟩ := p_Mo_pass hn Wq23  t_a0 (by omega) (by omega) (by omega) (by omega) e228 e226
          refine wb eq25 ?_
          have e240 := (Zfr.gi fq25 t_a0 (by decide)).trans e211
          have e241 := (Zfr.gi fq25 t_a0 (by decide)).trans e212
          have e242 := (Zfr.gr fq25 t_a0 (by decide)).trans e213
          have e243 := (Zfr.ai fq25 tqw_1 (by decide)).trans e214
          have e244 := (Zfr.gr fq25 t_a0 (by decide)).trans e215
          have e245 := (Zfr.gr fq25 t_a0 (by decide)).trans e216
          have e246 := (Zfr.gr fq25 t_a0 (by decide)).trans e217
          have e247 := (Zfr.ai fq25 tks0 (by decide)).trans e218
          have e248 := (Zfr.ai fq25 tkl0 (by decide)).trans e219
          have e249 := (Zfr.ai fq25 tkw0 (by decide)).trans e220
          have e250 := (Zfr.gi fq25 t_a0 (by decide)).trans e221
          have e251 := (Zfr.gr fq25 t_a0 (by decide)).trans e222
          have e252 := (Zfr.ai fq25 tv4 (by decide)).trans e223
          have e253 := (Zfr.ai fq25 tv3 (by decide)).trans e224
          have e254 := (Zfr.ai fq25 tv38 (by decide)).trans e225
          have e255 := (Zfr.ai fq25 tkkq14 (by decide)).trans e227
          have e256 := (Zfr.ai fq25 tv4 (by decide)).trans e229
          have k257 := GtP_fr k230 fq25 t_a0 Wq23 (by decide)
          have sc259 : Sc q23 q25 a0 (1) (0) := by
            obtain ⟨yf2, yt2, z0y, z1y, x0y, x1y, x2y, x3y, x4y, x5y⟩ := pbZSq25
            exact Sc_mk e228 z0y e226 z1y e212 ((Zfr.gi (ci := 12) fq25 t_a0 (by decide)).trans e212) (by omega)
          have k258 := WyN_fr k231 fq25 t_a0 Wq23 (by decide) sc259
          have k260 := TbI_fr k233 fq25 t_a0 Wq23 (by decide) sc259
          have k261 := TbC_fr k234 fq25 t_a0 Wq23 (by decide) sc259
          have k262 := TkN_fr k235 fq25 t_a0 Wq23 (by decide)
          have k263 := PB_sc k236 fq25 t_a0 Wq23 (by decide) sc259 (by omega)
          have F264 := Zfr.tr F237 fq25 (by decide)
          obtain ⟨bf2q25, bt2q25, h0ZSq25, h1ZSq25, r0ZSq25, r1ZSq25, r2ZSq25, r3ZSq25, r4ZSq25, r5ZSq25⟩ := pbZSq25
          exact ⟨_, rfl, Wq25, F264, ⟨bf2q25, bt2q25, dv, bks0, bkl0, bkw0, bna0, blb0, bnw0, bvn0, e240, h0ZSq25, h1ZSq25, e241, e244, e245, e246, e247, e248, e249, e250, tks0, tkl0, tkw0, by (try dsimp only); omega, by (try dsimp only); omega, by (try dsimp only); omega, by (try dsimp only); omega, by (try dsimp only); omega, by (try dsimp only); omega, by (try dsimp only); omega, by (try dsimp only); omega, by (try dsimp only); omega, by (try dsimp only); omega, by (try dsimp only); omega, by (try dsimp only); omega, by (try dsimp only); omega, by (try dsimp only); omega, by (try dsimp only); omega, by (try dsimp only); omega, by (try dsimp only); omega, by (try dsimp only); omega, by (try dsimp only); omega, by (try dsimp only); omega, k257, k258, k260, k261, k262⟩, PB_m k263 (by omega) (by omega) (by omega) (by omega)⟩
        · have := li_100
          have hq204 := i_nlt hq204
          exfalso
          omega
      · have := li_4
        have := i_ge q14.1
        have := i_up q14.1
        have hq175 := i_ne hq175
        obtain ⟨w33, ew33⟩ := go_64 Wq14 t_a0
        refine wb ew33 ?_
        obtain ⟨q32, eq32, Wq32, fq32, pbZSfq32⟩ := p_Mo_wrong hn Wq14  t_a0 (by omega) (by omega) (by omega) (by omega) h0ZScq14 e166
        refine wb eq32 ?_
        have e279 := (Zfr.gi fq32 t_a0 (by decide)).trans e150
        have e280 := (Zfr.gi fq32 t_a0 (by decide)).trans e151
        have e281 := (Zfr.gr fq32 t_a0 (by decide)).trans h0Zkdq14
        have e282 := (Zfr.ai fq32 tqw_1 (by decide)).trans e153
        have e283 := (Zfr.gr fq32 t_a0 (by decide)).trans e154
        have e284 := (Zfr.gr fq32 t_a0 (by decide)).trans e155
        have e285 := (Zfr.gr fq32 t_a0 (by decide)).trans e156
        have e286 := (Zfr.ai fq32 tks0 (by decide)).trans e157
        have e287 := (Zfr.ai fq32 tkl0 (by decide)).trans e158
        have e288 := (Zfr.ai fq32 tkw0 (by decide)).trans e159
        have e289 := (Zfr.gi fq32 t_a0 (by decide)).trans e160
        have e290 := (Zfr.gr fq32 t_a0 (by decide)).trans e161
        have e291 := (Zfr.ai fq32 tv4 (by decide)).trans e162
        have e292 := (Zfr.ai fq32 tv3 (by decide)).trans e163
        have e293 := (Zfr.ai fq32 tv38 (by decide)).trans e165
        have e294 := (Zfr.gi fq32 t_a0 (by decide)).trans e166
        have e295 := (Zfr.ai fq32 tkkq14 (by decide)).trans h1Zkdq14
        have k296 := GtP_fr k167 fq32 t_a0 Wq14 (by decide)
        have sc298 : Sc q14.2 q32 a0 (0) (0) := by
          obtain ⟨yf2, z0y, x0y, x1y⟩ := pbZSfq32
          exact Sc_mk h0ZScq14 z0y e166 ((Zfr.gi (ci := 12) fq32 t_a0 (by decide)).trans e166) e151 ((Zfr.gi (ci := 12) fq32 t_a0 (by decide)).trans e151) (by omega)
        have k297 := WyN_fr k168 fq32 t_a0 Wq14 (by decide) sc298
        have k299 := TbI_fr k170 fq32 t_a0 Wq14 (by decide) sc298
        have k300 := TbC_fr k171 fq32 t_a0 Wq14 (by decide) sc298
        have k301 := TkN_fr k172 fq32 t_a0 Wq14 (by decide)
        have k302 := PB_s0 k173 fq32 t_a0 Wq14 (by decide) sc298
        have F303 := Zfr.tr F174 fq32 (by decide)
        obtain ⟨bf2q32, h0ZSfq32, r0ZSfq32, r1ZSfq32⟩ := pbZSfq32
        exact ⟨_, rfl, Wq32, F303, ⟨bf2q32, bt2q11, dv, bks0, bkl0, bkw0, bna0, blb0, bnw0, bvn0, e279, h0ZSfq32, e294, e280, e283, e284, e285, e286, e287, e288, e289, tks0, tkl0, tkw0, by (try dsimp only); omega, by (try dsimp only); omega, by (try dsimp only); omega, by (try dsimp only); omega, by (try dsimp only); omega, by (try dsimp only); omega, by (try dsimp only); omega, by (try dsimp only); omega, by (try dsimp only); omega, by (try dsimp only); omega, by (try dsimp only); omega, by (try dsimp only); omega, by (try dsimp only); omega, by (try dsimp only); omega, by (try dsimp only); omega, by (try dsimp only); omega, by (try dsimp only); omega, by (try dsimp only); omega, by (try dsimp only); omega, by (try dsimp only); omega, k296, k297, k299, k300, k301⟩, PB_flt h0ZSfq32 (by omega)⟩
  · have := li_m1
    have hq25 := i_ne hq25
    unfold f_Mo_variable_38
    obtain ⟨w10, ew10⟩ := go_64 Wq1 t_a0
    refine wb ew10 ?_
    obtain ⟨q9, eq9, Wq9, fq9, pbZSq9⟩ := p_Mo_pass hn Wq1  t_a0 (by omega) (by omega) (by omega) (by omega) h0ZStq1 e5
    refine wb eq9 ?_
    have e318 := (Zfr.gi fq9 t_a0 (by decide)).trans e4
    have e319 := (Zfr.gi fq9 t_a0 (by decide)).trans e6
    have e320 := (Zfr.gr fq9 t_a0 (by decide)).trans e7
    have e321 := (Zfr.ai fq9 tqw_1 (by decide)).trans e8
    have e322 := (Zfr.gr fq9 t_a0 (by decide)).trans e9
    have e323 := (Zfr.gr fq9 t_a0 (by decide)).trans e10
    have e324 := (Zfr.gr fq9 t_a0 (by decide)).trans e11
    have e325 := (Zfr.ai fq9 tks0 (by decide)).trans e12
    have e326 := (Zfr.ai fq9 tkl0 (by decide)).trans e13
    have e327 := (Zfr.ai fq9 tkw0 (by decide)).trans e14
    have e328 := (Zfr.gi fq9 t_a0 (by decide)).trans e15
    have e329 := (Zfr.gr fq9 t_a0 (by decide)).trans ev4
    have e330 := (Zfr.ai fq9 tv4 (by decide)).trans ev6
    have e331 := (Zfr.ai fq9 tv3 (by decide)).trans ev7
    have k332 := GtP_fr k16 fq9 t_a0 Wq1 (by decide)
    have := li_1
    have sc334 : Sc q1 q9 a0 (1) (0) := by
      obtain ⟨yf2, yt2, z0y, z1y, x0y, x1y, x2y, x3y, x4y, x5y⟩ := pbZSq9
      exact Sc_mk h0ZStq1 z0y e5 z1y e6 ((Zfr.gi (ci := 12) fq9 t_a0 (by decide)).trans e6) (by omega)
    have k333 := WyN_fr k17 fq9 t_a0 Wq1 (by decide) sc334
    have k335 := TbI_fr k19 fq9 t_a0 Wq1 (by decide) sc334
    have k336 := TbC_fr k20 fq9 t_a0 Wq1 (by decide) sc334
    have k337 := TkN_fr k21 fq9 t_a0 Wq1 (by decide)
    have k338 := PB_sc k22 fq9 t_a0 Wq1 (by decide) sc334 (by omega)
    have F339 := Zfr.tr F23 fq9 (by decide)
    obtain ⟨bf2q9, bt2q9, h0ZSq9, h1ZSq9, r0ZSq9, r1ZSq9, r2ZSq9, r3ZSq9, r4ZSq9, r5ZSq9⟩ := pbZSq9
    obtain ⟨w12, ew12⟩ := go_64 Wq9 t_a0
    refine wb ew12 ?_
    have := li_46
    obtain ⟨q11, eq11, Wq11, fq11, pl0q11, pu0q11, pbZSkq11⟩ := p_Mo_takes hn Wq9 (a1 := 46) t_a0 (by omega) (by omega) (by omega) (by omega) h0ZSq9 h1ZSq9
    refine wb eq11 ?_
    have e342 := (Zfr.gi fq11 t_a0 (by decide)).trans e318
    have e343 := (Zfr.gi fq11 t_a0 (by decide)).trans e319
    have e344 := (Zfr.gr fq11 t_a0 (by decide)).trans e320
    have e345 := (Zfr.ai fq11 tqw_1 (by decide)).trans e321
    have e346 := (Zfr.gr fq11 t_a0 (by decide)).trans e322
    have e347 := (Zfr.gr fq11 t_a0 (by decide)).trans e323
    have e348 := (Zfr.gr fq11 t_a0 (by decide)).trans e324
    have e349 := (Zfr.ai fq11 tks0 (by decide)).trans e325
    have e350 := (Zfr.ai fq11 tkl0 (by decide)).trans e326
    have e351 := (Zfr.ai fq11 tkw0 (by decide)).trans e327
    have e352 := (Zfr.gi fq11 t_a0 (by decide)).trans e328
    have e353 := (Zfr.gr fq11 t_a0 (by decide)).trans e329
    have e354 := (Zfr.ai fq11 tv4 (by decide)).trans e330
    have e355 := (Zfr.ai fq11 tv3 (by decide)).trans e331
    have k356 := GtP_fr k332 fq11 t_a0 Wq9 (by decide)
    have sc358 : Sc q9 q11.2 a0 (q11.1.toInt) (0) := by
      obtain ⟨yf2, yt2, z0y, z1y, x0y, x1y, x2y, x3y, x4y, x5y, x6y⟩ := pbZSkq11
      exact Sc_mk h0ZSq9 z0y h1ZSq9 z1y e319 ((Zfr.gi (ci := 12) fq11 t_a0 (by decide)).trans e319) (by omega)
    have k357 := WyN_fr k333 fq11 t_a0 Wq9 (by decide) sc358
    have k359 := TbI_fr k335 fq11 t_a0 Wq9 (by decide) sc358
    have k360 := TbC_fr k336 fq11 t_a0 Wq9 (by decide) sc358
    have k361 := TkN_fr k337 fq11 t_a0 Wq9 (by decide)
    have k362 := PB_sc k338 fq11 t_a0 Wq9 (by decide) sc358 (by omega)
    have F363 := Zfr.tr F339 fq11 (by decide)
    obtain ⟨bf2q11, bt2q11, h0ZSkq11, h1ZSkq11, r0ZSkq11, r1ZSkq11, r2ZSkq11, r3ZSkq11, r4ZSkq11, r5ZSkq11, r6ZSkq11⟩ := pbZSkq11
    refine wi (fun hq364 => ?_) (fun hq364 => ?_)
    · have := li_0
      have hq364 := i_eq hq364
      refine wi (fun hq365 => ?_) (fun hq365 => ?_)
      · have := li_100
        have hq365 := i_lt hq365
        unfold f_Mo_variable_63
        obtain ⟨w37, ew37⟩ := go_64 Wq11 t_a0
        refine wb ew37 ?_
        have hg366 := i_rem (a := v7) (b := 100) (n := 100) li_100 (by decide) (by omega)
        generalize v7 - v7 / 100 * 100 = y367 at hg366 ⊢
        obtain ⟨w_369, ew_369, lw_369, uw_369⟩ := gf_64_52 Wq11 t_a0
        have := PB_nm k362 h0ZSkq11 ew_369 h1ZSkq11
        obtain ⟨q36, eq36, Wq36, fq36, po0q36⟩ := p_Mo_code hn Wq11 (a1 := 1) (a2 := y367) t_a0 h0ZSkq11 ew_369 (by omega)
        refine wb eq36 ?_
        have e373 := (Zfr.gi fq36 t_a0 (by decide)).trans e342
        have e374 := (Zfr.gi fq36 t_a0 (by decide)).trans e343
        have e375 := (Zfr.gr fq36 t_a0 (by decide)).trans e344
        have e376 := (Zfr.ai fq36 tqw_1 (by decide)).trans e345
        have e377 := (Zfr.gr fq36 t_a0 (by decide)).trans e346
        have e378 := (Zfr.gr fq36 t_a0 (by decide)).trans e347
        have e379 := (Zfr.gr fq36 t_a0 (by decide)).trans e348
        have e380 := (Zfr.ai fq36 tks0 (by decide)).trans e349
        have e381 := (Zfr.ai fq36 tkl0 (by decide)).trans e350
        have e382 := (Zfr.ai fq36 tkw0 (by decide)).trans e351
        have e383 := (Zfr.gi fq36 t_a0 (by decide)).trans e352
        have e384 := (Zfr.gr fq36 t_a0 (by decide)).trans e353
        have e385 := (Zfr.ai fq36 tv4 (by decide)).trans e354
        have e386 := (Zfr.ai fq36 tv3 (by decide)).trans e355
        have e387 := (Zfr.gi fq36 t_a0 (by decide)).trans h0ZSkq11
        have e388 := (Zfr.gi fq36 t_a0 (by decide)).trans h1ZSkq11
        have k389 := GtP_cd k356 fq36 t_a0 Wq11 po0q36
        have sc391 := Sc_fr fq36 t_a0 (by decide) (by decide) (by decide)
        have k390 := WyN_fr k357 fq36 t_a0 Wq11 (by decide) sc391
        have k392 := TbI_cd k359 fq36 t_a0 Wq11 po0q36
        have k393 := TbC_cd k360 fq36 t_a0 Wq11 po0q36
        have k394 := TkN_fr k361 fq36 t_a0 Wq11 (by decide)
        have k395 := PB_push k362 fq36 t_a0 Wq11 po0q36 h0ZSkq11 (by omega)
        have F396 := Zfr.tr F363 fq36 (by decide)
        exact ⟨_, rfl, Wq36, F396, ⟨bf2q11, bt2q11, dv, bks0, bkl0, bkw0, bna0, blb0, bnw0, bvn0, e373, e387, e388, e374, e377, e378, e379, e380, e381, e382, e383, tks0, tkl0, tkw0, by (try dsimp only); omega, by (try dsimp only); omega, by (try dsimp only); omega, by (try dsimp only); omega, by (try dsimp only); omega, by (try dsimp only); omega, by (try dsimp only); omega, by (try dsimp only); omega, by (try dsimp only); omega, by (try dsimp only); omega, by (try dsimp only); omega, by (try dsimp only); omega, by (try dsimp only); omega, by (try dsimp only); omega, by (try dsimp only); omega, by (try dsimp only); omega, by (try dsimp only); omega, by (try dsimp only); omega, by (try dsimp only); omega, by (try dsimp only); omega, k389, k390, k392, k393, k394⟩, PB_m k395 (by omega) (by omega) (by omega) (by omega)⟩
      · have := li_100
        have hq365 := i_nlt hq365
        unfold f_Mo_variable_63
        obtain ⟨w37, ew37⟩ := go_64 Wq11 t_a0
        refine wb ew37 ?_
        have hg409 := i_rem (a := v7) (b := 100) (n := 100) li_100 (by decide) (by omega)
        generalize v7 - v7 / 100 * 100 = y410 at hg409 ⊢
        obtain ⟨w_412, ew_412, lw_412, uw_412⟩ := gf_64_52 Wq11 t_a0
        have := PB_nm k362 h0ZSkq11 ew_412 h1ZSkq11
        have := li_2
        obtain ⟨q36, eq36, Wq36, fq36, po0q36⟩ := p_Mo_code hn Wq11 (a1 := 2) (a2 := y410) t_a0 h0ZSkq11 ew_412 (by omega)
        refine wb eq36 ?_
        have e416 := (Zfr.gi fq36 t_a0 (by decide)).trans e342
        have e417 := (Zfr.gi fq36 t_a0 (by decide)).trans e343
        have e418 := (Zfr.gr fq36 t_a0 (by decide)).trans e344
        have e419 := (Zfr.ai fq36 tqw_1 (by decide)).trans e345
        have e420 := (Zfr.gr fq36 t_a0 (by decide)).trans e346
        have e421 := (Zfr.gr fq36 t_a0 (by decide)).trans e347
        have e422 := (Zfr.gr fq36 t_a0 (by decide)).trans e348
        have e423 := (Zfr.ai fq36 tks0 (by decide)).trans e349
        have e424 := (Zfr.ai fq36 tkl0 (by decide)).trans e350
        have e425 := (Zfr.ai fq36 tkw0 (by decide)).trans e351
        have e426 := (Zfr.gi fq36 t_a0 (by decide)).trans e352
        have e427 := (Zfr.gr fq36 t_a0 (by decide)).trans e353
        have e428 := (Zfr.ai fq36 tv4 (by decide)).trans e354
        have e429 := (Zfr.ai fq36 tv3 (by decide)).trans e355
        have e430 := (Zfr.gi fq36 t_a0 (by decide)).trans h0ZSkq11
        have e431 := (Zfr.gi fq36 t_a0 (by decide)).trans h1ZSkq11
        have k432 := GtP_cd k356 fq36 t_a0 Wq11 po0q36
        have sc434 := Sc_fr fq36 t_a0 (by decide) (by decide) (by decide)
        have k433 := WyN_fr k357 fq36 t_a0 Wq11 (by decide) sc434
        have k435 := TbI_cd k359 fq36 t_a0 Wq11 po0q36
        have k436 := TbC_cd k360 fq36 t_a0 Wq11 po0q36
        have k437 := TkN_fr k361 fq36 t_a0 Wq11 (by decide)
        have k438 := PB_push k362 fq36 t_a0 Wq11 po0q36 h0ZSkq11 (by omega)
        have F439 := Zfr.tr F363 fq36 (by decide)
        exact ⟨_, rfl, Wq36, F439, ⟨bf2q11, bt2q11, dv, bks0, bkl0, bkw0, bna0, blb0, bnw0, bvn0, e416, e430, e431, e417, e420, e421, e422, e423, e424, e425, e426, tks0, tkl0, tkw0, by (try dsimp only); omega, by (try dsimp only); omega, by (try dsimp only); omega, by (try dsimp only); omega, by (try dsimp only); omega, by (try dsimp only); omega, by (try dsimp only); omega, by (try dsimp only); omega, by (try dsimp only); omega, by (try dsimp only); omega, by (try dsimp only); omega, by (try dsimp only); omega, by (try dsimp only); omega, by (try dsimp only); omega, by (try dsimp only); omega, by (try dsimp only); omega, by (try dsimp only); omega, by (try dsimp only); omega, by (try dsimp only); omega, by (try dsimp only); omega, k432, k433, k435, k436, k437⟩, PB_m k438 (by omega) (by omega) (by omega) (by omega)⟩
    · have := li_0
      have hq364 := i_ne hq364
      obtain ⟨w15, ew15⟩ := go_64 Wq11 t_a0
      refine wb ew15 ?_
      obtain ⟨q14, eq14, Wq14, fq14, pbZScq14, pbZkdq14⟩ := p_Mo_kind hn Wq11  t_a0 (by omega) (by omega) (by omega) (by omega) h0ZSkq11 h1ZSkq11
      refine wb eq14 ?_
      have e454 := (Zfr.gi fq14 t_a0 (by decide)).trans e342
      have e455 := (Zfr.gi fq14 t_a0 (by decide)).trans e343
      have e456 := (Zfr.gr fq14 t_a0 (by decide)).trans e344
      have e457 := (Zfr.ai fq14 tqw_1 (by decide)).trans e345
      have e458 := (Zfr.gr fq14 t_a0 (by decide)).trans e346
      have e459 := (Zfr.gr fq14 t_a0 (by decide)).trans e347
      have e460 := (Zfr.gr fq14 t_a0 (by decide)).trans e348
      have e461 := (Zfr.ai fq14 tks0 (by decide)).trans e349
      have e462 := (Zfr.ai fq14 tkl0 (by decide)).trans e350
      have e463 := (Zfr.ai fq14 tkw0 (by decide)).trans e351
      have e464 := (Zfr.gi fq14 t_a0 (by decide)).trans e352
      have e465 := (Zfr.gr fq14 t_a0 (by decide)).trans e353
      have e466 := (Zfr.ai fq14 tv4 (by decide)).trans e354
      have e467 := (Zfr.ai fq14 tv3 (by decide)).trans e355
      have e468 := (Zfr.gi fq14 t_a0 (by decide)).trans h1ZSkq11
      have k469 := GtP_fr k356 fq14 t_a0 Wq11 (by decide)
      have sc471 : Sc q11.2 q14.2 a0 (0) (0) := by
        obtain ⟨yf2, z0y, x0y, x1y, x2y, x3y⟩ := pbZScq14
        exact Sc_mk h0ZSkq11 z0y h1ZSkq11 ((Zfr.gi (ci := 12) fq14 t_a0 (by decide)).trans h1ZSkq11) e343 ((Zfr.gi (ci := 12) fq14 t_a0 (by decide)).trans e343) (by omega)
      have k470 := WyN_fr k357 fq14 t_a0 Wq11 (by decide) sc471
      have k472 := TbI_fr k359 fq14 t_a0 Wq11 (by decide) sc471
      have k473 := TbC_fr k360 fq14 t_a0 Wq11 (by decide) sc471
      have k474 := TkN_fr k361 fq14 t_a0 Wq11 (by decide)
      have k475 := PB_s0 k362 fq14 t_a0 Wq11 (by decide) sc471
      have F476 := Zfr.tr F363 fq14 (by decide)
      obtain ⟨bf2q14, h0ZScq14, r0ZScq14, r1ZScq14, r2ZScq14, r3ZScq14⟩ := pbZScq14
      obtain ⟨bkkq14, h0Zkdq14, h1Zkdq14, tkkq14⟩ := pbZkdq14
      refine wi (fun hq477 => ?_) (fun hq477 => ?_)
      · have := li_4
        have := i_ge q14.1
        have := i_up q14.1
        have hq477 := i_eq hq477
        obtain ⟨w18, ew18⟩ := go_64 Wq14 t_a0
        refine wb ew18 ?_
        obtain ⟨q17, eq17, Wq17, fq17, pbZStq17⟩ := p_Mo_stands hn Wq14  t_a0 (by omega) (by omega) (by omega) (by omega) h0ZScq14 e468
        refine wb eq17 ?_
        have e480 := (Zfr.gi fq17 t_a0 (by decide)).trans e454
        have e481 := (Zfr.gi fq17 t_a0 (by decide)).trans e455
        have e482 := (Zfr.gr fq17 t_a0 (by decide)).trans h0Zkdq14
        have e483 := (Zfr.ai fq17 tqw_1 (by decide)).trans e457
        have e484 := (Zfr.gr fq17 t_a0 (by decide)).trans e458
        have e485 := (Zfr.gr fq17 t_a0 (by decide)).trans e459
        have e486 := (Zfr.gr fq17 t_a0 (by decide)).trans e460
        have e487 := (Zfr.ai fq17 tks0 (by decide)).trans e461
        have e488 := (Zfr.ai fq17 tkl0 (by decide)).trans e462
        have e489 := (Zfr.ai fq17 tkw0 (by decide)).trans e463
        have e490 := (Zfr.gi fq17 t_a0 (by decide)).trans e464
        have e491 := (Zfr.gr fq17 t_a0 (by decide)).trans e465
        have e492 := (Zfr.ai fq17 tv4 (by decide)).trans e466
        have e493 := (Zfr.ai fq17 tv3 (by decide)).trans e467
        have e494 := (Zfr.gi fq17 t_a0 (by decide)).trans e468
        have e495 := (Zfr.ai fq17 tkkq14 (by decide)).trans h1Zkdq14
        have k496 := GtP_fr k469 fq17 t_a0 Wq14 (by decide)
        have sc498 : Sc q14.2 q17 a0 (0) (0) := by
          obtain ⟨yf2, z0y, x0y, x1y, x2y⟩ := pbZStq17
          exact Sc_mk h0ZScq14 z0y e468 ((Zfr.gi (ci := 12) fq17 t_a0 (by decide)).trans e468) e455 ((Zfr.gi (ci := 12) fq17 t_a0 (by decide)).trans e455) (by omega)
        have k497 := WyN_fr k470 fq17 t_a0 Wq14 (by decide) sc498
        have k499 := TbI_fr k472 fq17 t_a0 Wq14 (by decide) sc498
        have k500 := TbC_fr k473 fq17 t_a0 Wq14 (by decide) sc498
        have k501 := TkN_fr k474 fq17 t_a0 Wq14 (by decide)
        have k502 := PB_s0 k475 fq17 t_a0 Wq14 (by decide) sc498
        have F503 := Zfr.tr F476 fq17 (by decide)
        obtain ⟨bf2q17, h0ZStq17, r0ZStq17, r1ZStq17, r2ZStq17⟩ := pbZStq17
        refine wi (fun hq504 => ?_) (fun hq504 => ?_)
        · have := li_100
          have hq504 := i_lt hq504
          unfold f_Mo_variable_108
          refine wb e491 ?_
          refine wb e494 ?_
          obtain ⟨v22, ev22, _⟩ := ga_75 Wq17 tv4 (i := bt2q11) (by omega) (by omega)
          have ht505 := TkM_at (k501 _ _ e482 e491) e495 ev22
          have := tkr4 ht505 (by omega)
          refine wb ev22 ?_
          obtain ⟨w24, ew24⟩ := go_64 Wq17 t_a0
          refine wb ew24 ?_
          obtain ⟨w_507, ew_507, lw_507, uw_507⟩ := gf_64_52 Wq17 t_a0
          have := PB_nm k502 h0ZStq17 ew_507 e494
          have := li_3
          have := i_mull (a := 4) (b := v7) (n := 4) li_4 (by omega) (by omega)
          have := i_add (a := (4 * v7)) (b := v22) (by omega) (by omega)
          obtain ⟨q23, eq23, Wq23, fq23, po0q23⟩ := p_Mo_code hn Wq17 (a1 := 3) (a2 := ((4 * v7) + v22)) t_a0 h0ZStq17 ew_507 (by omega)
          refine wb eq23 ?_
          have e511 := (Zfr.gi fq23 t_a0 (by decide)).trans e480
          have e512 := (Zfr.gi fq23 t_a0 (by decide)).trans e481
          have e513 := (Zfr.gr fq23 t_a0 (by decide)).trans e482
          have e514 := (Zfr.ai fq23 tqw_1 (by decide)).trans e483
          have e515 := (Zfr.gr fq23 t_a0 (by decide)).trans e484
          have e516 := (Zfr.gr fq23 t_a0 (by decide)).trans e485
          have e517 := (Zfr.gr fq23 t_a0 (by decide)).trans e486
          have e518 := (Zfr.ai fq23 tks0 (by decide)).trans e487
          have e519 := (Zfr.ai fq23 tkl0 (by decide)).trans e488
          have e520 := (Zfr.ai fq23 tkw0 (by decide)).trans e489
          have e521 := (Zfr.gi fq23 t_a0 (by decide)).trans e490
          have e522 := (Zfr.gr fq23 t_a0 (by decide)).trans e491
          have e523 := (Zfr.ai fq23 tv4 (by decide)).trans e492
          have e524 := (Zfr.ai fq23 tv3 (by decide)).trans e493
          have e525 := (Zfr.gi fq23 t_a0 (by decide)).trans e494
          have e526 := (Zfr.ai fq23 tkkq14 (by decide)).trans e495
          have e527 := (Zfr.gi fq23 t_a0 (by decide)).trans h0ZStq17
          have e528 := (Zfr.ai fq23 tv4 (by decide)).trans ev22
          have k529 := GtP_cd k496 fq23 t_a0 Wq17 po0q23
          have sc531 := Sc_fr fq23 t_a0 (by decide) (by decide) (by decide)
          have k530 := WyN_fr k497 fq23 t_a0 Wq17 (by decide) sc531
          have k532 := TbI_cd k499 fq23 t_a0 Wq17 po0q23
          have k533 := TbC_cd k500 fq23 t_a0 Wq17 po0q23
          have k534 := TkN_fr k501 fq23 t_a0 Wq17 (by decide)
          have k535 := PB_push k502 fq23 t_a0 Wq17 po0q23 h0ZStq17 (by omega)
          have F536 := Zfr.tr F503 fq23 (by decide)
          obtain ⟨w26, ew26⟩ := go_64 Wq23 t_a0
          refine wb ew26 ?_
          obtain ⟨q25, eq25, Wq25, fq25, pbZSq25⟩ := p_Mo_pass hn Wq23  t_a0 (by omega) (by omega) (by omega) (by omega) e527 e525
          refine wb eq25 ?_
          have e539 := (Zfr.gi fq25 t_a0 (by decide)).trans e511
          have e540 := (Zfr.gi fq25 t_a0 (by decide)).trans e512
          have e541 := (Zfr.gr fq25 t_a0 (by decide)).trans e513
          have e542 := (Zfr.ai fq25 tqw_1 (by decide)).trans e514
          have e543 := (Zfr.gr fq25 t_a0 (by decide)).trans e515
          have e544 := (Zfr.gr fq25 t_a0 (by decide)).trans e516
          have e545 := (Zfr.gr fq25 t_a0 (by decide)).trans e517
          have e546 := (Zfr.ai fq25 tks0 (by decide)).trans e518
          have e547 := (Zfr.ai fq25 tkl0 (by decide)).trans e519
          have e548 := (Zfr.ai fq25 tkw0 (by decide)).trans e520
          have e549 := (Zfr.gi fq25 t_a0 (by decide)).trans e521
          have e550 := (Zfr.gr fq25 t_a0 (by decide)).trans e522
          have e551 := (Zfr.ai fq25 tv4 (by decide)).trans e523
          have e552 := (Zfr.ai fq25 tv3 (by decide)).trans e524
          have e553 := (Zfr.ai fq25 tkkq14 (by decide)).trans e526
          have e554 := (Zfr.ai fq25 tv4 (by decide)).trans e528
          have k555 := GtP_fr k529 fq25 t_a0 Wq23 (by decide)
          have sc557 : Sc q23 q25 a0 (1) (0) := by
            obtain ⟨yf2, yt2, z0y, z1y, x0y, x1y, x2y, x3y, x4y, x5y⟩ := pbZSq25
            exact Sc_mk e527 z0y e525 z1y e512 ((Zfr.gi (ci := 12) fq25 t_a0 (by decide)).trans e512) (by omega)
          have k556 := WyN_fr k530 fq25 t_a0 Wq23 (by decide) sc557
          have k558 := TbI_fr k532 fq25 t_a0 Wq23 (by decide) sc557
          have k559 := TbC_fr k533 fq25 t_a0 Wq23 (by decide) sc557
          have k560 := TkN_fr k534 fq25 t_a0 Wq23 (by decide)
          have k561 := PB_sc k535 fq25 t_a0 Wq23 (by decide) sc557 (by omega)
          have F562 := Zfr.tr F536 fq25 (by decide)
          obtain ⟨bf2q25, bt2q25, h0ZSq25, h1ZSq25, r0ZSq25, r1ZSq25, r2ZSq25, r3ZSq25, r4ZSq25, r5ZSq25⟩ := pbZSq25
          exact ⟨_, rfl, Wq25, F562, ⟨bf2q25, bt2q25, dv, bks0, bkl0, bkw0, bna0, blb0, bnw0, bvn0, e539, h0ZSq25, h1ZSq25, e540, e543, e544, e545, e546, e547, e548, e549, tks0, tkl0, tkw0, by (try dsimp only); omega, by (try dsimp only); omega, by (try dsimp only); omega, by (try dsimp only); omega, by (try dsimp only); omega, by (try dsimp only); omega, by (try dsimp only); omega, by (try dsimp only); omega, by (try dsimp only); omega, by (try dsimp only); omega, by (try dsimp only); omega, by (try dsimp only); omega, by (try dsimp only); omega, by (try dsimp only); omega, by (try dsimp only); omega, by (try dsimp only); omega, by (try dsimp only); omega, by (try dsimp only); omega, by (try dsimp only); omega, by (try dsimp only); omega, k555, k556, k558, k559, k560⟩, PB_m k561 (by omega) (by omega) (by omega) (by omega)⟩
        · have := li_100
          have hq504 := i_nlt hq504
          obtain ⟨v27, ev27, tv27⟩ := gf_64_16 Wq17 t_a0
          refine wb ev27 ?_
          refine wb e494 ?_
          obtain ⟨v29, ev29, _⟩ := ga_76 Wq17 tv27 (i := bt2q11) (by omega) (by omega)
          refine wb ev29 ?_
          obtain ⟨w31, ew31⟩ := go_64 Wq17 t_a0
          refine wb ew31 ?_
          have := li_5
          obtain ⟨q30, eq30, Wq30, fq30, pbZSfq30⟩ := p_Mo_refuse hn Wq17 (a1 := 5) (a2 := v29) t_a0 (by omega) (by omega) (by omega) (by omega) h0ZStq17
          refine wb eq30 ?_
          have e576 := (Zfr.gi fq30 t_a0 (by decide)).trans e480
          have e577 := (Zfr.gi fq30 t_a0 (by decide)).trans e481
          have e578 := (Zfr.gr fq30 t_a0 (by decide)).trans e482
          have e579 := (Zfr.ai fq30 tqw_1 (by decide)).trans e483
          have e580 := (Zfr.gr fq30 t_a0 (by decide)).trans e484
          have e581 := (Zfr.gr fq30 t_a0 (by decide)).trans e485
          have e582 := (Zfr.gr fq30 t_a0 (by decide)).trans e486
          have e583 := (Zfr.ai fq30 tks0 (by decide)).trans e487
          have e584 := (Zfr.ai fq30 tkl0 (by decide)).trans e488
          have e585 := (Zfr.ai fq30 tkw0 (by decide)).trans e489
          have e586 := (Zfr.gi fq30 t_a0 (by decide)).trans e490
          have e587 := (Zfr.gr fq30 t_a0 (by decide)).trans e491
          have e588 := (Zfr.ai fq30 tv4 (by decide)).trans e492
          have e589 := (Zfr.ai fq30 tv3 (by decide)).trans e493
          have e590 := (Zfr.gi fq30 t_a0 (by decide)).trans e494
          have e591 := (Zfr.ai fq30 tkkq14 (by decide)).trans e495
          have e592 := (Zfr.ai fq30 tv27 (by decide)).trans ev29
          have k593 := GtP_fr k496 fq30 t_a0 Wq17 (by decide)
          have sc595 : Sc q17 q30 a0 (0) (0) := by
            obtain ⟨yf2, z0y, x0y, x1y⟩ := pbZSfq30
            exact Sc_mk h0ZStq17 z0y e494 ((Zfr.gi (ci := 12) fq30 t_a0 (by decide)).trans e494) e481 ((Zfr.gi (ci := 12) fq30 t_a0 (by decide)).trans e481) (by omega)
          have k594 := WyN_fr k497 fq30 t_a0 Wq17 (by decide) sc595
          have k596 := TbI_fr k499 fq30 t_a0 Wq17 (by decide) sc595
          have k597 := TbC_fr k500 fq30 t_a0 Wq17 (by decide) sc595
          have k598 := TkN_fr k501 fq30 t_a0 Wq17 (by decide)
          have k599 := PB_s0 k502 fq30 t_a0 Wq17 (by decide) sc595
          have F600 := Zfr.tr F503 fq30 (by decide)
          obtain ⟨bf2q30, h0ZSfq30, r0ZSfq30, r1ZSfq30⟩ := pbZSfq30
          unfold f_Mo_variable_108
          refine wb e587 ?_
          refine wb e590 ?_
          obtain ⟨v22, ev22, _⟩ := ga_75 Wq30 tv4 (i := bt2q11) (by omega) (by omega)
          have ht601 := TkM_at (k598 _ _ e578 e587) e591 ev22
          have := tkr4 ht601 (by omega)
          refine wb ev22 ?_
          obtain ⟨w24, ew24⟩ := go_64 Wq30 t_a0
          refine wb ew24 ?_
          obtain ⟨w_603, ew_603, lw_603, uw_603⟩ := gf_64_52 Wq30 t_a0
          have := PB_nm k599 h0ZSfq30 ew_603 e590
          have := li_3
          have := i_mull (a := 4) (b := v7) (n := 4) li_4 (by omega) (by omega)
          have := i_add (a := (4 * v7)) (b := v22) (by omega) (by omega)
          obtain ⟨q23, eq23, Wq23, fq23, po0q23⟩ := p_Mo_code hn Wq30 (a1 := 3) (a2 := ((4 * v7) + v22)) t_a0 h0ZSfq30 ew_603 (by omega)
          refine wb eq23 ?_
          have e607 := (Zfr.gi fq23 t_a0 (by decide)).trans e576
          have e608 := (Zfr.gi fq23 t_a0 (by decide)).trans e577
          have e609 := (Zfr.gr fq23 t_a0 (by decide)).trans e578
          have e610 := (Zfr.ai fq23 tqw_1 (by decide)).trans e579
          have e611 := (Zfr.gr fq23 t_a0 (by decide)).trans e580
          have e612 := (Zfr.gr fq23 t_a0 (by decide)).trans e581
          have e613 := (Zfr.gr fq23 t_a0 (by decide)).trans e582
          have e614 := (Zfr.ai fq23 tks0 (by decide)).trans e583
          have e615 := (Zfr.ai fq23 tkl0 (by decide)).trans e584
          have e616 := (Zfr.ai fq23 tkw0 (by decide)).trans e585
          have e617 := (Zfr.gi fq23 t_a0 (by decide)).trans e586
          have e618 := (Zfr.gr fq23 t_a0 (by decide)).trans e587
          have e619 := (Zfr.ai fq23 tv4 (by decide)).trans e588
          have e620 := (Zfr.ai fq23 tv3 (by decide)).trans e589
          have e621 := (Zfr.gi fq23 t_a0 (by decide)).trans e590
          have e622 := (Zfr.ai fq23 tkkq14 (by decide)).trans e591
          have e623 := (Zfr.ai fq23 tv27 (by decide)).trans e592
          have e624 := (Zfr.gi fq23 t_a0 (by decide)).trans h0ZSfq30
          have e625 := (Zfr.ai fq23 tv4 (by decide)).trans ev22
          have k626 := GtP_cd k593 fq23 t_a0 Wq30 po0q23
          have sc628 := Sc_fr fq23 t_a0 (by decide) (by decide) (by decide)
          have k627 := WyN_fr k594 fq23 t_a0 Wq30 (by decide) sc628
          have k629 := TbI_cd k596 fq23 t_a0 Wq30 po0q23
          have k630 := TbC_cd k597 fq23 t_a0 Wq30 po0q23
          have k631 := TkN_fr k598 fq23 t_a0 Wq30 (by decide)
          have k632 := PB_push k599 fq23 t_a0 Wq30 po0q23 h0ZSfq30 (by omega)
          have F633 := Zfr.tr F600 fq23 (by decide)
          obtain ⟨w26, ew26⟩ := go_64 Wq23 t_a0
          refine wb ew26 ?_
          obtain ⟨q25, eq25, Wq25, fq25, pbZSq25⟩ := p_Mo_pass hn Wq23  t_a0 (by omega) (by omega) (by omega) (by omega) e624 e621
          refine wb eq25 ?_
          have e636 := (Zfr.gi fq25 t_a0 (by decide)).trans e607
          have e637 := (Zfr.gi fq25 t_a0 (by decide)).trans e608
          have e638 := (Zfr.gr fq25 t_a0 (by decide)).trans e609
          have e639 := (Zfr.ai fq25 tqw_1 (by decide)).trans e610
          have e640 := (Zfr.gr fq25 t_a0 (by decide)).trans e611
          have e641 := (Zfr.gr fq25 t_a0 (by decide)).trans e612
          have e642 := (Zfr.gr fq25 t_a0 (by decide)).trans e613
          have e643 := (Zfr.ai fq25 tks0 (by decide)).trans e614
          have e644 := (Zfr.ai fq25 tkl0 (by decide)).trans e615
          have e645 := (Zfr.ai fq25 tkw0 (by decide)).trans e616
          have e646 := (Zfr.gi fq25 t_a0 (by decide)).trans e617
          have e647 := (Zfr.gr fq25 t_a0 (by decide)).trans e618
          have e648 := (Zfr.ai fq25 tv4 (by decide)).trans e619
          have e649 := (Zfr.ai fq25 tv3 (by decide)).trans e620
          have e650 := (Zfr.ai fq25 tkkq14 (by decide)).trans e622
          have e651 := (Zfr.ai fq25 tv27 (by decide)).trans e623
          have e652 := (Zfr.ai fq25 tv4 (by decide)).trans e625
          have k653 := GtP_fr k626 fq25 t_a0 Wq23 (by decide)
          have sc655 : Sc q23 q25 a0 (1) (0) := by
            obtain ⟨yf2, yt2, z0y, z1y, x0y, x1y, x2y, x3y, x4y, x5y⟩ := pbZSq25
            exact Sc_mk e624 z0y e621 z1y e608 ((Zfr.gi (ci := 12) fq25 t_a0 (by decide)).trans e608) (by omega)
          have k654 := WyN_fr k627 fq25 t_a0 Wq23 (by decide) sc655
          have k656 := TbI_fr k629 fq25 t_a0 Wq23 (by decide) sc655
          have k657 := TbC_fr k630 fq25 t_a0 Wq23 (by decide) sc655
          have k658 := TkN_fr k631 fq25 t_a0 Wq23 (by decide)
          have k659 := PB_sc k632 fq25 t_a0 Wq23 (by decide) sc655 (by omega)
          have F660 := Zfr.tr F633 fq25 (by decide)
          obtain ⟨bf2q25, bt2q25, h0ZSq25, h1ZSq25, r0ZSq25, r1ZSq25, r2ZSq25, r3ZSq25, r4ZSq25, r5ZSq25⟩ := pbZSq25
          exact ⟨_, rfl, Wq25, F660, ⟨bf2q25, bt2q25, dv, bks0, bkl0, bkw0, bna0, blb0, bnw0, bvn0, e636, h0ZSq25, h1ZSq25, e637, e640, e641, e642, e643, e644, e645, e646, tks0, tkl0, tkw0, by (try dsimp only); omega, by (try dsimp only); omega, by (try dsimp only); omega, by (try dsimp only); omega, by (try dsimp only); omega, by (try dsimp only); omega, by (try dsimp only); omega, by (try dsimp only); omega, by (try dsimp only); omega, by (try dsimp only); omega, by (try dsimp only); omega, by (try dsimp only); omega, by (try dsimp only); omega, by (try dsimp only); omega, by (try dsimp only); omega, by (try dsimp only); omega, by (try dsimp only); omega, by (try dsimp only); omega, by (try dsimp only); omega, by (try dsimp only); omega, k653, k654, k656, k657, k658⟩, PB_m k659 (by omega) (by omega) (by omega) (by omega)⟩
      · have := li_4
        have := i_ge q14.1
        have := i_up q14.1
        have hq477 := i_ne hq477
        obtain ⟨w33, ew33⟩ := go_64 Wq14 t_a0
        refine wb ew33 ?_
        obtain ⟨q32, eq32, Wq32, fq32, pbZSfq32⟩ := p_Mo_wrong hn Wq14  t_a0 (by omega) (by omega) (by omega) (by omega) h0ZScq14 e468
        refine wb eq32 ?_
        have e675 := (Zfr.gi fq32 t_a0 (by decide)).trans e454
        have e676 := (Zfr.gi fq32 t_a0 (by decide)).trans e455
        have e677 := (Zfr.gr fq32 t_a0 (by decide)).trans h0Zkdq14
        have e678 := (Zfr.ai fq32 tqw_1 (by decide)).trans e457
        have e679 := (Zfr.gr fq32 t_a0 (by decide)).trans e458
        have e680 := (Zfr.gr fq32 t_a0 (by decide)).trans e459
        have e681 := (Zfr.gr fq32 t_a0 (by decide)).trans e460
        have e682 := (Zfr.ai fq32 tks0 (by decide)).trans e461
        have e683 := (Zfr.ai fq32 tkl0 (by decide)).trans e462
        have e684 := (Zfr.ai fq32 tkw0 (by decide)).trans e463
        have e685 := (Zfr.gi fq32 t_a0 (by decide)).trans e464
        have e686 := (Zfr.gr fq32 t_a0 (by decide)).trans e465
        have e687 := (Zfr.ai fq32 tv4 (by decide)).trans e466
        have e688 := (Zfr.ai fq32 tv3 (by decide)).trans e467
        have e689 := (Zfr.gi fq32 t_a0 (by decide)).trans e468
        have e690 := (Zfr.ai fq32 tkkq14 (by decide)).trans h1Zkdq14
        have k691 := GtP_fr k469 fq32 t_a0 Wq14 (by decide)
        have sc693 : Sc q14.2 q32 a0 (0) (0) := by
          obtain ⟨yf2, z0y, x0y, x1y⟩ := pbZSfq32
          exact Sc_mk h0ZScq14 z0y e468 ((Zfr.gi (ci := 12) fq32 t_a0 (by decide)).trans e468) e455 ((Zfr.gi (ci := 12) fq32 t_a0 (by decide)).trans e455) (by omega)
        have k692 := WyN_fr k470 fq32 t_a0 Wq14 (by decide) sc693
        have k694 := TbI_fr k472 fq32 t_a0 Wq14 (by decide) sc693
        have k695 := TbC_fr k473 fq32 t_a0 Wq14 (by decide) sc693
        have k696 := TkN_fr k474 fq32 t_a0 Wq14 (by decide)
        have k697 := PB_s0 k475 fq32 t_a0 Wq14 (by decide) sc693
        have F698 := Zfr.tr F476 fq32 (by decide)
        obtain ⟨bf2q32, h0ZSfq32, r0ZSfq32, r1ZSfq32⟩ := pbZSfq32
        exact ⟨_, rfl, Wq32, F698, ⟨bf2q32, bt2q11, dv, bks0, bkl0, bkw0, bna0, blb0, bnw0, bvn0, e675, h0ZSfq32, e689, e676, e679, e680, e681, e682, e683, e684, e685, tks0, tkl0, tkw0, by (try dsimp only); omega, by (try dsimp only); omega, by (try dsimp only); omega, by (try dsimp only); omega, by (try dsimp only); omega, by (try dsimp only); omega, by (try dsimp only); omega, by (try dsimp only); omega, by (try dsimp only); omega, by (try dsimp only); omega, by (try dsimp only); omega, by (try dsimp only); omega, by (try dsimp only); omega, by (try dsimp only); omega, by (try dsimp only); omega, by (try dsimp only); omega, by (try dsimp only); omega, by (try dsimp only); omega, by (try dsimp only); omega, by (try dsimp only); omega, k691, k692, k694, k695, k696⟩, PB_flt h0ZSfq32 (by omega)⟩

abbrev M_Mo_relation : List (Nat × Nat) := []
set_option maxRecDepth 100000 in
set_option maxHeartbeats 400000 in
theorem p_Mo_relation {nf : Nat} (hn : 8589934592 ≤ nf) {G : List Nat} {c : Zc} (W : Zwt zty G c) {a0 : Int32}   : ∃ q, f_Mo_relation nf a0 c = some q ∧ Zwt zty G q.2 ∧ Zfr G M_Mo_relation c q.2 ∧ (q.1.toInt = -1 ∨ (10 ≤ q.1.toInt ∧ q.1.toInt ≤ 15)) ∧ (-1) ≤ q.1.toInt ∧ q.1.toInt ≤ 15 := by
  have F0 : Zfr G M_Mo_relation c c := Zfr.rf
  unfold f_Mo_relation
  refine wi (fun hq1 => ?_) (fun hq1 => ?_)
  · have := li_61
    have := i_ge a0
    have := i_up a0
    have hq1 := i_eq hq1
    unfold f_Mo_relation_70
    have := li_10
    exact ⟨_, rfl, W, F0, by (try dsimp only); omega, by (try dsimp only); omega, by (try dsimp only); omega⟩
  · have := li_61
    have := i_ge a0
    have := i_up a0
    have hq1 := i_ne hq1
    refine wi (fun hq2 => ?_) (fun hq2 => ?_)
    · have := li_203
      have hq2 := i_eq hq2
      unfold f_Mo_relation_70
      have := li_11
      exact ⟨_, rfl, W, F0, by (try dsimp only); omega, by (try dsimp only); omega, by (try dsimp only); omega⟩
    · have := li_203
      have hq2 := i_ne hq2
      refine wi (fun hq3 => ?_) (fun hq3 => ?_)
      · have := li_60
        have hq3 := i_eq hq3
        unfold f_Mo_relation_70
        have := li_12
        exact ⟨_, rfl, W, F0, by (try dsimp only); omega, by (try dsimp only); omega, by (try dsimp only); omega⟩
      · have := li_60
        have hq3 := i_ne hq3
        refine wi (fun hq4 => ?_) (fun hq4 => ?_)
        · have := li_204
          have hq4 := i_eq hq4
          unfold f_Mo_relation_70
          have := li_13
          exact ⟨_, rfl, W, F0, by (try dsimp only); omega, by (try dsimp only); omega, by (try dsimp only); omega⟩
        · have := li_204
          have hq4 := i_ne hq4
          refine wi (fun hq5 => ?_) (fun hq5 => ?_)
          · have := li_62
            have hq5 := i_eq hq5
            unfold f_Mo_relation_70
            have := li_14
            exact ⟨_, rfl, W, F0, by (try dsimp only); omega, by (try dsimp only); omega, by (try dsimp only); omega⟩
          · have := li_62
            have hq5 := i_ne hq5
            refine wi (fun hq6 => ?_) (fun hq6 => ?_)
            · have := li_205
              have hq6 := i_eq hq6
              unfold f_Mo_relation_70
              have := li_15
              exact ⟨_, rfl, W, F0, by (try dsimp only); omega, by (try dsimp only); omega, by (try dsimp only); omega⟩
            · have := li_205
              have hq6 := i_ne hq6
              unfold f_Mo_relation_70
              have := li_m1
              exact ⟨_, rfl, W, F0, by (try dsimp only); omega, by (try dsimp only); omega, by (try dsimp only); omega⟩

end ZzT
