section ZzT
abbrev M_Mo_factBegins : List (Nat × Nat) := [(64, 18), (64, 19), (64, 20), (64, 52), (64, 53), (64, 56), (64, 57), (64, 65), (64, 69), (79, 0), (80, 0), (81, 0), (82, 0), (83, 0), (84, 0), (85, 0), (86, 0), (87, 0), (88, 0), (89, 0), (90, 0), (91, 0), (92, 0), (93, 0), (94, 0), (95, 0), (103, 0), (104, 0), (105, 0), (106, 0), (107, 0), (108, 0), (109, 0), (110, 0), (111, 0), (112, 0), (113, 0), (114, 0), (115, 0), (116, 0), (134, 0)]
set_option maxRecDepth 100000 in
set_option maxHeartbeats 4000000 in
theorem p_Mo_factBegins {nf : Nat} (hn : 8589934592 ≤ nf) {G : List Nat} {c : Zc} (W : Zwt zty G c) {a0 : Nat} {a1 : Int32} {ni : Int32} {bc : Int32} {s0 : Nat} {μ : Int} {pv : Int32} {fv : Int32} {tv : Int32} {dv : Int32} {fr : Int32} {ksr : Nat} {sv : Int32} {kg : Nat} {gc : Int32} {kfr : Nat} {f0_ : Int32} (t_a0 : G[a0]? = some 64) (pl_pv : 0 ≤ pv.toInt) (pu_pv : pv.toInt ≤ 8) (pl_fv : 0 ≤ fv.toInt) (pu_fv : fv.toInt ≤ 0) (pl_tv : 0 ≤ tv.toInt) (pu_tv : tv.toInt ≤ 200) (pl_dv : 0 ≤ dv.toInt) (pu_dv : dv.toInt ≤ 11) (pl_fr : 1 ≤ fr.toInt) (pu_fr : fr.toInt ≤ 1000) (pl_a1 : 0 ≤ a1.toInt) (pu_a1 : a1.toInt ≤ 999) (pl_sv : 2 ≤ sv.toInt) (pu_sv : sv.toInt ≤ 2) (pl_gc : 0 ≤ gc.toInt) (pu_gc : gc.toInt ≤ 79) (pl_f0_ : 0 ≤ f0_.toInt) (pu_f0_ : f0_.toInt ≤ 0) (eh_pv : zgi c a0 12 25 = some pv) (eh_fv : zgi c a0 12 19 = some fv) (eh_tv : zgi c a0 12 18 = some tv) (eh_dv : zgi c a0 12 53 = some dv) (eh_fr : zgi c a0 12 69 = some fr) (eh_ksr : zgr c a0 12 66 = some ksr) (eh_sv : zai c ksr 0 a1 = some sv) (eh_kg : zgr c a0 12 28 = some kg) (eh_gc : zai c kg 0 pv = some gc) (eh_kfr : zgr c a0 12 67 = some kfr) (eh_f0_ : zai c kfr 0 a1 = some f0_) (pp_7 : a1.toInt = fr.toInt - 1) (pp_9 : 3 * gc.toInt ≤ tv.toInt) (hb_ZV : ZV G c a0 pv fv tv dv ni bc) (hb_Zpi : Zpi G c a0 s0 μ) : ∃ q, f_Mo_factBegins nf a0 a1 c = some q ∧ Zwt zty G q ∧ Zfr G M_Mo_factBegins c q ∧ ZVg G q a0 pv fv tv dv ni bc ∧ Zpi G q a0 s0 (μ - 1) := by
  have F0 : Zfr G M_Mo_factBegins c c := Zfr.rf
  unfold f_Mo_factBegins
  obtain ⟨xq, xe, tqw_1⟩ := gf_64_66 W t_a0
  rw [eh_ksr] at xe; cases xe
  obtain ⟨xq, xe, tqw_2⟩ := gf_64_28 W t_a0
  rw [eh_kg] at xe; cases xe
  obtain ⟨xq, xe, tqw_3⟩ := gf_64_67 W t_a0
  rw [eh_kfr] at xe; cases xe
  obtain ⟨bks0, bkl0, bkw0, bna0, blb0, bnw0, bvn0, h0ZV0, h1ZV0, h2ZV0, h3ZV0, h4ZV0, h5ZV0, h6ZV0, h7ZV0, h8ZV0, h9ZV0, h10ZV0, tks0, tkl0, tkw0, r0ZV0, r1ZV0, r2ZV0, r3ZV0, r4ZV0, r5ZV0, r6ZV0, r7ZV0, r8ZV0, r9ZV0, r10ZV0, r11ZV0, r12ZV0, r13ZV0, r14ZV0, r15ZV0, r16ZV0, r17ZV0, k0ZV0, k1ZV0, k2ZV0, k3ZV0, k4ZV0⟩ := hb_ZV
  have k0Zpi0 := hb_Zpi
  obtain ⟨w_5, ew_5, tw_5⟩ := gf_64_68 W t_a0
  obtain ⟨w_7, ew_7, _⟩ := ga_116 W tw_5 (i := a1) (by omega) (by omega)
  obtain ⟨okh, pbh, tph⟩ := PI_open k0Zpi0 eh_fv (by omega) eh_fr (by omega) (by omega) eh_ksr eh_sv eh_kfr eh_f0_ ew_5 ew_7
  have tvv := vfi_e eh_tv
  have okn := okh.1
  have okm := okh.2.1
  have okt := okh.2.2
  clear okh
  have wu := w_F (s := sv) (f := f0_) (by omega) (by omega) (by omega)
  have := PB_dp pbh eh_fv eh_dv
  obtain ⟨w2, ew2⟩ := go_64 W t_a0
  refine wb ew2 ?_
  have := li_106
  obtain ⟨q1, eq1, Wq1, fq1, pl0q1, pu0q1, pbZSkq1⟩ := p_Mo_takes hn W (a1 := 106) t_a0 (by omega) (by omega) (by omega) (by omega) h1ZV0 h2ZV0
  refine wb eq1 ?_
  have e10 := (Zfr.gi fq1 t_a0 (by decide)).trans h0ZV0
  have e11 := (Zfr.gi fq1 t_a0 (by decide)).trans h3ZV0
  have e12 := (Zfr.gi fq1 t_a0 (by decide)).trans eh_fr
  have e13 := (Zfr.gr fq1 t_a0 (by decide)).trans eh_ksr
  have e14 := (Zfr.ai fq1 tqw_1 (by decide)).trans eh_sv
  have e15 := (Zfr.gr fq1 t_a0 (by decide)).trans eh_kg
  have e16 := (Zfr.ai fq1 tqw_2 (by decide)).trans eh_gc
  have e17 := (Zfr.gr fq1 t_a0 (by decide)).trans eh_kfr
  have e18 := (Zfr.ai fq1 tqw_3 (by decide)).trans eh_f0_
  have e19 := (Zfr.gr fq1 t_a0 (by decide)).trans h4ZV0
  have e20 := (Zfr.gr fq1 t_a0 (by decide)).trans h5ZV0
  have e21 := (Zfr.gr fq1 t_a0 (by decide)).trans h6ZV0
  have e22 := (Zfr.ai fq1 tks0 (by decide)).trans h7ZV0
  have e23 := (Zfr.ai fq1 tkl0 (by decide)).trans h8ZV0
  have e24 := (Zfr.ai fq1 tkw0 (by decide)).trans h9ZV0
  have e25 := (Zfr.gi fq1 t_a0 (by decide)).trans h10ZV0
  have e26 := (Zfr.gr fq1 t_a0 (by decide)).trans ew_5
  have e27 := (Zfr.ai fq1 tw_5 (by decide)).trans ew_7
  have k28 := GtP_fr k0ZV0 fq1 t_a0 W (by decide)
  have sc30 : Sc c q1.2 a0 (q1.1.toInt) (0) := by
    obtain ⟨yf2, yt2, z0y, z1y, x0y, x1y, x2y, x3y, x4y, x5y, x6y⟩ := pbZSkq1
    exact Sc_mk h1ZV0 z0y h2ZV0 z1y h3ZV0 ((Zfr.gi (ci := 12) fq1 t_a0 (by decide)).trans h3ZV0) (by omega)
  have k29 := WyN_fr k1ZV0 fq1 t_a0 W (by decide) sc30
  have k31 := TbI_fr k2ZV0 fq1 t_a0 W (by decide) sc30
  have k32 := TbC_fr k3ZV0 fq1 t_a0 W (by decide) sc30
  have k33 := TkN_fr k4ZV0 fq1 t_a0 W (by decide)
  have k34 := PB_sc pbh fq1 t_a0 W (by decide) sc30 (by omega)
  have k35 := TpK_fr tph fq1 t_a0 W (by decide)
  have F36 := Zfr.tr F0 fq1 (by decide)
  obtain ⟨bf2q1, bt2q1, h0ZSkq1, h1ZSkq1, r0ZSkq1, r1ZSkq1, r2ZSkq1, r3ZSkq1, r4ZSkq1, r5ZSkq1, r6ZSkq1⟩ := pbZSkq1
  refine wi (fun hq37 => ?_) (fun hq37 => ?_)
  · have := li_0
    have hq37 := i_eq hq37
    obtain ⟨w5, ew5⟩ := go_64 Wq1 t_a0
    refine wb ew5 ?_
    have := li_107
    obtain ⟨q4, eq4, Wq4, fq4, pl0q4, pu0q4, pbZSkq4⟩ := p_Mo_takes hn Wq1 (a1 := 107) t_a0 (by omega) (by omega) (by omega) (by omega) h0ZSkq1 h1ZSkq1
    refine wb eq4 ?_
    have e40 := (Zfr.gi fq4 t_a0 (by decide)).trans e10
    have e41 := (Zfr.gi fq4 t_a0 (by decide)).trans e11
    have e42 := (Zfr.gi fq4 t_a0 (by decide)).trans e12
    have e43 := (Zfr.gr fq4 t_a0 (by decide)).trans e13
    have e44 := (Zfr.ai fq4 tqw_1 (by decide)).trans e14
    have e45 := (Zfr.gr fq4 t_a0 (by decide)).trans e15
    have e46 := (Zfr.ai fq4 tqw_2 (by decide)).trans e16
    have e47 := (Zfr.gr fq4 t_a0 (by decide)).trans e17
    have e48 := (Zfr.ai fq4 tqw_3 (by decide)).trans e18
    have e49 := (Zfr.gr fq4 t_a0 (by decide)).trans e19
    have e50 := (Zfr.gr fq4 t_a0 (by decide)).trans e20
    have e51 := (Zfr.gr fq4 t_a0 (by decide)).trans e21
    have e52 := (Zfr.ai fq4 tks0 (by decide)).trans e22
    have e53 := (Zfr.ai fq4 tkl0 (by decide)).trans e23
    have e54 := (Zfr.ai fq4 tkw0 (by decide)).trans e24
    have e55 := (Zfr.gi fq4 t_a0 (by decide)).trans e25
    have e56 := (Zfr.gr fq4 t_a0 (by decide)).trans e26
    have e57 := (Zfr.ai fq4 tw_5 (by decide)).trans e27
    have k58 := GtP_fr k28 fq4 t_a0 Wq1 (by decide)
    have sc60 : Sc q1.2 q4.2 a0 (q4.1.toInt) (0) := by
      obtain ⟨yf2, yt2, z0y, z1y, x0y, x1y, x2y, x3y, x4y, x5y, x6y⟩ := pbZSkq4
      exact Sc_mk h0ZSkq1 z0y h1ZSkq1 z1y e11 ((Zfr.gi (ci := 12) fq4 t_a0 (by decide)).trans e11) (by omega)
    have k59 := WyN_fr k29 fq4 t_a0 Wq1 (by decide) sc60
    have k61 := TbI_fr k31 fq4 t_a0 Wq1 (by decide) sc60
    have k62 := TbC_fr k32 fq4 t_a0 Wq1 (by decide) sc60
    have k63 := TkN_fr k33 fq4 t_a0 Wq1 (by decide)
    have k64 := PB_sc k34 fq4 t_a0 Wq1 (by decide) sc60 (by omega)
    have k65 := TpK_fr k35 fq4 t_a0 Wq1 (by decide)
    have F66 := Zfr.tr F36 fq4 (by decide)
    obtain ⟨bf2q4, bt2q4, h0ZSkq4, h1ZSkq4, r0ZSkq4, r1ZSkq4, r2ZSkq4, r3ZSkq4, r4ZSkq4, r5ZSkq4, r6ZSkq4⟩ := pbZSkq4
    refine wi (fun hq67 => ?_) (fun hq67 => ?_)
    · have hq67 := i_eq hq67
      obtain ⟨w8, ew8⟩ := go_64 Wq4 t_a0
      refine wb ew8 ?_
      have := li_91
      obtain ⟨q7, eq7, Wq7, fq7, pl0q7, pu0q7, pbZSkq7⟩ := p_Mo_takes hn Wq4 (a1 := 91) t_a0 (by omega) (by omega) (by omega) (by omega) h0ZSkq4 h1ZSkq4
      refine wb eq7 ?_
      have e70 := (Zfr.gi fq7 t_a0 (by decide)).trans e40
      have e71 := (Zfr.gi fq7 t_a0 (by decide)).trans e41
      have e72 := (Zfr.gi fq7 t_a0 (by decide)).trans e42
      have e73 := (Zfr.gr fq7 t_a0 (by decide)).trans e43
      have e74 := (Zfr.ai fq7 tqw_1 (by decide)).trans e44
      have e75 := (Zfr.gr fq7 t_a0 (by decide)).trans e45
      have e76 := (Zfr.ai fq7 tqw_2 (by decide)).trans e46
      have e77 := (Zfr.gr fq7 t_a0 (by decide)).trans e47
      have e78 := (Zfr.ai fq7 tqw_3 (by decide)).trans e48
      have e79 := (Zfr.gr fq7 t_a0 (by decide)).trans e49
      have e80 := (Zfr.gr fq7 t_a0 (by decide)).trans e50
      have e81 := (Zfr.gr fq7 t_a0 (by decide)).trans e51
      have e82 := (Zfr.ai fq7 tks0 (by decide)).trans e52
      have e83 := (Zfr.ai fq7 tkl0 (by decide)).trans e53
      have e84 := (Zfr.ai fq7 tkw0 (by decide)).trans e54
      have e85 := (Zfr.gi fq7 t_a0 (by decide)).trans e55
      have e86 := (Zfr.gr fq7 t_a0 (by decide)).trans e56
      have e87 := (Zfr.ai fq7 tw_5 (by decide)).trans e57
      have k88 := GtP_fr k58 fq7 t_a0 Wq4 (by decide)
      have sc90 : Sc q4.2 q7.2 a0 (q7.1.toInt) (0) := by
        obtain ⟨yf2, yt2, z0y, z1y, x0y, x1y, x2y, x3y, x4y, x5y, x6y⟩ := pbZSkq7
        exact Sc_mk h0ZSkq4 z0y h1ZSkq4 z1y e41 ((Zfr.gi (ci := 12) fq7 t_a0 (by decide)).trans e41) (by omega)
      have k89 := WyN_fr k59 fq7 t_a0 Wq4 (by decide) sc90
      have k91 := TbI_fr k61 fq7 t_a0 Wq4 (by decide) sc90
      have k92 := TbC_fr k62 fq7 t_a0 Wq4 (by decide) sc90
      have k93 := TkN_fr k63 fq7 t_a0 Wq4 (by decide)
      have k94 := PB_sc k64 fq7 t_a0 Wq4 (by decide) sc90 (by omega)
      have k95 := TpK_fr k65 fq7 t_a0 Wq4 (by decide)
      have F96 := Zfr.tr F66 fq7 (by decide)
      obtain ⟨bf2q7, bt2q7, h0ZSkq7, h1ZSkq7, r0ZSkq7, r1ZSkq7, r2ZSkq7, r3ZSkq7, r4ZSkq7, r5ZSkq7, r6ZSkq7⟩ := pbZSkq7
      refine wi (fun hq97 => ?_) (fun hq97 => ?_)
      · have hq97 := i_eq hq97
        refine wb e77 ?_
        obtain ⟨c11, ec11, Wc11, fc11, gc11⟩ := pa_115 Wq7 tqw_3 (i := a1) (by omega) (by omega) (x := 3) (trivial)
        refine wb ec11 ?_
        have e98 := (Zfr.gi fc11 t_a0 (by decide)).trans e70
        have e99 := (Zfr.gi fc11 t_a0 (by decide)).trans e71
        have e100 := (Zfr.gi fc11 t_a0 (by decide)).trans e72
        have e101 := (Zfr.gr fc11 t_a0 (by decide)).trans e73
        have e102 := (Zfr.ai fc11 tqw_1 (by decide)).trans e74
        have e103 := (Zfr.gr fc11 t_a0 (by decide)).trans e75
        have e104 := (Zfr.ai fc11 tqw_2 (by decide)).trans e76
        have e105 := (Zfr.gr fc11 t_a0 (by decide)).trans e77
        have e106 := (Zfr.gr fc11 t_a0 (by decide)).trans e79
        have e107 := (Zfr.gr fc11 t_a0 (by decide)).trans e80
        have e108 := (Zfr.gr fc11 t_a0 (by decide)).trans e81
        have e109 := (Zfr.ai fc11 tks0 (by decide)).trans e82
        have e110 := (Zfr.ai fc11 tkl0 (by decide)).trans e83
        have e111 := (Zfr.ai fc11 tkw0 (by decide)).trans e84
        have e112 := (Zfr.gi fc11 t_a0 (by decide)).trans e85
        have e113 := (Zfr.gr fc11 t_a0 (by decide)).trans e86
        have e114 := (Zfr.ai fc11 tw_5 (by decide)).trans e87
        have e115 := (Zfr.gi fc11 t_a0 (by decide)).trans h0ZSkq7
        have e116 := (Zfr.gi fc11 t_a0 (by decide)).trans h1ZSkq7
        have k117 := GtP_fr k88 fc11 t_a0 Wq7 (by decide)
        have sc119 := Sc_fr fc11 t_a0 (by decide) (by decide) (by decide)
        have k118 := WyN_fr k89 fc11 t_a0 Wq7 (by decide) sc119
        have k120 := TbI_fr k91 fc11 t_a0 Wq7 (by decide) sc119
        have k121 := TbC_fr k92 fc11 t_a0 Wq7 (by decide) sc119
        have k122 := TkN_fr k93 fc11 t_a0 Wq7 (by decide)
        have k123 := PB_w67 k94 Wq7 t_a0 fc11 e77 ec11 rfl
        have k124 := TpK_w67 k95 Wq7 t_a0 fc11 e77 ec11 rfl
        have F125 := Zfr.tr F96 fc11 (by decide)
        obtain ⟨w13, ew13⟩ := go_64 Wc11 t_a0
        refine wb ew13 ?_
        have := li_3
        obtain ⟨q12, eq12, Wq12, fq12, po0q12⟩ := p_Mo_frame hn Wc11 (a1 := 3) t_a0 (by omega) (by omega) e100
        refine wb eq12 ?_
        have e127 := (Zfr.gi fq12 t_a0 (by decide)).trans e98
        have e128 := (Zfr.gi fq12 t_a0 (by decide)).trans e99
        have e129 := (Zfr.gr fq12 t_a0 (by decide)).trans e101
        have e130 := (Zfr.gr fq12 t_a0 (by decide)).trans e103
        have e131 := (Zfr.ai fq12 tqw_2 (by decide)).trans e104
        have e132 := (Zfr.gr fq12 t_a0 (by decide)).trans e105
        have e133 := (Zfr.gr fq12 t_a0 (by decide)).trans e106
        have e134 := (Zfr.gr fq12 t_a0 (by decide)).trans e107
        have e135 := (Zfr.gr fq12 t_a0 (by decide)).trans e108
        have e136 := (Zfr.ai fq12 tks0 (by decide)).trans e109
        have e137 := (Zfr.ai fq12 tkl0 (by decide)).trans e110
        have e138 := (Zfr.ai fq12 tkw0 (by decide)).trans e111
        have e139 := (Zfr.gi fq12 t_a0 (by decide)).trans e112
        have e140 := (Zfr.gr fq12 t_a0 (by decide)).trans e113
        have e141 := (Zfr.gi fq12 t_a0 (by decide)).trans e115
        have e142 := (Zfr.gi fq12 t_a0 (by decide)).trans e116
        have k143 := GtP_fr k117 fq12 t_a0 Wc11 (by decide)
        have sc145 := Sc_fr fq12 t_a0 (by decide) (by decide) (by decide)
        have k144 := WyN_fr k118 fq12 t_a0 Wc11 (by decide) sc145
        have k146 := TbI_fr k120 fq12 t_a0 Wc11 (by decide) sc145
        have k147 := TbC_fr k121 fq12 t_a0 Wc11 (by decide) sc145
        have k148 := TkN_fr k122 fq12 t_a0 Wc11 (by decide)
        have k149 := PI_push k123 k124 (psE (by omega) (by omega) (by omega) (by omega) (by omega) (by omega) (by omega)) (by omega) (by omega) (fun y_ => okt (by omega)) e115 e116 (by omega) fq12 t_a0 Wc11 po0q12 e100 (by omega)
        have F151 := Zfr.tr F125 fq12 (by decide)
        unfold f_Mo_factBegins_94
        exact ⟨_, rfl, Wq12, F151, ⟨bf2q7, bt2q7, dv, bks0, bkl0, bkw0, bna0, blb0, bnw0, bvn0, kg, gc, e127, e141, e142, e128, e133, e134, e135, e136, e137, e138, e139, e130, e131, tks0, tkl0, tkw0, tqw_2, by (try dsimp only); omega, by (try dsimp only); omega, by (try dsimp only); omega, by (try dsimp only); omega, by (try dsimp only); omega, by (try dsimp only); omega, by (try dsimp only); omega, by (try dsimp only); omega, by (try dsimp only); omega, by (try dsimp only); omega, by (try dsimp only); omega, by (try dsimp only); omega, by (try dsimp only); omega, by (try dsimp only); omega, by (try dsimp only); omega, by (try dsimp only); omega, by (try dsimp only); omega, by (try dsimp only); omega, by (try dsimp only); omega, by (try dsimp only); omega, k143, k144, k146, k147, k148⟩, k149⟩
      · have hq97 := i_ne hq97
        obtain ⟨w15, ew15⟩ := go_64 Wq7 t_a0
        refine wb ew15 ?_
        obtain ⟨q14, eq14, Wq14, fq14, pbZSwq14⟩ := p_Mo_within hn Wq7  t_a0 (by omega) (by omega) (by omega) (by omega) (by omega) (by omega) h0ZSkq7 h1ZSkq7 e71
        refine wb eq14 ?_
        have e168 := (Zfr.gi fq14 t_a0 (by decide)).trans e70
        have e169 := (Zfr.gi fq14 t_a0 (by decide)).trans e72
        have e170 := (Zfr.gr fq14 t_a0 (by decide)).trans e73
        have e171 := (Zfr.ai fq14 tqw_1 (by decide)).trans e74
        have e172 := (Zfr.gr fq14 t_a0 (by decide)).trans e75
        have e173 := (Zfr.ai fq14 tqw_2 (by decide)).trans e76
        have e174 := (Zfr.gr fq14 t_a0 (by decide)).trans e77
        have e175 := (Zfr.ai fq14 tqw_3 (by decide)).trans e78
        have e176 := (Zfr.gr fq14 t_a0 (by decide)).trans e79
        have e177 := (Zfr.gr fq14 t_a0 (by decide)).trans e80
        have e178 := (Zfr.gr fq14 t_a0 (by decide)).trans e81
        have e179 := (Zfr.ai fq14 tks0 (by decide)).trans e82
        have e180 := (Zfr.ai fq14 tkl0 (by decide)).trans e83
        have e181 := (Zfr.ai fq14 tkw0 (by decide)).trans e84
        have e182 := (Zfr.gi fq14 t_a0 (by decide)).trans e85
        have e183 := (Zfr.gr fq14 t_a0 (by decide)).trans e86
        have e184 := (Zfr.ai fq14 tw_5 (by decide)).trans e87
        have e185 := (Zfr.gi fq14 t_a0 (by decide)).trans h1ZSkq7
        have k186 := GtP_fr k88 fq14 t_a0 Wq7 (by decide)
        have sc188 : Sc q7.2 q14 a0 (0) (1) := by
          obtain ⟨yf2, yd2, z0y, z1y, x0y, x1y, x2y, x3y, x4y, x5y⟩ := pbZSwq14
          exact Sc_mk h0ZSkq7 z0y h1ZSkq7 ((Zfr.gi (ci := 12) fq14 t_a0 (by decide)).trans h1ZSkq7) e71 z1y (by omega)
        have k187 := WyN_fr k89 fq14 t_a0 Wq7 (by decide) sc188
        have k189 := TbI_fr k91 fq14 t_a0 Wq7 (by decide) sc188
        have k190 := TbC_fr k92 fq14 t_a0 Wq7 (by decide) sc188
        have k191 := TkN_fr k93 fq14 t_a0 Wq7 (by decide)
        have k192 := PB_sc k94 fq14 t_a0 Wq7 (by decide) sc188 (by omega)
        have k193 := TpK_fr k95 fq14 t_a0 Wq7 (by decide)
        have F194 := Zfr.tr F96 fq14 (by decide)
        obtain ⟨bf2q14, bd2q14, h0ZSwq14, h1ZSwq14, r0ZSwq14, r1ZSwq14, r2ZSwq14, r3ZSwq14, r4ZSwq14, r5ZSwq14⟩ := pbZSwq14
        refine wb e174 ?_
        obtain ⟨c17, ec17, Wc17, fc17, gc17⟩ := pa_115 Wq14 tqw_3 (i := a1) (by omega) (by omega) (x := 2) (trivial)
        refine wb ec17 ?_
        have e195 := (Zfr.gi fc17 t_a0 (by decide)).trans e168
        have e196 := (Zfr.gi fc17 t_a0 (by decide)).trans e169
        have e197 := (Zfr.gr fc17 t_a0 (by decide)).trans e170
        have e198 := (Zfr.ai fc17 tqw_1 (by decide)).trans e171
        have e199 := (Zfr.gr fc17 t_a0 (by decide)).trans e172
        have e200 := (Zfr.ai fc17 tqw_2 (by decide)).trans e173
        have e201 := (Zfr.gr fc17 t_a0 (by decide)).trans e174
        have e202 := (Zfr.gr fc17 t_a0 (by decide)).trans e176
        have e203 := (Zfr.gr fc17 t_a0 (by decide)).trans e177
        have e204 := (Zfr.gr fc17 t_a0 (by decide)).trans e178
        have e205 := (Zfr.ai fc17 tks0 (by decide)).trans e179
        have e206 := (Zfr.ai fc17 tkl0 (by decide)).trans e180
        have e207 := (Zfr.ai fc17 tkw0 (by decide)).trans e181
        have e208 := (Zfr.gi fc17 t_a0 (by decide)).trans e182
        have e209 := (Zfr.gr fc17 t_a0 (by decide)).trans e183
        have e210 := (Zfr.ai fc17 tw_5 (by decide)).trans e184
        have e211 := (Zfr.gi fc17 t_a0 (by decide)).trans e185
        have e212 := (Zfr.gi fc17 t_a0 (by decide)).trans h0ZSwq14
        have e213 := (Zfr.gi fc17 t_a0 (by decide)).trans h1ZSwq14
        have k214 := GtP_fr k186 fc17 t_a0 Wq14 (by decide)
        have sc216 := Sc_fr fc17 t_a0 (by decide) (by decide) (by decide)
        have k215 := WyN_fr k187 fc17 t_a0 Wq14 (by decide) sc216
        have k217 := TbI_fr k189 fc17 t_a0 Wq14 (by decide) sc216
        have k218 := TbC_fr k190 fc17 t_a0 Wq14 (by decide) sc216
        have k219 := TkN_fr k191 fc17 t_a0 Wq14 (by decide)
        have k220 := PB_w67 k192 Wq14 t_a0 fc17 e174 ec17 rfl
        have k221 := TpK_w67 k193 Wq14 t_a0 fc17 e174 ec17 rfl
        have F222 := Zfr.tr F194 fc17 (by decide)
        obtain ⟨w19, ew19⟩ := go_64 Wc17 t_a0
        refine wb ew19 ?_
        obtain ⟨q18, eq18, Wq18, fq18, po0q18⟩ := p_Mo_frame hn Wc17 (a1 := 0) t_a0 (by omega) (by omega) e196
        refine wb eq18 ?_
        have e224 := (Zfr.gi fq18 t_a0 (by decide)).trans e195
        have e225 := (Zfr.gr fq18 t_a0 (by decide)).trans e197
        have e226 := (Zfr.gr fq18 t_a0 (by decide)).trans e199
        have e227 := (Zfr.ai fq18 tqw_2 (by decide)).trans e200
        have e228 := (Zfr.gr fq18 t_a0 (by decide)).trans e201
        have e229 := (Zfr.gr fq18 t_a0 (by decide)).trans e202
        have e230 := (Zfr.gr fq18 t_a0 (by decide)).trans e203
        have e231 := (Zfr.gr fq18 t_a0 (by decide)).trans e204
        have e232 := (Zfr.ai fq18 tks0 (by decide)).trans e205
        have e233 := (Zfr.ai fq18 tkl0 (by decide)).trans e206
        have e234 := (Zfr.ai fq18 tkw0 (by decide)).trans e207
        have e235 := (Zfr.gi fq18 t_a0 (by decide)).trans e208
        have e236 := (Zfr.gr fq18 t_a0 (by decide)).trans e209
        have e237 := (Zfr.gi fq18 t_a0 (by decide)).trans e211
        have e238 := (Zfr.gi fq18 t_a0 (by decide)).trans e212
        have e239 := (Zfr.gi fq18 t_a0 (by decide)).trans e213
        have k240 := GtP_fr k214 fq18 t_a0 Wc17 (by decide)
        have sc242 := Sc_fr fq18 t_a0 (by decide) (by decide) (by decide)
        have k241 := WyN_fr k215 fq18 t_a0 Wc17 (by decide) sc242
        have k243 := TbI_fr k217 fq18 t_a0 Wc17 (by decide) sc242
        have k244 := TbC_fr k218 fq18 t_a0 Wc17 (by decide) sc242
        have k245 := TkN_fr k219 fq18 t_a0 Wc17 (by decide)
        have := li_2
        have k246 := PI_push k220 k221 (psB (by omega) (by omega) (by omega) (by omega) (by omega) (by omega) (by omega)) (by omega) (by omega) (fun y_ => okt (by omega)) e212 e211 (by omega) fq18 t_a0 Wc17 po0q18 e196 (by omega)
        have F248 := Zfr.tr F222 fq18 (by decide)
        unfold f_Mo_factBegins_94
        exact ⟨_, rfl, Wq18, F248, ⟨bf2q14, bt2q7, bd2q14, bks0, bkl0, bkw0, bna0, blb0, bnw0, bvn0, kg, gc, e224, e238, e237, e239, e229, e230, e231, e232, e233, e234, e235, e226, e227, tks0, tkl0, tkw0, tqw_2, by (try dsimp only); omega, by (try dsimp only); omega, by (try dsimp only); omega, by (try dsimp only); omega, by (try dsimp only); omega, by (try dsimp only); omega, by (try dsimp only); omega, by (try dsimp only); omega, by (try dsimp only); omega, by (try dsimp only); omega, by (try dsimp only); omega, by (try dsimp only); omega, by (try dsimp only); omega, by (try dsimp only); omega, by (try dsimp only); omega, by (try dsimp only); omega, by (try dsimp only); omega, by (try dsimp only); omega, by (try dsimp only); omega, by (try dsimp only); omega, k240, k241, k243, k244, k245⟩, k246⟩
    · have hq67 := i_ne hq67
      obtain ⟨w21, ew21⟩ := go_64 Wq4 t_a0
      refine wb ew21 ?_
      obtain ⟨q20, eq20, Wq20, fq20, pbZVqq20, pbZPBq20, pbZgcq20⟩ := p_Mo_without hn Wq4 (ni := ni) (bc := bc) (s0 := s0) (gk := a1.toInt.toNat) (δ := (dl sv.toInt f0_.toInt)) (τ := (((1 + fw2 sv.toInt f0_.toInt) + q1.1.toInt) + q4.1.toInt)) (ε := (((fw3 sv.toInt f0_.toInt) + 0) + 0)) (π := (((ph sv.toInt f0_.toInt + 1) + 16 * q1.1.toInt) + 16 * q4.1.toInt)) (μ := μ) t_a0 (by omega) (by omega) (by omega) (by omega) (by omega) (by omega) (by omega) (by omega) (by omega) (by omega) e40 h0ZSkq4 h1ZSkq4 e41 e45 e46 (by omega) (by omega) ⟨bks0, bkl0, bkw0, bna0, blb0, bnw0, bvn0, e40, h0ZSkq4, h1ZSkq4, e41, e49, e50, e51, e52, e53, e54, e55, tks0, tkl0, tkw0, by (try dsimp only); omega, by (try dsimp only); omega, by (try dsimp only); omega, by (try dsimp only); omega, by (try dsimp only); omega, by (try dsimp only); omega, by (try dsimp only); omega, by (try dsimp only); omega, by (try dsimp only); omega, by (try dsimp only); omega, by (try dsimp only); omega, by (try dsimp only); omega, by (try dsimp only); omega, by (try dsimp only); omega, by (try dsimp only); omega, by (try dsimp only); omega, by (try dsimp only); omega, by (try dsimp only); omega, k58, k59, k61, k62, k63⟩ k64
      refine wb eq20 ?_
      have e279 := (Zfr.gi fq20 t_a0 (by decide)).trans e40
      have e280 := (Zfr.gi fq20 t_a0 (by decide)).trans e42
      have e281 := (Zfr.gr fq20 t_a0 (by decide)).trans e43
      have e282 := (Zfr.ai fq20 tqw_1 (by decide)).trans e44
      have e283 := (Zfr.gr fq20 t_a0 (by decide)).trans e45
      have e284 := (Zfr.gr fq20 t_a0 (by decide)).trans e47
      have e285 := (Zfr.ai fq20 tqw_3 (by decide)).trans e48
      have e286 := (Zfr.gr fq20 t_a0 (by decide)).trans e49
      have e287 := (Zfr.gr fq20 t_a0 (by decide)).trans e50
      have e288 := (Zfr.gr fq20 t_a0 (by decide)).trans e51
      have e289 := (Zfr.gr fq20 t_a0 (by decide)).trans e56
      have e290 := (Zfr.ai fq20 tw_5 (by decide)).trans e57
      have k291 := TpK_fr k65 fq20 t_a0 Wq4 (by decide)
      have F292 := Zfr.tr F66 fq20 (by decide)
      have := li_2
      obtain ⟨bf2q20, bt2q20, bd2q20, bksq20, bklq20, bkwq20, bnaq20, blbq20, bnwq20, bvnq20, h0ZVqq20, h1ZVqq20, h2ZVqq20, h3ZVqq20, h4ZVqq20, h5ZVqq20, h6ZVqq20, h7ZVqq20, h8ZVqq20, h9ZVqq20, h10ZVqq20, tksq20, tklq20, tkwq20, r0ZVqq20, r1ZVqq20, r2ZVqq20, r3ZVqq20, r4ZVqq20, r5ZVqq20, r6ZVqq20, r7ZVqq20, r8ZVqq20, r9ZVqq20, r10ZVqq20, r11ZVqq20, r12ZVqq20, r13ZVqq20, r14ZVqq20, r15ZVqq20, r16ZVqq20, r17ZVqq20, r18ZVqq20, r19ZVqq20, k0ZVqq20, k1ZVqq20, k2ZVqq20, k3ZVqq20, k4ZVqq20⟩ := pbZVqq20
      have k0ZPBq20 := pbZPBq20
      obtain ⟨bkgq20, bg2q20, h0Zgcq20, h1Zgcq20, h2Zgcq20, tkgq20, r0Zgcq20, r1Zgcq20⟩ := pbZgcq20
      refine wb e280 ?_
      have := li_1
      have := i_sub (a := fr) (b := 1) (by omega) (by omega)
      obtain ⟨c23, ec23, Wc23, fc23, gc23⟩ := pf_64_69 Wq20 t_a0 (x := (fr - 1)) (rgi (by omega) (by omega))
      refine wb ec23 ?_
      have e293 := (Zfr.gi fc23 t_a0 (by decide)).trans h0Zgcq20
      have e294 := (Zfr.gr fc23 t_a0 (by decide)).trans e281
      have e295 := (Zfr.ai fc23 tqw_1 (by decide)).trans e282
      have e296 := (Zfr.gr fc23 t_a0 (by decide)).trans h1Zgcq20
      have e297 := (Zfr.gr fc23 t_a0 (by decide)).trans e284
      have e298 := (Zfr.ai fc23 tqw_3 (by decide)).trans e285
      have e299 := (Zfr.gr fc23 t_a0 (by decide)).trans h4ZVqq20
      have e300 := (Zfr.gr fc23 t_a0 (by decide)).trans h5ZVqq20
      have e301 := (Zfr.gr fc23 t_a0 (by decide)).trans h6ZVqq20
      have e302 := (Zfr.gr fc23 t_a0 (by decide)).trans e289
      have e303 := (Zfr.ai fc23 tw_5 (by decide)).trans e290
      have e304 := (Zfr.gi fc23 t_a0 (by decide)).trans h1ZVqq20
      have e305 := (Zfr.gi fc23 t_a0 (by decide)).trans h2ZVqq20
      have e306 := (Zfr.gi fc23 t_a0 (by decide)).trans h3ZVqq20
      have e307 := (Zfr.ai fc23 tksq20 (by decide)).trans h7ZVqq20
      have e308 := (Zfr.ai fc23 tklq20 (by decide)).trans h8ZVqq20
      have e309 := (Zfr.ai fc23 tkwq20 (by decide)).trans h9ZVqq20
      have e310 := (Zfr.gi fc23 t_a0 (by decide)).trans h10ZVqq20
      have e311 := (Zfr.ai fc23 tkgq20 (by decide)).trans h2Zgcq20
      have k312 := TpK_fr k291 fc23 t_a0 Wq20 (by decide)
      have k313 := GtP_fr k0ZVqq20 fc23 t_a0 Wq20 (by decide)
      have sc315 := Sc_fr fc23 t_a0 (by decide) (by decide) (by decide)
      have k314 := WyN_fr k1ZVqq20 fc23 t_a0 Wq20 (by decide) sc315
      have k316 := TbI_fr k2ZVqq20 fc23 t_a0 Wq20 (by decide) sc315
      have k317 := TbC_fr k3ZVqq20 fc23 t_a0 Wq20 (by decide) sc315
      have k318 := TkN_fr k4ZVqq20 fc23 t_a0 Wq20 (by decide)
      have k319 := PB_s0 k0ZPBq20 fc23 t_a0 Wq20 (by decide) sc315
      have F320 := Zfr.tr F292 fc23 (by decide)
      unfold f_Mo_factBegins_94
      exact ⟨_, rfl, Wc23, F320, ⟨bf2q20, bt2q20, bd2q20, bksq20, bklq20, bkwq20, bnaq20, blbq20, bnwq20, bvnq20, bkgq20, bg2q20, e293, e304, e305, e306, e299, e300, e301, e307, e308, e309, e310, e296, e311, tksq20, tklq20, tkwq20, tkgq20, by (try dsimp only); omega, by (try dsimp only); omega, by (try dsimp only); omega, by (try dsimp only); omega, by (try dsimp only); omega, by (try dsimp only); omega, by (try dsimp only); omega, by (try dsimp only); omega, by (try dsimp only); omega, by (try dsimp only); omega, by (try dsimp only); omega, by (try dsimp only); omega, by (try dsimp only); omega, by (try dsimp only); omega, by (try dsimp only); omega, by (try dsimp only); omega, by (try dsimp only); omega, by (try dsimp only); omega, by (try dsimp only); omega, by (try dsimp only); omega, k313, k314, k316, k317, k318⟩, PI_pop k319 (by omega) (by omega) (by omega) (by omega) gc23 (by omega) (by omega)⟩
  · have := li_0
    have hq37 := i_ne hq37
    obtain ⟨w25, ew25⟩ := go_64 Wq1 t_a0
    refine wb ew25 ?_
    obtain ⟨q24, eq24, Wq24, fq24, pbZSwq24⟩ := p_Mo_within hn Wq1  t_a0 (by omega) (by omega) (by omega) (by omega) (by omega) (by omega) h0ZSkq1 h1ZSkq1 e11
    refine wb eq24 ?_
    have e339 := (Zfr.gi fq24 t_a0 (by decide)).trans e10
    have e340 := (Zfr.gi fq24 t_a0 (by decide)).trans e12
    have e341 := (Zfr.gr fq24 t_a0 (by decide)).trans e13
    have e342 := (Zfr.ai fq24 tqw_1 (by decide)).trans e14
    have e343 := (Zfr.gr fq24 t_a0 (by decide)).trans e15
    have e344 := (Zfr.ai fq24 tqw_2 (by decide)).trans e16
    have e345 := (Zfr.gr fq24 t_a0 (by decide)).trans e17
    have e346 := (Zfr.ai fq24 tqw_3 (by decide)).trans e18
    have e347 := (Zfr.gr fq24 t_a0 (by decide)).trans e19
    have e348 := (Zfr.gr fq24 t_a0 (by decide)).trans e20
    have e349 := (Zfr.gr fq24 t_a0 (by decide)).trans e21
    have e350 := (Zfr.ai fq24 tks0 (by decide)).trans e22
    have e351 := (Zfr.ai fq24 tkl0 (by decide)).trans e23
    have e352 := (Zfr.ai fq24 tkw0 (by decide)).trans e24
    have e353 := (Zfr.gi fq24 t_a0 (by decide)).trans e25
    have e354 := (Zfr.gr fq24 t_a0 (by decide)).trans e26
    have e355 := (Zfr.ai fq24 tw_5 (by decide)).trans e27
    have e356 := (Zfr.gi fq24 t_a0 (by decide)).trans h1ZSkq1
    have k357 := GtP_fr k28 fq24 t_a0 Wq1 (by decide)
    have sc359 : Sc q1.2 q24 a0 (0) (1) := by
      obtain ⟨yf2, yd2, z0y, z1y, x0y, x1y, x2y, x3y, x4y, x5y⟩ := pbZSwq24
      exact Sc_mk h0ZSkq1 z0y h1ZSkq1 ((Zfr.gi (ci := 12) fq24 t_a0 (by decide)).trans h1ZSkq1) e11 z1y (by omega)
    have k358 := WyN_fr k29 fq24 t_a0 Wq1 (by decide) sc359
    have k360 := TbI_fr k31 fq24 t_a0 Wq1 (by decide) sc359
    have k361 := TbC_fr k32 fq24 t_a0 Wq1 (by decide) sc359
    have k362 := TkN_fr k33 fq24 t_a0 Wq1 (by decide)
    have k363 := PB_sc k34 fq24 t_a0 Wq1 (by decide) sc359 (by omega)
    have k364 := TpK_fr k35 fq24 t_a0 Wq1 (by decide)
    have F365 := Zfr.tr F36 fq24 (by decide)
    obtain ⟨bf2q24, bd2q24, h0ZSwq24, h1ZSwq24, r0ZSwq24, r1ZSwq24, r2ZSwq24, r3ZSwq24, r4ZSwq24, r5ZSwq24⟩ := pbZSwq24
    refine wb e345 ?_
    obtain ⟨c27, ec27, Wc27, fc27, gc27⟩ := pa_115 Wq24 tqw_3 (i := a1) (by omega) (by omega) (x := 1) (trivial)
    refine wb ec27 ?_
    have e366 := (Zfr.gi fc27 t_a0 (by decide)).trans e339
    have e367 := (Zfr.gi fc27 t_a0 (by decide)).trans e340
    have e368 := (Zfr.gr fc27 t_a0 (by decide)).trans e341
    have e369 := (Zfr.ai fc27 tqw_1 (by decide)).trans e342
    have e370 := (Zfr.gr fc27 t_a0 (by decide)).trans e343
    have e371 := (Zfr.ai fc27 tqw_2 (by decide)).trans e344
    have e372 := (Zfr.gr fc27 t_a0 (by decide)).trans e345
    have e373 := (Zfr.gr fc27 t_a0 (by decide)).trans e347
    have e374 := (Zfr.gr fc27 t_a0 (by decide)).trans e348
    have e375 := (Zfr.gr fc27 t_a0 (by decide)).trans e349
    have e376 := (Zfr.ai fc27 tks0 (by decide)).trans e350
    have e377 := (Zfr.ai fc27 tkl0 (by decide)).trans e351
    have e378 := (Zfr.ai fc27 tkw0 (by decide)).trans e352
    have e379 := (Zfr.gi fc27 t_a0 (by decide)).trans e353
    have e380 := (Zfr.gr fc27 t_a0 (by decide)).trans e354
    have e381 := (Zfr.ai fc27 tw_5 (by decide)).trans e355
    have e382 := (Zfr.gi fc27 t_a0 (by decide)).trans e356
    have e383 := (Zfr.gi fc27 t_a0 (by decide)).trans h0ZSwq24
    have e384 := (Zfr.gi fc27 t_a0 (by decide)).trans h1ZSwq24
    have k385 := GtP_fr k357 fc27 t_a0 Wq24 (by decide)
    have sc387 := Sc_fr fc27 t_a0 (by decide) (by decide) (by decide)
    have k386 := WyN_fr k358 fc27 t_a0 Wq24 (by decide) sc387
    have k388 := TbI_fr k360 fc27 t_a0 Wq24 (by decide) sc387
    have k389 := TbC_fr k361 fc27 t_a0 Wq24 (by decide) sc387
    have k390 := TkN_fr k362 fc27 t_a0 Wq24 (by decide)
    have k391 := PB_w67 k363 Wq24 t_a0 fc27 e345 ec27 rfl
    have k392 := TpK_w67 k364 Wq24 t_a0 fc27 e345 ec27 rfl
    have F393 := Zfr.tr F365 fc27 (by decide)
    obtain ⟨w29, ew29⟩ := go_64 Wc27 t_a0
    refine wb ew29 ?_
    have := li_2
    obtain ⟨q28, eq28, Wq28, fq28, po0q28⟩ := p_Mo_frame hn Wc27 (a1 := 2) t_a0 (by omega) (by omega) e367
    refine wb eq28 ?_
    have e395 := (Zfr.gi fq28 t_a0 (by decide)).trans e366
    have e396 := (Zfr.gr fq28 t_a0 (by decide)).trans e368
    have e397 := (Zfr.gr fq28 t_a0 (by decide)).trans e370
    have e398 := (Zfr.ai fq28 tqw_2 (by decide)).trans e371
    have e399 := (Zfr.gr fq28 t_a0 (by decide)).trans e372
    have e400 := (Zfr.gr fq28 t_a0 (by decide)).trans e373
    have e401 := (Zfr.gr fq28 t_a0 (by decide)).trans e374
    have e402 := (Zfr.gr fq28 t_a0 (by decide)).trans e375
    have e403 := (Zfr.ai fq28 tks0 (by decide)).trans e376
    have e404 := (Zfr.ai fq28 tkl0 (by decide)).trans e377
    have e405 := (Zfr.ai fq28 tkw0 (by decide)).trans e378
    have e406 := (Zfr.gi fq28 t_a0 (by decide)).trans e379
    have e407 := (Zfr.gr fq28 t_a0 (by decide)).trans e380
    have e408 := (Zfr.gi fq28 t_a0 (by decide)).trans e382
    have e409 := (Zfr.gi fq28 t_a0 (by decide)).trans e383
    have e410 := (Zfr.gi fq28 t_a0 (by decide)).trans e384
    have k411 := GtP_fr k385 fq28 t_a0 Wc27 (by decide)
    have sc413 := Sc_fr fq28 t_a0 (by decide) (by decide) (by decide)
    have k412 := WyN_fr k386 fq28 t_a0 Wc27 (by decide) sc413
    have k414 := TbI_fr k388 fq28 t_a0 Wc27 (by decide) sc413
    have k415 := TbC_fr k389 fq28 t_a0 Wc27 (by decide) sc413
    have k416 := TkN_fr k390 fq28 t_a0 Wc27 (by decide)
    have := li_1
    have k417 := PI_push k391 k392 (psN (by omega) (by omega) (by omega) (by omega) (by omega) (by omega) (by omega)) (by omega) (by omega) (fun y_ => okt (by omega)) e383 e382 (by omega) fq28 t_a0 Wc27 po0q28 e367 (by omega)
    have F419 := Zfr.tr F393 fq28 (by decide)
    unfold f_Mo_factBegins_94
    exact ⟨_, rfl, Wq28, F419, ⟨bf2q24, bt2q1, bd2q24, bks0, bkl0, bkw0, bna0, blb0, bnw0, bvn0, kg, gc, e395, e409, e408, e410, e400, e401, e402, e403, e404, e405, e406, e397, e398, tks0, tkl0, tkw0, tqw_2, by (try dsimp only); omega, by (try dsimp only); omega, by (try dsimp only); omega, by (try dsimp only); omega, by (try dsimp only); omega, by (try dsimp only); omega, by (try dsimp only); omega, by (try dsimp only); omega, by (try dsimp only); omega, by (try dsimp only); omega, by (try dsimp only); omega, by (try dsimp only); omega, by (try dsimp only); omega, by (try dsimp only); omega, by (try dsimp only); omega, by (try dsimp only); omega, by (try dsimp only); omega, by (try dsimp only); omega, by (try dsimp only); omega, by (try dsimp only); omega, k411, k412, k414, k415, k416⟩, k417⟩

abbrev M_Mo_fact : List (Nat × Nat) := [(64, 18), (64, 19), (64, 20), (64, 52), (64, 53), (64, 56), (64, 57), (64, 65), (64, 69), (79, 0), (80, 0), (81, 0), (82, 0), (83, 0), (84, 0), (85, 0), (86, 0), (87, 0), (88, 0), (89, 0), (90, 0), (91, 0), (92, 0), (93, 0), (94, 0), (95, 0), (103, 0), (104, 0), (105, 0), (106, 0), (107, 0), (108, 0), (109, 0), (110, 0), (111, 0), (112, 0), (113, 0), (114, 0), (115, 0), (116, 0), (134, 0)]
set_option maxRecDepth 100000 in
set_option maxHeartbeats 4000000 in
theorem p_Mo_fact {nf : Nat} (hn : 8589934592 ≤ nf) {G : List Nat} {c : Zc} (W : Zwt zty G c) {a0 : Nat} {a1 : Int32} {ni : Int32} {bc : Int32} {s0 : Nat} {μ : Int} {pv : Int32} {fv : Int32} {tv : Int32} {dv : Int32} {fr : Int32} {ksr : Nat} {sv : Int32} {kg : Nat} {gc : Int32} (t_a0 : G[a0]? = some 64) (pl_pv : 0 ≤ pv.toInt) (pu_pv : pv.toInt ≤ 8) (pl_fv : 0 ≤ fv.toInt) (pu_fv : fv.toInt ≤ 0) (pl_tv : 0 ≤ tv.toInt) (pu_tv : tv.toInt ≤ 200) (pl_dv : 0 ≤ dv.toInt) (pu_dv : dv.toInt ≤ 11) (pl_fr : 1 ≤ fr.toInt) (pu_fr : fr.toInt ≤ 1000) (pl_a1 : 0 ≤ a1.toInt) (pu_a1 : a1.toInt ≤ 999) (pl_sv : 2 ≤ sv.toInt) (pu_sv : sv.toInt ≤ 2) (pl_gc : 0 ≤ gc.toInt) (pu_gc : gc.toInt ≤ 79) (eh_pv : zgi c a0 12 25 = some pv) (eh_fv : zgi c a0 12 19 = some fv) (eh_tv : zgi c a0 12 18 = some tv) (eh_dv : zgi c a0 12 53 = some dv) (eh_fr : zgi c a0 12 69 = some fr) (eh_ksr : zgr c a0 12 66 = some ksr) (eh_sv : zai c ksr 0 a1 = some sv) (eh_kg : zgr c a0 12 28 = some kg) (eh_gc : zai c kg 0 pv = some gc) (pp_7 : a1.toInt = fr.toInt - 1) (pp_9 : 3 * gc.toInt ≤ tv.toInt) (hb_ZV : ZV G c a0 pv fv tv dv ni bc) (hb_Zpi : Zpi G c a0 s0 μ) : ∃ q, f_Mo_fact nf a0 a1 c = some q ∧ Zwt zty G q ∧ Zfr G M_Mo_fact c q ∧ ZVg G q a0 pv fv tv dv ni bc ∧ Zpi G q a0 s0 (μ - 1) := by
  have F0 : Zfr G M_Mo_fact c c := Zfr.rf
  unfold f_Mo_fact
  obtain ⟨xq, xe, tqw_1⟩ := gf_64_66 W t_a0
  rw [eh_ksr] at xe; cases xe
  obtain ⟨xq, xe, tqw_2⟩ := gf_64_28 W t_a0
  rw [eh_kg] at xe; cases xe
  obtain ⟨bks0, bkl0, bkw0, bna0, blb0, bnw0, bvn0, h0ZV0, h1ZV0, h2ZV0, h3ZV0, h4ZV0, h5ZV0, h6ZV0, h7ZV0, h8ZV0, h9ZV0, h10ZV0, tks0, tkl0, tkw0, r0ZV0, r1ZV0, r2ZV0, r3ZV0, r4ZV0, r5ZV0, r6ZV0, r7ZV0, r8ZV0, r9ZV0, r10ZV0, r11ZV0, r12ZV0, r13ZV0, r14ZV0, r15ZV0, r16ZV0, r17ZV0, k0ZV0, k1ZV0, k2ZV0, k3ZV0, k4ZV0⟩ := hb_ZV
  have k0Zpi0 := hb_Zpi
  obtain ⟨w_3, ew_3, tw_3⟩ := gf_64_67 W t_a0
  obtain ⟨w_4, ew_4, tw_4⟩ := gf_64_68 W t_a0
  obtain ⟨w_5, ew_5, _⟩ := ga_115 W tw_3 (i := a1) (by omega) (by omega)
  obtain ⟨w_6, ew_6, _⟩ := ga_116 W tw_4 (i := a1) (by omega) (by omega)
  obtain ⟨okh, pbh, tph⟩ := PI_open k0Zpi0 eh_fv (by omega) eh_fr (by omega) (by omega) eh_ksr eh_sv ew_3 ew_5 ew_4 ew_6
  have tvv := vfi_e eh_tv
  have okn := okh.1
  have okm := okh.2.1
  have okt := okh.2.2
  clear okh
  have wu := w_F (s := sv) (f := w_5) (by omega) (by omega) (by omega)
  have := PB_dp pbh eh_fv eh_dv
  refine wb ew_3 ?_
  refine wb ew_5 ?_
  refine wi (fun hq7 => ?_) (fun hq7 => ?_)
  · have := li_0
    have hq7 := i_eq hq7
    obtain ⟨w5, ew5⟩ := go_64 W t_a0
    refine wb ew5 ?_
    obtain ⟨q4, eq4, Wq4, fq4, pbZVgq4, pbZpiq4⟩ := p_Mo_factBegins hn W (a1 := a1) (ni := ni) (bc := bc) t_a0 (by omega) (by omega) (by omega) (by omega) (by omega) (by omega) (by omega) (by omega) (by omega) (by omega) (by omega) (by omega) (by omega) (by omega) (by omega) (by omega) (by omega) (by omega) h0ZV0 h1ZV0 h2ZV0 h3ZV0 eh_fr eh_ksr eh_sv eh_kg eh_gc ew_3 ew_5 (by omega) (by omega) ⟨bks0, bkl0, bkw0, bna0, blb0, bnw0, bvn0, h0ZV0, h1ZV0, h2ZV0, h3ZV0, h4ZV0, h5ZV0, h6ZV0, h7ZV0, h8ZV0, h9ZV0, h10ZV0, tks0, tkl0, tkw0, by (try dsimp only); omega, by (try dsimp only); omega, by (try dsimp only); omega, by (try dsimp only); omega, by (try dsimp only); omega, by (try dsimp only); omega, by (try dsimp only); omega, by (try dsimp only); omega, by (try dsimp only); omega, by (try dsimp only); omega, by (try dsimp only); omega, by (try dsimp only); omega, by (try dsimp only); omega, by (try dsimp only); omega, by (try dsimp only); omega, by (try dsimp only); omega, by (try dsimp only); omega, by (try dsimp only); omega, k0ZV0, k1ZV0, k2ZV0, k3ZV0, k4ZV0⟩ k0Zpi0
    refine wb eq4 ?_
    have e30 := (Zfr.gi fq4 t_a0 (by decide)).trans h0ZV0
    have e31 := (Zfr.gr fq4 t_a0 (by decide)).trans eh_ksr
    have e32 := (Zfr.gr fq4 t_a0 (by decide)).trans eh_kg
    have e33 := (Zfr.gr fq4 t_a0 (by decide)).trans h4ZV0
    have e34 := (Zfr.gr fq4 t_a0 (by decide)).trans h5ZV0
    have e35 := (Zfr.gr fq4 t_a0 (by decide)).trans h6ZV0
    have e36 := (Zfr.gr fq4 t_a0 (by decide)).trans ew_3
    have e37 := (Zfr.gr fq4 t_a0 (by decide)).trans ew_4
    have F40 := Zfr.tr F0 fq4 (by decide)
    obtain ⟨bf2q4, bt2q4, bd2q4, bksq4, bklq4, bkwq4, bnaq4, blbq4, bnwq4, bvnq4, bkgq4, bg2q4, h0ZVgq4, h1ZVgq4, h2ZVgq4, h3ZVgq4, h4ZVgq4, h5ZVgq4, h6ZVgq4, h7ZVgq4, h8ZVgq4, h9ZVgq4, h10ZVgq4, h11ZVgq4, h12ZVgq4, tksq4, tklq4, tkwq4, tkgq4, r0ZVgq4, r1ZVgq4, r2ZVgq4, r3ZVgq4, r4ZVgq4, r5ZVgq4, r6ZVgq4, r7ZVgq4, r8ZVgq4, r9ZVgq4, r10ZVgq4, r11ZVgq4, r12ZVgq4, r13ZVgq4, r14ZVgq4, r15ZVgq4, r16ZVgq4, r17ZVgq4, r18ZVgq4, r19ZVgq4, k0ZVgq4, k1ZVgq4, k2ZVgq4, k3ZVgq4, k4ZVgq4⟩ := pbZVgq4
    have k0Zpiq4 := pbZpiq4
    exact ⟨_, rfl, Wq4, F40, ⟨bf2q4, bt2q4, bd2q4, bksq4, bklq4, bkwq4, bnaq4, blbq4, bnwq4, bvnq4, bkgq4, bg2q4, h0ZVgq4, h1ZVgq4, h2ZVgq4, h3ZVgq4, h4ZVgq4, h5ZVgq4, h6ZVgq4, h7ZVgq4, h8ZVgq4, h9ZVgq4, h10ZVgq4, h11ZVgq4, h12ZVgq4, tksq4, tklq4, tkwq4, tkgq4, by (try dsimp only); omega, by (try dsimp only); omega, by (try dsimp only); omega, by (try dsimp only); omega, by (try dsimp only); omega, by (try dsimp only); omega, by (try dsimp only); omega, by (try dsimp only); omega, by (try dsimp only); omega, by (try dsimp only); omega, by (try dsimp only); omega, by (try dsimp only); omega, by (try dsimp only); omega, by (try dsimp only); omega, by (try dsimp only); omega, by (try dsimp only); omega, by (try dsimp only); omega, by (try dsimp only); omega, by (try dsimp only); omega, by (try dsimp only); omega, k0ZVgq4, k1ZVgq4, k2ZVgq4, k3ZVgq4, k4ZVgq4⟩, k0Zpiq4⟩
  · have := li_0
    have hq7 := i_ne hq7
    refine wi (fun hq54 => ?_) (fun hq54 => ?_)
    · have := li_1
      have hq54 := i_eq hq54
      obtain ⟨w8, ew8⟩ := go_64 W t_a0
      refine wb ew8 ?_
      obtain ⟨w_56, ew_56, lw_56, uw_56⟩ := gf_64_52 W t_a0
      have := PB_nm pbh h1ZV0 ew_56 h2ZV0
      have := li_18
      obtain ⟨q7, eq7, Wq7, fq7, po0q7⟩ := p_Mo_code hn W (a1 := 18) (a2 := 0) t_a0 h1ZV0 ew_56 (by omega)
      refine wb eq7 ?_
      have e60 := (Zfr.gi fq7 t_a0 (by decide)).trans h0ZV0
      have e61 := (Zfr.gi fq7 t_a0 (by decide)).trans h1ZV0
      have e62 := (Zfr.gi fq7 t_a0 (by decide)).trans h2ZV0
      have e63 := (Zfr.gi fq7 t_a0 (by decide)).trans h3ZV0
      have e64 := (Zfr.gi fq7 t_a0 (by decide)).trans eh_fr
      have e65 := (Zfr.gr fq7 t_a0 (by decide)).trans eh_ksr
      have e66 := (Zfr.ai fq7 tqw_1 (by decide)).trans eh_sv
      have e67 := (Zfr.gr fq7 t_a0 (by decide)).trans eh_kg
      have e68 := (Zfr.ai fq7 tqw_2 (by decide)).trans eh_gc
      have e69 := (Zfr.gr fq7 t_a0 (by decide)).trans h4ZV0
      have e70 := (Zfr.gr fq7 t_a0 (by decide)).trans h5ZV0
      have e71 := (Zfr.gr fq7 t_a0 (by decide)).trans h6ZV0
      have e72 := (Zfr.ai fq7 tks0 (by decide)).trans h7ZV0
      have e73 := (Zfr.ai fq7 tkl0 (by decide)).trans h8ZV0
      have e74 := (Zfr.ai fq7 tkw0 (by decide)).trans h9ZV0
      have e75 := (Zfr.gi fq7 t_a0 (by decide)).trans h10ZV0
      have e76 := (Zfr.gr fq7 t_a0 (by decide)).trans ew_3
      have e77 := (Zfr.gr fq7 t_a0 (by decide)).trans ew_4
      have e78 := (Zfr.ai fq7 tw_3 (by decide)).trans ew_5
      have e79 := (Zfr.ai fq7 tw_4 (by decide)).trans ew_6
      have k80 := GtP_cd k0ZV0 fq7 t_a0 W po0q7
      have sc82 := Sc_fr fq7 t_a0 (by decide) (by decide) (by decide)
      have k81 := WyN_fr k1ZV0 fq7 t_a0 W (by decide) sc82
      have k83 := TbI_cd k2ZV0 fq7 t_a0 W po0q7
      have k84 := TbC_cd k3ZV0 fq7 t_a0 W po0q7
      have k85 := TkN_fr k4ZV0 fq7 t_a0 W (by decide)
      have k86 := PB_one pbh fq7 t_a0 W po0q7 (by omega) (by omega)
      have k87 := TpK_fr tph fq7 t_a0 W (by decide)
      have F88 := Zfr.tr F0 fq7 (by decide)
      refine wb e63 ?_
      have := i_sub (a := dv) (b := 1) (by omega) (by omega)
      obtain ⟨c10, ec10, Wc10, fc10, gc10⟩ := pf_64_53 Wq7 t_a0 (x := (dv - 1)) (rgi (by omega) (by omega))
      refine wb ec10 ?_
      have e89 := (Zfr.gi fc10 t_a0 (by decide)).trans e60
      have e90 := (Zfr.gi fc10 t_a0 (by decide)).trans e61
      have e91 := (Zfr.gi fc10 t_a0 (by decide)).trans e62
      have e92 := (Zfr.gi fc10 t_a0 (by decide)).trans e64
      have e93 := (Zfr.gr fc10 t_a0 (by decide)).trans e65
      have e94 := (Zfr.ai fc10 tqw_1 (by decide)).trans e66
      have e95 := (Zfr.gr fc10 t_a0 (by decide)).trans e67
      have e96 := (Zfr.ai fc10 tqw_2 (by decide)).trans e68
      have e97 := (Zfr.gr fc10 t_a0 (by decide)).trans e69
      have e98 := (Zfr.gr fc10 t_a0 (by decide)).trans e70
      have e99 := (Zfr.gr fc10 t_a0 (by decide)).trans e71
      have e100 := (Zfr.ai fc10 tks0 (by decide)).trans e72
      have e101 := (Zfr.ai fc10 tkl0 (by decide)).trans e73
      have e102 := (Zfr.ai fc10 tkw0 (by decide)).trans e74
      have e103 := (Zfr.gi fc10 t_a0 (by decide)).trans e75
      have e104 := (Zfr.gr fc10 t_a0 (by decide)).trans e76
      have e105 := (Zfr.gr fc10 t_a0 (by decide)).trans e77
      have e106 := (Zfr.ai fc10 tw_3 (by decide)).trans e78
      have e107 := (Zfr.ai fc10 tw_4 (by decide)).trans e79
      have k108 := GtP_fr k80 fc10 t_a0 Wq7 (by decide)
      have sc110 : Sc q7 c10 a0 0 ((dv - 1).toInt - dv.toInt) := Sc_mk e61 (((Zfr.gi (ci := 12) fc10 t_a0 (by decide)).trans e61)) e62 (((Zfr.gi (ci := 12) fc10 t_a0 (by decide)).trans e62)) e63 gc10 (by omega)
      have k109 := WyN_fr k81 fc10 t_a0 Wq7 (by decide) sc110
      have k111 := TbI_fr k83 fc10 t_a0 Wq7 (by decide) sc110
      have k112 := TbC_fr k84 fc10 t_a0 Wq7 (by decide) sc110
      have k113 := TkN_fr k85 fc10 t_a0 Wq7 (by decide)
      have k114 := PB_sc k86 fc10 t_a0 Wq7 (by decide) sc110 (by omega)
      have k115 := TpK_fr k87 fc10 t_a0 Wq7 (by decide)
      have F116 := Zfr.tr F88 fc10 (by decide)
      unfold f_Mo_fact_136
      refine wb e92 ?_
      have := i_sub (a := fr) (b := 1) (by omega) (by omega)
      obtain ⟨c12, ec12, Wc12, fc12, gc12⟩ := pf_64_69 Wc10 t_a0 (x := (fr - 1)) (rgi (by omega) (by omega))
      refine wb ec12 ?_
      have e117 := (Zfr.gi fc12 t_a0 (by decide)).trans e89
      have e118 := (Zfr.gi fc12 t_a0 (by decide)).trans e90
      have e119 := (Zfr.gi fc12 t_a0 (by decide)).trans e91
      have e120 := (Zfr.gr fc12 t_a0 (by decide)).trans e93
      have e121 := (Zfr.ai fc12 tqw_1 (by decide)).trans e94
      have e122 := (Zfr.gr fc12 t_a0 (by decide)).trans e95
      have e123 := (Zfr.ai fc12 tqw_2 (by decide)).trans e96
      have e124 := (Zfr.gr fc12 t_a0 (by decide)).trans e97
      have e125 := (Zfr.gr fc12 t_a0 (by decide)).trans e98
      have e126 := (Zfr.gr fc12 t_a0 (by decide)).trans e99
      have e127 := (Zfr.ai fc12 tks0 (by decide)).trans e100
      have e128 := (Zfr.ai fc12 tkl0 (by decide)).trans e101
      have e129 := (Zfr.ai fc12 tkw0 (by decide)).trans e102
      have e130 := (Zfr.gi fc12 t_a0 (by decide)).trans e103
      have e131 := (Zfr.gr fc12 t_a0 (by decide)).trans e104
      have e132 := (Zfr.gr fc12 t_a0 (by decide)).trans e105
      have e133 := (Zfr.ai fc12 tw_3 (by decide)).trans e106
      have e134 := (Zfr.ai fc12 tw_4 (by decide)).trans e107
      have e135 := (Zfr.gi fc12 t_a0 (by decide)).trans gc10
      have k136 := GtP_fr k108 fc12 t_a0 Wc10 (by decide)
      have sc138 := Sc_fr fc12 t_a0 (by decide) (by decide) (by decide)
      have k137 := WyN_fr k109 fc12 t_a0 Wc10 (by decide) sc138
      have k139 := TbI_fr k111 fc12 t_a0 Wc10 (by decide) sc138
      have k140 := TbC_fr k112 fc12 t_a0 Wc10 (by decide) sc138
      have k141 := TkN_fr k113 fc12 t_a0 Wc10 (by decide)
      have k142 := PB_s0 k114 fc12 t_a0 Wc10 (by decide) sc138
      have k143 := TpK_fr k115 fc12 t_a0 Wc10 (by decide)
      have F144 := Zfr.tr F116 fc12 (by decide)
      exact ⟨_, rfl, Wc12, F144, ⟨fv, tv, (dv - 1), bks0, bkl0, bkw0, bna0, blb0, bnw0, bvn0, kg, gc, e117, e118, e119, e135, e124, e125, e126, e127, e128, e129, e130, e122, e123, tks0, tkl0, tkw0, tqw_2, by (try dsimp only); omega, by (try dsimp only); omega, by (try dsimp only); omega, by (try dsimp only); omega, by (try dsimp only); omega, by (try dsimp only); omega, by (try dsimp only); omega, by (try dsimp only); omega, by (try dsimp only); omega, by (try dsimp only); omega, by (try dsimp only); omega, by (try dsimp only); omega, by (try dsimp only); omega, by (try dsimp only); omega, by (try dsimp only); omega, by (try dsimp only); omega, by (try dsimp only); omega, by (try dsimp only); omega, by (try dsimp only); omega, by (try dsimp only); omega, k136, k137, k139, k140, k141⟩, PI_pop k142 (by omega) (by omega) (by omega) (by omega) gc12 (by omega) (by omega)⟩
    · have := li_1
      have hq54 := i_ne hq54
      refine wi (fun hq160 => ?_) (fun hq160 => ?_)
      · have := li_2
        have hq160 := i_eq hq160
        obtain ⟨w15, ew15⟩ := go_64 W t_a0
        refine wb ew15 ?_
        have := li_93
        obtain ⟨q14, eq14, Wq14, fq14, pbZSq14⟩ := p_Mo_need hn W (a1 := 93) t_a0 (by omega) (by omega) (by omega) (by omega) h1ZV0 h2ZV0
        refine wb eq14 ?_
        have e163 := (Zfr.gi fq14 t_a0 (by decide)).trans h0ZV0
        have e164 := (Zfr.gi fq14 t_a0 (by decide)).trans h3ZV0
        have e165 := (Zfr.gi fq14 t_a0 (by decide)).trans eh_fr
        have e166 := (Zfr.gr fq14 t_a0 (by decide)).trans eh_ksr
        have e167 := (Zfr.ai fq14 tqw_1 (by decide)).trans eh_sv
        have e168 := (Zfr.gr fq14 t_a0 (by decide)).trans eh_kg
        have e169 := (Zfr.ai fq14 tqw_2 (by decide)).trans eh_gc
        have e170 := (Zfr.gr fq14 t_a0 (by decide)).trans h4ZV0
        have e171 := (Zfr.gr fq14 t_a0 (by decide)).trans h5ZV0
        have e172 := (Zfr.gr fq14 t_a0 (by decide)).trans h6ZV0
        have e173 := (Zfr.ai fq14 tks0 (by decide)).trans h7ZV0
        have e174 := (Zfr.ai fq14 tkl0 (by decide)).trans h8ZV0
        have e175 := (Zfr.ai fq14 tkw0 (by decide)).trans h9ZV0
        have e176 := (Zfr.gi fq14 t_a0 (by decide)).trans h10ZV0
        have e177 := (Zfr.gr fq14 t_a0 (by decide)).trans ew_3
        have e178 := (Zfr.gr fq14 t_a0 (by decide)).trans ew_4
        have e179 := (Zfr.ai fq14 tw_3 (by decide)).trans ew_5
        have e180 := (Zfr.ai fq14 tw_4 (by decide)).trans ew_6
        have k181 := GtP_fr k0ZV0 fq14 t_a0 W (by decide)
        have sc183 : Sc c q14 a0 (1) (0) := by
          obtain ⟨yf2, yt2, z0y, z1y, x0y, x1y, x2y, x3y, x4y, x5y⟩ := pbZSq14
          exact Sc_mk h1ZV0 z0y h2ZV0 z1y h3ZV0 ((Zfr.gi (ci := 12) fq14 t_a0 (by decide)).trans h3ZV0) (by omega)
        have k182 := WyN_fr k1ZV0 fq14 t_a0 W (by decide) sc183
        have k184 := TbI_fr k2ZV0 fq14 t_a0 W (by decide) sc183
        have k185 := TbC_fr k3ZV0 fq14 t_a0 W (by decide) sc183
        have k186 := TkN_fr k4ZV0 fq14 t_a0 W (by decide)
        have k187 := PB_sc pbh fq14 t_a0 W (by decide) sc183 (by omega)
        have k188 := TpK_fr tph fq14 t_a0 W (by decide)
        have F189 := Zfr.tr F0 fq14 (by decide)
        obtain ⟨bf2q14, bt2q14, h0ZSq14, h1ZSq14, r0ZSq14, r1ZSq14, r2ZSq14, r3ZSq14, r4ZSq14, r5ZSq14⟩ := pbZSq14
        refine wb e164 ?_
        have := i_sub (a := dv) (b := 1) (by omega) (by omega)
        obtain ⟨c17, ec17, Wc17, fc17, gc17⟩ := pf_64_53 Wq14 t_a0 (x := (dv - 1)) (rgi (by omega) (by omega))
        refine wb ec17 ?_
        have e190 := (Zfr.gi fc17 t_a0 (by decide)).trans e163
        have e191 := (Zfr.gi fc17 t_a0 (by decide)).trans e165
        have e192 := (Zfr.gr fc17 t_a0 (by decide)).trans e166
        have e193 := (Zfr.ai fc17 tqw_1 (by decide)).trans e167
        have e194 := (Zfr.gr fc17 t_a0 (by decide)).trans e168
        have e195 := (Zfr.ai fc17 tqw_2 (by decide)).trans e169
        have e196 := (Zfr.gr fc17 t_a0 (by decide)).trans e170
        have e197 := (Zfr.gr fc17 t_a0 (by decide)).trans e171
        have e198 := (Zfr.gr fc17 t_a0 (by decide)).trans e172
        have e199 := (Zfr.ai fc17 tks0 (by decide)).trans e173
        have e200 := (Zfr.ai fc17 tkl0 (by decide)).trans e174
        have e201 := (Zfr.ai fc17 tkw0 (by decide)).trans e175
        have e202 := (Zfr.gi fc17 t_a0 (by decide)).trans e176
        have e203 := (Zfr.gr fc17 t_a0 (by decide)).trans e177
        have e204 := (Zfr.gr fc17 t_a0 (by decide)).trans e178
        have e205 := (Zfr.ai fc17 tw_3 (by decide)).trans e179
        have e206 := (Zfr.ai fc17 tw_4 (by decide)).trans e180
        have e207 := (Zfr.gi fc17 t_a0 (by decide)).trans h0ZSq14
        have e208 := (Zfr.gi fc17 t_a0 (by decide)).trans h1ZSq14
        have k209 := GtP_fr k181 fc17 t_a0 Wq14 (by decide)
        have sc211 : Sc q14 c17 a0 0 ((dv - 1).toInt - dv.toInt) := Sc_mk h0ZSq14 (((Zfr.gi (ci := 12) fc17 t_a0 (by decide)).trans h0ZSq14)) h1ZSq14 (((Zfr.gi (ci := 12) fc17 t_a0 (by decide)).trans h1ZSq14)) e164 gc17 (by omega)
        have k210 := WyN_fr k182 fc17 t_a0 Wq14 (by decide) sc211
        have k212 := TbI_fr k184 fc17 t_a0 Wq14 (by decide) sc211
        have k213 := TbC_fr k185 fc17 t_a0 Wq14 (by decide) sc211
        have k214 := TkN_fr k186 fc17 t_a0 Wq14 (by decide)
        have k215 := PB_sc k187 fc17 t_a0 Wq14 (by decide) sc211 (by omega)
        have k216 := TpK_fr k188 fc17 t_a0 Wq14 (by decide)
        have F217 := Zfr.tr F189 fc17 (by decide)
        unfold f_Mo_fact_136
        refine wb e191 ?_
        have := i_sub (a := fr) (b := 1) (by omega) (by omega)
        obtain ⟨c12, ec12, Wc12, fc12, gc12⟩ := pf_64_69 Wc17 t_a0 (x := (fr - 1)) (rgi (by omega) (by omega))
        refine wb ec12 ?_
        have e218 := (Zfr.gi fc12 t_a0 (by decide)).trans e190
        have e219 := (Zfr.gr fc12 t_a0 (by decide)).trans e192
        have e220 := (Zfr.ai fc12 tqw_1 (by decide)).trans e193
        have e221 := (Zfr.gr fc12 t_a0 (by decide)).trans e194
        have e222 := (Zfr.ai fc12 tqw_2 (by decide)).trans e195
        have e223 := (Zfr.gr fc12 t_a0 (by decide)).trans e196
        have e224 := (Zfr.gr fc12 t_a0 (by decide)).trans e197
        have e225 := (Zfr.gr fc12 t_a0 (by decide)).trans e198
        have e226 := (Zfr.ai fc12 tks0 (by decide)).trans e199
        have e227 := (Zfr.ai fc12 tkl0 (by decide)).trans e200
        have e228 := (Zfr.ai fc12 tkw0 (by decide)).trans e201
        have e229 := (Zfr.gi fc12 t_a0 (by decide)).trans e202
        have e230 := (Zfr.gr fc12 t_a0 (by decide)).trans e203
        have e231 := (Zfr.gr fc12 t_a0 (by decide)).trans e204
        have e232 := (Zfr.ai fc12 tw_3 (by decide)).trans e205
        have e233 := (Zfr.ai fc12 tw_4 (by decide)).trans e206
        have e234 := (Zfr.gi fc12 t_a0 (by decide)).trans e207
        have e235 := (Zfr.gi fc12 t_a0 (by decide)).trans e208
        have e236 := (Zfr.gi fc12 t_a0 (by decide)).trans gc17
        have k237 := GtP_fr k209 fc12 t_a0 Wc17 (by decide)
        have sc239 := Sc_fr fc12 t_a0 (by decide) (by decide) (by decide)
        have k238 := WyN_fr k210 fc12 t_a0 Wc17 (by decide) sc239
        have k240 := TbI_fr k212 fc12 t_a0 Wc17 (by decide) sc239
        have k241 := TbC_fr k213 fc12 t_a0 Wc17 (by decide) sc239
        have k242 := TkN_fr k214 fc12 t_a0 Wc17 (by decide)
        have k243 := PB_s0 k215 fc12 t_a0 Wc17 (by decide) sc239
        have k244 := TpK_fr k216 fc12 t_a0 Wc17 (by decide)
        have F245 := Zfr.tr F217 fc12 (by decide)
        exact ⟨_, rfl, Wc12, F245, ⟨bf2q14, bt2q14, (dv - 1), bks0, bkl0, bkw0, bna0, blb0, bnw0, bvn0, kg, gc, e218, e234, e235, e236, e223, e224, e225, e226, e227, e228, e229, e221, e222, tks0, tkl0, tkw0, tqw_2, by (try dsimp only); omega, by (try dsimp only); omega, by (try dsimp only); omega, by (try dsimp only); omega, by (try dsimp only); omega, by (try dsimp only); omega, by (try dsimp only); omega, by (try dsimp only); omega, by (try dsimp only); omega, by (try dsimp only); omega, by (try dsimp only); omega, by (try dsimp only); omega, by (try dsimp only); omega, by (try dsimp only); omega, by (try dsimp only); omega, by (try dsimp only); omega, by (try dsimp only); omega, by (try dsimp only); omega, by (try dsimp only); omega, by (try dsimp only); omega, k237, k238, k240, k241, k242⟩, PI_pop k243 (by omega) (by omega) (by omega) (by omega) gc12 (by omega) (by omega)⟩
      · have := li_2
        have hq160 := i_ne hq160
        refine wi (fun hq261 => ?_) (fun hq261 => ?_)
        · have := li_3
          have hq261 := i_eq hq261
          refine wb ew_4 ?_
          obtain ⟨w21, ew21⟩ := go_64 W t_a0
          refine wb ew21 ?_
          obtain ⟨q20, eq20, Wq20, fq20, pbZScq20, pbZkdq20⟩ := p_Mo_kind hn W  t_a0 (by omega) (by omega) (by omega) (by omega) h1ZV0 h2ZV0
          refine wb eq20 ?_
          have e264 := (Zfr.gi fq20 t_a0 (by decide)).trans h0ZV0
          have e265 := (Zfr.gi fq20 t_a0 (by decide)).trans h2ZV0
          have e266 := (Zfr.gi fq20 t_a0 (by decide)).trans h3ZV0
          have e267 := (Zfr.gi fq20 t_a0 (by decide)).trans eh_fr
          have e268 := (Zfr.gr fq20 t_a0 (by decide)).trans eh_ksr
          have e269 := (Zfr.ai fq20 tqw_1 (by decide)).trans eh_sv
          have e270 := (Zfr.gr fq20 t_a0 (by decide)).trans eh_kg
          have e271 := (Zfr.ai fq20 tqw_2 (by decide)).trans eh_gc
          have e272 := (Zfr.gr fq20 t_a0 (by decide)).trans h4ZV0
          have e273 := (Zfr.gr fq20 t_a0 (by decide)).trans h5ZV0
          have e274 := (Zfr.gr fq20 t_a0 (by decide)).trans h6ZV0
          have e275 := (Zfr.ai fq20 tks0 (by decide)).trans h7ZV0
          have e276 := (Zfr.ai fq20 tkl0 (by decide)).trans h8ZV0
          have e277 := (Zfr.ai fq20 tkw0 (by decide)).trans h9ZV0
          have e278 := (Zfr.gi fq20 t_a0 (by decide)).trans h10ZV0
          have e279 := (Zfr.gr fq20 t_a0 (by decide)).trans ew_3
          have e280 := (Zfr.gr fq20 t_a0 (by decide)).trans ew_4
          have e281 := (Zfr.ai fq20 tw_3 (by decide)).trans ew_5
          have e282 := (Zfr.ai fq20 tw_4 (by decide)).trans ew_6
          have k283 := GtP_fr k0ZV0 fq20 t_a0 W (by decide)
          have sc285 : Sc c q20.2 a0 (0) (0) := by
            obtain ⟨yf2, z0y, x0y, x1y, x2y, x3y⟩ := pbZScq20
            exact Sc_mk h1ZV0 z0y h2ZV0 ((Zfr.gi (ci := 12) fq20 t_a0 (by decide)).trans h2ZV0) h3ZV0 ((Zfr.gi (ci := 12) fq20 t_a0 (by decide)).trans h3ZV0) (by omega)
          have k284 := WyN_fr k1ZV0 fq20 t_a0 W (by decide) sc285
          have k286 := TbI_fr k2ZV0 fq20 t_a0 W (by decide) sc285
          have k287 := TbC_fr k3ZV0 fq20 t_a0 W (by decide) sc285
          have k288 := TkN_fr k4ZV0 fq20 t_a0 W (by decide)
          have k289 := PB_s0 pbh fq20 t_a0 W (by decide) sc285
          have k290 := TpK_fr tph fq20 t_a0 W (by decide)
          have F291 := Zfr.tr F0 fq20 (by decide)
          obtain ⟨bf2q20, h0ZScq20, r0ZScq20, r1ZScq20, r2ZScq20, r3ZScq20⟩ := pbZScq20
          obtain ⟨bkkq20, h0Zkdq20, h1Zkdq20, tkkq20⟩ := pbZkdq20
          obtain ⟨q22, eq22, Wq22, fq22, po0q22, pl1q22, pu1q22⟩ := p_Mo_relation hn Wq20 (a0 := q20.1) 
          refine wb eq22 ?_
          have e292 := (Zfr.gi fq22 t_a0 (by decide)).trans e264
          have e293 := (Zfr.gi fq22 t_a0 (by decide)).trans e265
          have e294 := (Zfr.gi fq22 t_a0 (by decide)).trans e266
          have e295 := (Zfr.gi fq22 t_a0 (by decide)).trans e267
          have e296 := (Zfr.gr fq22 t_a0 (by decide)).trans e268
          have e297 := (Zfr.ai fq22 tqw_1 (by decide)).trans e269
          have e298 := (Zfr.gr fq22 t_a0 (by decide)).trans e270
          have e299 := (Zfr.ai fq22 tqw_2 (by decide)).trans e271
          have e300 := (Zfr.gr fq22 t_a0 (by decide)).trans e272
          have e301 := (Zfr.gr fq22 t_a0 (by decide)).trans e273
          have e302 := (Zfr.gr fq22 t_a0 (by decide)).trans e274
          have e303 := (Zfr.ai fq22 tks0 (by decide)).trans e275
          have e304 := (Zfr.ai fq22 tkl0 (by decide)).trans e276
          have e305 := (Zfr.ai fq22 tkw0 (by decide)).trans e277
          have e306 := (Zfr.gi fq22 t_a0 (by decide)).trans e278
          have e307 := (Zfr.gr fq22 t_a0 (by decide)).trans e279
          have e308 := (Zfr.gr fq22 t_a0 (by decide)).trans e280
          have e309 := (Zfr.ai fq22 tw_3 (by decide)).trans e281
          have e310 := (Zfr.ai fq22 tw_4 (by decide)).trans e282
          have e311 := (Zfr.gi fq22 t_a0 (by decide)).trans h0ZScq20
          have e312 := (Zfr.gr fq22 t_a0 (by decide)).trans h0Zkdq20
          have e313 := (Zfr.ai fq22 tkkq20 (by decide)).trans h1Zkdq20
          have k314 := GtP_fr k283 fq22 t_a0 Wq20 (by decide)
          have sc316 := Sc_fr fq22 t_a0 (by decide) (by decide) (by decide)
          have k315 := WyN_fr k284 fq22 t_a0 Wq20 (by decide) sc316
          have k317 := TbI_fr k286 fq22 t_a0 Wq20 (by decide) sc316
          have k318 := TbC_fr k287 fq22 t_a0 Wq20 (by decide) sc316
          have k319 := TkN_fr k288 fq22 t_a0 Wq20 (by decide)
          have k320 := PB_s0 k289 fq22 t_a0 Wq20 (by decide) sc316
          have k321 := TpK_fr k290 fq22 t_a0 Wq20 (by decide)
          have F322 := Zfr.tr F291 fq22 (by decide)
          obtain ⟨c23, ec23, Wc23, fc23, gc23⟩ := pa_116 Wq22 tw_4 (i := a1) (by omega) (by omega) (x := q22.1) (trivial)
          refine wb ec23 ?_
          have e323 := (Zfr.gi fc23 t_a0 (by decide)).trans e292
          have e324 := (Zfr.gi fc23 t_a0 (by decide)).trans e293
          have e325 := (Zfr.gi fc23 t_a0 (by decide)).trans e294
          have e326 := (Zfr.gi fc23 t_a0 (by decide)).trans e295
          have e327 := (Zfr.gr fc23 t_a0 (by decide)).trans e296
          have e328 := (Zfr.ai fc23 tqw_1 (by decide)).trans e297
          have e329 := (Zfr.gr fc23 t_a0 (by decide)).trans e298
          have e330 := (Zfr.ai fc23 tqw_2 (by decide)).trans e299
          have e331 := (Zfr.gr fc23 t_a0 (by decide)).trans e300
          have e332 := (Zfr.gr fc23 t_a0 (by decide)).trans e301
          have e333 := (Zfr.gr fc23 t_a0 (by decide)).trans e302
          have e334 := (Zfr.ai fc23 tks0 (by decide)).trans e303
          have e335 := (Zfr.ai fc23 tkl0 (by decide)).trans e304
          have e336 := (Zfr.ai fc23 tkw0 (by decide)).trans e305
          have e337 := (Zfr.gi fc23 t_a0 (by decide)).trans e306
          have e338 := (Zfr.gr fc23 t_a0 (by decide)).trans e307
          have e339 := (Zfr.gr fc23 t_a0 (by decide)).trans e308
          have e340 := (Zfr.ai fc23 tw_3 (by decide)).trans e309
          have e341 := (Zfr.gi fc23 t_a0 (by decide)).trans e311
          have e342 := (Zfr.gr fc23 t_a0 (by decide)).trans e312
          have e343 := (Zfr.ai fc23 tkkq20 (by decide)).trans e313
          have k344 := GtP_fr k314 fc23 t_a0 Wq22 (by decide)
          have sc346 := Sc_fr fc23 t_a0 (by decide) (by decide) (by decide)
          have k345 := WyN_fr k315 fc23 t_a0 Wq22 (by decide) sc346
          have k347 := TbI_fr k317 fc23 t_a0 Wq22 (by decide) sc346
          have k348 := TbC_fr k318 fc23 t_a0 Wq22 (by decide) sc346
          have k349 := TkN_fr k319 fc23 t_a0 Wq22 (by decide)
          have k350 := PB_w68 k320 Wq22 t_a0 fc23 e308 ec23 rfl
          have k351 := TpK_w68 k321 Wq22 t_a0 fc23 e308 ec23 rfl
          have F352 := Zfr.tr F322 fc23 (by decide)
          refine wb e339 ?_
          refine wb gc23 ?_
          refine wi (fun hq353 => ?_) (fun hq353 => ?_)
          · have hq353 := i_le hq353
            obtain ⟨w28, ew28⟩ := go_64 Wc23 t_a0
            refine wb ew28 ?_
            obtain ⟨q27, eq27, Wq27, fq27, pbZSq27⟩ := p_Mo_pass hn Wc23  t_a0 (by omega) (by omega) (by omega) (by omega) e341 e324
            refine wb eq27 ?_
            have e356 := (Zfr.gi fq27 t_a0 (by decide)).trans e323
            have e357 := (Zfr.gi fq27 t_a0 (by decide)).trans e325
            have e358 := (Zfr.gi fq27 t_a0 (by decide)).trans e326
            have e359 := (Zfr.gr fq27 t_a0 (by decide)).trans e327
            have e360 := (Zfr.ai fq27 tqw_1 (by decide)).trans e328
            have e361 := (Zfr.gr fq27 t_a0 (by decide)).trans e329
            have e362 := (Zfr.ai fq27 tqw_2 (by decide)).trans e330
            have e363 := (Zfr.gr fq27 t_a0 (by decide)).trans e331
            have e364 := (Zfr.gr fq27 t_a0 (by decide)).trans e332
            have e365 := (Zfr.gr fq27 t_a0 (by decide)).trans e333
            have e366 := (Zfr.ai fq27 tks0 (by decide)).trans e334
            have e367 := (Zfr.ai fq27 tkl0 (by decide)).trans e335
            have e368 := (Zfr.ai fq27 tkw0 (by decide)).trans e336
            have e369 := (Zfr.gi fq27 t_a0 (by decide)).trans e337
            have e370 := (Zfr.gr fq27 t_a0 (by decide)).trans e338
            have e371 := (Zfr.gr fq27 t_a0 (by decide)).trans e339
            have e372 := (Zfr.ai fq27 tw_3 (by decide)).trans e340
            have e373 := (Zfr.gr fq27 t_a0 (by decide)).trans e342
            have e374 := (Zfr.ai fq27 tkkq20 (by decide)).trans e343
            have e375 := (Zfr.ai fq27 tw_4 (by decide)).trans gc23
            have k376 := GtP_fr k344 fq27 t_a0 Wc23 (by decide)
            have sc378 : Sc c23 q27 a0 (1) (0) := by
              obtain ⟨yf2, yt2, z0y, z1y, x0y, x1y, x2y, x3y, x4y, x5y⟩ := pbZSq27
              exact Sc_mk e341 z0y e324 z1y e325 ((Zfr.gi (ci := 12) fq27 t_a0 (by decide)).trans e325) (by omega)
            have k377 := WyN_fr k345 fq27 t_a0 Wc23 (by decide) sc378
            have k379 := TbI_fr k347 fq27 t_a0 Wc23 (by decide) sc378
            have k380 := TbC_fr k348 fq27 t_a0 Wc23 (by decide) sc378
            have k381 := TkN_fr k349 fq27 t_a0 Wc23 (by decide)
            have k382 := PB_sc k350 fq27 t_a0 Wc23 (by decide) sc378 (by omega)
            have k383 := TpK_fr k351 fq27 t_a0 Wc23 (by decide)
            have F384 := Zfr.tr F352 fq27 (by decide)
            obtain ⟨bf2q27, bt2q27, h0ZSq27, h1ZSq27, r0ZSq27, r1ZSq27, r2ZSq27, r3ZSq27, r4ZSq27, r5ZSq27⟩ := pbZSq27
            refine wb e370 ?_
            obtain ⟨c30, ec30, Wc30, fc30, gc30⟩ := pa_115 Wq27 tw_3 (i := a1) (by omega) (by omega) (x := 4) (trivial)
            refine wb ec30 ?_
            have e385 := (Zfr.gi fc30 t_a0 (by decide)).trans e356
            have e386 := (Zfr.gi fc30 t_a0 (by decide)).trans e357
            have e387 := (Zfr.gi fc30 t_a0 (by decide)).trans e358
            have e388 := (Zfr.gr fc30 t_a0 (by decide)).trans e359
            have e389 := (Zfr.ai fc30 tqw_1 (by decide)).trans e360
            have e390 := (Zfr.gr fc30 t_a0 (by decide)).trans e361
            have e391 := (Zfr.ai fc30 tqw_2 (by decide)).trans e362
            have e392 := (Zfr.gr fc30 t_a0 (by decide)).trans e363
            have e393 := (Zfr.gr fc30 t_a0 (by decide)).trans e364
            have e394 := (Zfr.gr fc30 t_a0 (by decide)).trans e365
            have e395 := (Zfr.ai fc30 tks0 (by decide)).trans e366
            have e396 := (Zfr.ai fc30 tkl0 (by decide)).trans e367
            have e397 := (Zfr.ai fc30 tkw0 (by decide)).trans e368
            have e398 := (Zfr.gi fc30 t_a0 (by decide)).trans e369
            have e399 := (Zfr.gr fc30 t_a0 (by decide)).trans e370
            have e400 := (Zfr.gr fc30 t_a0 (by decide)).trans e371
            have e401 := (Zfr.gr fc30 t_a0 (by decide)).trans e373
            have e402 := (Zfr.ai fc30 tkkq20 (by decide)).trans e374
            have e403 := (Zfr.ai fc30 tw_4 (by decide)).trans e375
            have e404 := (Zfr.gi fc30 t_a0 (by decide)).trans h0ZSq27
            have e405 := (Zfr.gi fc30 t_a0 (by decide)).trans h1ZSq27
            have k406 := GtP_fr k376 fc30 t_a0 Wq27 (by decide)
            have sc408 := Sc_fr fc30 t_a0 (by decide) (by decide) (by decide)
            have k407 := WyN_fr k377 fc30 t_a0 Wq27 (by decide) sc408
            have k409 := TbI_fr k379 fc30 t_a0 Wq27 (by decide) sc408
            have k410 := TbC_fr k380 fc30 t_a0 Wq27 (by decide) sc408
            have k411 := TkN_fr k381 fc30 t_a0 Wq27 (by decide)
            have k412 := PB_w67 k382 Wq27 t_a0 fc30 e370 ec30 rfl
            have k413 := TpK_w67 k383 Wq27 t_a0 fc30 e370 ec30 rfl
            have F414 := Zfr.tr F384 fc30 (by decide)
            obtain ⟨w32, ew32⟩ := go_64 Wc30 t_a0
            refine wb ew32 ?_
            obtain ⟨q31, eq31, Wq31, fq31, po0q31⟩ := p_Mo_frame hn Wc30 (a1 := 3) t_a0 (by omega) (by omega) e387
            refine wb eq31 ?_
            have e416 := (Zfr.gi fq31 t_a0 (by decide)).trans e385
            have e417 := (Zfr.gi fq31 t_a0 (by decide)).trans e386
            have e418 := (Zfr.gr fq31 t_a0 (by decide)).trans e388
            have e419 := (Zfr.gr fq31 t_a0 (by decide)).trans e390
            have e420 := (Zfr.ai fq31 tqw_2 (by decide)).trans e391
            have e421 := (Zfr.gr fq31 t_a0 (by decide)).trans e392
            have e422 := (Zfr.gr fq31 t_a0 (by decide)).trans e393
            have e423 := (Zfr.gr fq31 t_a0 (by decide)).trans e394
            have e424 := (Zfr.ai fq31 tks0 (by decide)).trans e395
            have e425 := (Zfr.ai fq31 tkl0 (by decide)).trans e396
            have e426 := (Zfr.ai fq31 tkw0 (by decide)).trans e397
            have e427 := (Zfr.gi fq31 t_a0 (by decide)).trans e398
            have e428 := (Zfr.gr fq31 t_a0 (by decide)).trans e399
            have e429 := (Zfr.gr fq31 t_a0 (by decide)).trans e400
            have e430 := (Zfr.gr fq31 t_a0 (by decide)).trans e401
            have e431 := (Zfr.ai fq31 tkkq20 (by decide)).trans e402
            have e432 := (Zfr.gi fq31 t_a0 (by decide)).trans e404
            have e433 := (Zfr.gi fq31 t_a0 (by decide)).trans e405
            have k434 := GtP_fr k406 fq31 t_a0 Wc30 (by decide)
            have sc436 := Sc_fr fq31 t_a0 (by decide) (by decide) (by decide)
            have k435 := WyN_fr k407 fq31 t_a0 Wc30 (by decide) sc436
            have k437 := TbI_fr k409 fq31 t_a0 Wc30 (by decide) sc436
            have k438 := TbC_fr k410 fq31 t_a0 Wc30 (by decide) sc436
            have k439 := TkN_fr k411 fq31 t_a0 Wc30 (by decide)
            have := li_4
            have k440 := PI_push k412 k413 (psR (by omega) (by omega) (by omega) (by omega) (by omega) (by omega) (by omega)) (by omega) (by omega) (fun y_ => two_i (by omega)) e404 e405 (by omega) fq31 t_a0 Wc30 po0q31 e387 (by omega)
            have F442 := Zfr.tr F414 fq31 (by decide)
            exact ⟨_, rfl, Wq31, F442, ⟨bf2q27, bt2q27, dv, bks0, bkl0, bkw0, bna0, blb0, bnw0, bvn0, kg, gc, e416, e432, e433, e417, e421, e422, e423, e424, e425, e426, e427, e419, e420, tks0, tkl0, tkw0, tqw_2, by (try dsimp only); omega, by (try dsimp only); omega, by (try dsimp only); omega, by (try dsimp only); omega, by (try dsimp only); omega, by (try dsimp only); omega, by (try dsimp only); omega, by (try dsimp only); omega, by (try dsimp only); omega, by (try dsimp only); omega, by (try dsimp only); omega, by (try dsimp only); omega, by (try dsimp only); omega, by (try dsimp only); omega, by (try dsimp only); omega, by (try dsimp only); omega, by (try dsimp only); omega, by (try dsimp only); omega, by (try dsimp only); omega, by (try dsimp only); omega, k434, k435, k437, k438, k439⟩, k440⟩
          · have hq353 := i_nle hq353
            obtain ⟨w34, ew34⟩ := go_64 Wc23 t_a0
            refine wb ew34 ?_
            obtain ⟨q33, eq33, Wq33, fq33, pbZSfq33⟩ := p_Mo_wrong hn Wc23  t_a0 (by omega) (by omega) (by omega) (by omega) e341 e324
            refine wb eq33 ?_
            have e458 := (Zfr.gi fq33 t_a0 (by decide)).trans e323
            have e459 := (Zfr.gi fq33 t_a0 (by decide)).trans e324
            have e460 := (Zfr.gi fq33 t_a0 (by decide)).trans e325
            have e461 := (Zfr.gi fq33 t_a0 (by decide)).trans e326
            have e462 := (Zfr.gr fq33 t_a0 (by decide)).trans e327
            have e463 := (Zfr.ai fq33 tqw_1 (by decide)).trans e328
            have e464 := (Zfr.gr fq33 t_a0 (by decide)).trans e329
            have e465 := (Zfr.ai fq33 tqw_2 (by decide)).trans e330
            have e466 := (Zfr.gr fq33 t_a0 (by decide)).trans e331
            have e467 := (Zfr.gr fq33 t_a0 (by decide)).trans e332
            have e468 := (Zfr.gr fq33 t_a0 (by decide)).trans e333
            have e469 := (Zfr.ai fq33 tks0 (by decide)).trans e334
            have e470 := (Zfr.ai fq33 tkl0 (by decide)).trans e335
            have e471 := (Zfr.ai fq33 tkw0 (by decide)).trans e336
            have e472 := (Zfr.gi fq33 t_a0 (by decide)).trans e337
            have e473 := (Zfr.gr fq33 t_a0 (by decide)).trans e338
            have e474 := (Zfr.gr fq33 t_a0 (by decide)).trans e339
            have e475 := (Zfr.ai fq33 tw_3 (by decide)).trans e340
            have e476 := (Zfr.gr fq33 t_a0 (by decide)).trans e342
            have e477 := (Zfr.ai fq33 tkkq20 (by decide)).trans e343
            have e478 := (Zfr.ai fq33 tw_4 (by decide)).trans gc23
            have k479 := GtP_fr k344 fq33 t_a0 Wc23 (by decide)
            have sc481 : Sc c23 q33 a0 (0) (0) := by
              obtain ⟨yf2, z0y, x0y, x1y⟩ := pbZSfq33
              exact Sc_mk e341 z0y e324 ((Zfr.gi (ci := 12) fq33 t_a0 (by decide)).trans e324) e325 ((Zfr.gi (ci := 12) fq33 t_a0 (by decide)).trans e325) (by omega)
            have k480 := WyN_fr k345 fq33 t_a0 Wc23 (by decide) sc481
            have k482 := TbI_fr k347 fq33 t_a0 Wc23 (by decide) sc481
            have k483 := TbC_fr k348 fq33 t_a0 Wc23 (by decide) sc481
            have k484 := TkN_fr k349 fq33 t_a0 Wc23 (by decide)
            have k485 := PB_s0 k350 fq33 t_a0 Wc23 (by decide) sc481
            have k486 := TpK_fr k351 fq33 t_a0 Wc23 (by decide)
            have F487 := Zfr.tr F352 fq33 (by decide)
            obtain ⟨bf2q33, h0ZSfq33, r0ZSfq33, r1ZSfq33⟩ := pbZSfq33
            exact ⟨_, rfl, Wq33, F487, ⟨bf2q33, tv, dv, bks0, bkl0, bkw0, bna0, blb0, bnw0, bvn0, kg, gc, e458, h0ZSfq33, e459, e460, e466, e467, e468, e469, e470, e471, e472, e464, e465, tks0, tkl0, tkw0, tqw_2, by (try dsimp only); omega, by (try dsimp only); omega, by (try dsimp only); omega, by (try dsimp only); omega, by (try dsimp only); omega, by (try dsimp only); omega, by (try dsimp only); omega, by (try dsimp only); omega, by (try dsimp only); omega, by (try dsimp only); omega, by (try dsimp only); omega, by (try dsimp only); omega, by (try dsimp only); omega, by (try dsimp only); omega, by (try dsimp only); omega, by (try dsimp only); omega, by (try dsimp only); omega, by (try dsimp only); omega, by (try dsimp only); omega, by (try dsimp only); omega, k479, k480, k482, k483, k484⟩, PI_flt h0ZSfq33 (by omega)⟩
        · have := li_3
          have hq261 := i_ne hq261
          refine wb ew_4 ?_
          refine wb ew_6 ?_
          obtain ⟨w38, ew38⟩ := go_64 W t_a0
          refine wb ew38 ?_
          obtain ⟨w_504, ew_504, lw_504, uw_504⟩ := gf_64_52 W t_a0
          have := PB_nm pbh h1ZV0 ew_504 h2ZV0
          obtain ⟨q37, eq37, Wq37, fq37, po0q37⟩ := p_Mo_code hn W (a1 := w_6) (a2 := 0) t_a0 h1ZV0 ew_504 (by omega)
          refine wb eq37 ?_
          have e508 := (Zfr.gi fq37 t_a0 (by decide)).trans h0ZV0
          have e509 := (Zfr.gi fq37 t_a0 (by decide)).trans h1ZV0
          have e510 := (Zfr.gi fq37 t_a0 (by decide)).trans h2ZV0
          have e511 := (Zfr.gi fq37 t_a0 (by decide)).trans h3ZV0
          have e512 := (Zfr.gi fq37 t_a0 (by decide)).trans eh_fr
          have e513 := (Zfr.gr fq37 t_a0 (by decide)).trans eh_ksr
          have e514 := (Zfr.ai fq37 tqw_1 (by decide)).trans eh_sv
          have e515 := (Zfr.gr fq37 t_a0 (by decide)).trans eh_kg
          have e516 := (Zfr.ai fq37 tqw_2 (by decide)).trans eh_gc
          have e517 := (Zfr.gr fq37 t_a0 (by decide)).trans h4ZV0
          have e518 := (Zfr.gr fq37 t_a0 (by decide)).trans h5ZV0
          have e519 := (Zfr.gr fq37 t_a0 (by decide)).trans h6ZV0
          have e520 := (Zfr.ai fq37 tks0 (by decide)).trans h7ZV0
          have e521 := (Zfr.ai fq37 tkl0 (by decide)).trans h8ZV0
          have e522 := (Zfr.ai fq37 tkw0 (by decide)).trans h9ZV0
          have e523 := (Zfr.gi fq37 t_a0 (by decide)).trans h10ZV0
          have e524 := (Zfr.gr fq37 t_a0 (by decide)).trans ew_3
          have e525 := (Zfr.gr fq37 t_a0 (by decide)).trans ew_4
          have e526 := (Zfr.ai fq37 tw_3 (by decide)).trans ew_5
          have e527 := (Zfr.ai fq37 tw_4 (by decide)).trans ew_6
          have k528 := GtP_cd k0ZV0 fq37 t_a0 W po0q37
          have sc530 := Sc_fr fq37 t_a0 (by decide) (by decide) (by decide)
          have k529 := WyN_fr k1ZV0 fq37 t_a0 W (by decide) sc530
          have k531 := TbI_cd k2ZV0 fq37 t_a0 W po0q37
          have k532 := TbC_cd k3ZV0 fq37 t_a0 W po0q37
          have k533 := TkN_fr k4ZV0 fq37 t_a0 W (by decide)
          have k534 := PB_two pbh fq37 t_a0 W po0q37 (okt (by omega)) (by omega)
          have k535 := TpK_fr tph fq37 t_a0 W (by decide)
          have F536 := Zfr.tr F0 fq37 (by decide)
          unfold f_Mo_fact_136
          refine wb e512 ?_
          have := i_sub (a := fr) (b := 1) (by omega) (by omega)
          obtain ⟨c12, ec12, Wc12, fc12, gc12⟩ := pf_64_69 Wq37 t_a0 (x := (fr - 1)) (rgi (by omega) (by omega))
          refine wb ec12 ?_
          have e537 := (Zfr.gi fc12 t_a0 (by decide)).trans e508
          have e538 := (Zfr.gi fc12 t_a0 (by decide)).trans e509
          have e539 := (Zfr.gi fc12 t_a0 (by decide)).trans e510
          have e540 := (Zfr.gi fc12 t_a0 (by decide)).trans e511
          have e541 := (Zfr.gr fc12 t_a0 (by decide)).trans e513
          have e542 := (Zfr.ai fc12 tqw_1 (by decide)).trans e514
          have e543 := (Zfr.gr fc12 t_a0 (by decide)).trans e515
          have e544 := (Zfr.ai fc12 tqw_2 (by decide)).trans e516
          have e545 := (Zfr.gr fc12 t_a0 (by decide)).trans e517
          have e546 := (Zfr.gr fc12 t_a0 (by decide)).trans e518
          have e547 := (Zfr.gr fc12 t_a0 (by decide)).trans e519
          have e548 := (Zfr.ai fc12 tks0 (by decide)).trans e520
          have e549 := (Zfr.ai fc12 tkl0 (by decide)).trans e521
          have e550 := (Zfr.ai fc12 tkw0 (by decide)).trans e522
          have e551 := (Zfr.gi fc12 t_a0 (by decide)).trans e523
          have e552 := (Zfr.gr fc12 t_a0 (by decide)).trans e524
          have e553 := (Zfr.gr fc12 t_a0 (by decide)).trans e525
          have e554 := (Zfr.ai fc12 tw_3 (by decide)).trans e526
          have e555 := (Zfr.ai fc12 tw_4 (by decide)).trans e527
          have k556 := GtP_fr k528 fc12 t_a0 Wq37 (by decide)
          have sc558 := Sc_fr fc12 t_a0 (by decide) (by decide) (by decide)
          have k557 := WyN_fr k529 fc12 t_a0 Wq37 (by decide) sc558
          have k559 := TbI_fr k531 fc12 t_a0 Wq37 (by decide) sc558
          have k560 := TbC_fr k532 fc12 t_a0 Wq37 (by decide) sc558
          have k561 := TkN_fr k533 fc12 t_a0 Wq37 (by decide)
          have k562 := PB_s0 k534 fc12 t_a0 Wq37 (by decide) sc558
          have k563 := TpK_fr k535 fc12 t_a0 Wq37 (by decide)
          have F564 := Zfr.tr F536 fc12 (by decide)
          exact ⟨_, rfl, Wc12, F564, ⟨fv, tv, dv, bks0, bkl0, bkw0, bna0, blb0, bnw0, bvn0, kg, gc, e537, e538, e539, e540, e545, e546, e547, e548, e549, e550, e551, e543, e544, tks0, tkl0, tkw0, tqw_2, by (try dsimp only); omega, by (try dsimp only); omega, by (try dsimp only); omega, by (try dsimp only); omega, by (try dsimp only); omega, by (try dsimp only); omega, by (try dsimp only); omega, by (try dsimp only); omega, by (try dsimp only); omega, by (try dsimp only); omega, by (try dsimp only); omega, by (try dsimp only); omega, by (try dsimp only); omega, by (try dsimp only); omega, by (try dsimp only); omega, by (try dsimp only); omega, by (try dsimp only); omega, by (try dsimp only); omega, by (try dsimp only); omega, by (try dsimp only); omega, k556, k557, k559, k560, k561⟩, PI_pop k562 (by omega) (by omega) (by omega) (by omega) gc12 (by omega) (by omega)⟩

end ZzT
