section ZzT
abbrev M_Mo_endOf : List (Nat × Nat) := [(64, 18), (64, 19), (64, 20)]
set_option maxRecDepth 100000 in
set_option maxHeartbeats 400000 in
theorem p_Mo_endOf {nf : Nat} (hn : 8589934592 ≤ nf) {G : List Nat} {c : Zc} (W : Zwt zty G c) {a0 : Nat} {fv : Int32} {tv : Int32} (t_a0 : G[a0]? = some 64) (pl_fv : 0 ≤ fv.toInt) (pu_fv : fv.toInt ≤ 6) (pl_tv : 0 ≤ tv.toInt) (pu_tv : tv.toInt ≤ 200) (eh_fv : zgi c a0 12 19 = some fv) (eh_tv : zgi c a0 12 18 = some tv) (hb_Ztk : Ztk G c a0) : ∃ q, f_Mo_endOf nf a0 c = some q ∧ Zwt zty G q.2 ∧ Zfr G M_Mo_endOf c q.2 ∧ ZSq G q.2 a0 fv tv q.1 := by
  have F0 : Zfr G M_Mo_endOf c c := Zfr.rf
  unfold f_Mo_endOf
  have k0Ztk0 := hb_Ztk
  refine wb eh_fv ?_
  refine wi (fun hq1 => ?_) (fun hq1 => ?_)
  · have := li_0
    have hq1 := i_eq hq1
    obtain ⟨w8, ew8⟩ := go_64 W t_a0
    refine wb ew8 ?_
    obtain ⟨q7, eq7, Wq7, fq7, pbZScq7, pbZkdq7⟩ := p_Mo_kind hn W  t_a0 (by omega) (by omega) (by omega) (by omega) eh_fv eh_tv
    refine wb eq7 ?_
    have e4 := (Zfr.gi fq7 t_a0 (by decide)).trans eh_tv
    have k5 := TkN_fr k0Ztk0 fq7 t_a0 W (by decide)
    have F6 := Zfr.tr F0 fq7 (by decide)
    obtain ⟨bf2q7, h0ZScq7, r0ZScq7, r1ZScq7, r2ZScq7, r3ZScq7⟩ := pbZScq7
    obtain ⟨bkkq7, h0Zkdq7, h1Zkdq7, tkkq7⟩ := pbZkdq7
    refine wi (fun hq7 => ?_) (fun hq7 => ?_)
    · have := li_2
      have := i_ge q7.1
      have := i_up q7.1
      have hq7 := i_eq hq7
      obtain ⟨w11, ew11⟩ := go_64 Wq7 t_a0
      refine wb ew11 ?_
      obtain ⟨q10, eq10, Wq10, fq10, pbZStq10⟩ := p_Mo_stands hn Wq7  t_a0 (by omega) (by omega) (by omega) (by omega) h0ZScq7 e4
      refine wb eq10 ?_
      have e10 := (Zfr.gi fq10 t_a0 (by decide)).trans e4
      have e11 := (Zfr.gr fq10 t_a0 (by decide)).trans h0Zkdq7
      have e12 := (Zfr.ai fq10 tkkq7 (by decide)).trans h1Zkdq7
      have k13 := TkN_fr k5 fq10 t_a0 Wq7 (by decide)
      have F14 := Zfr.tr F6 fq10 (by decide)
      obtain ⟨bf2q10, h0ZStq10, r0ZStq10, r1ZStq10, r2ZStq10⟩ := pbZStq10
      obtain ⟨v12, ev12, tv12⟩ := gf_64_54 Wq10 t_a0
      refine wb ev12 ?_
      obtain ⟨v13, ev13, tv13⟩ := gf_64_15 Wq10 t_a0
      refine wb ev13 ?_
      refine wb e10 ?_
      obtain ⟨v15, ev15, _⟩ := ga_75 Wq10 tv13 (i := tv) (by omega) (by omega)
      have ht15 := TkM_at (k13 _ _ e11 ev13) e12 ev15
      have := tkr2 ht15 (by omega)
      refine wb ev15 ?_
      obtain ⟨v16, ev16, pv16⟩ := ga_105 Wq10 tv12 (i := v15) (by omega) (by omega)
      have pv16 : v16.toInt = -1 ∨ (0 ≤ v16.toInt ∧ v16.toInt ≤ 7) ∨ (100 ≤ v16.toInt ∧ v16.toInt ≤ 107) := pv16
      refine wb ev16 ?_
      refine wi (fun hq16 => ?_) (fun hq16 => ?_)
      · have := li_m1
        have hq16 := i_eq hq16
        unfold f_Mo_endOf_58
        obtain ⟨v18, ev18, tv18⟩ := gf_64_16 Wq10 t_a0
        refine wb ev18 ?_
        refine wb e10 ?_
        obtain ⟨v20, ev20, _⟩ := ga_76 Wq10 tv18 (i := tv) (by omega) (by omega)
        refine wb ev20 ?_
        obtain ⟨w22, ew22⟩ := go_64 Wq10 t_a0
        refine wb ew22 ?_
        have := li_5
        obtain ⟨q21, eq21, Wq21, fq21, pbZSfq21⟩ := p_Mo_refuse hn Wq10 (a1 := 5) (a2 := v20) t_a0 (by omega) (by omega) (by omega) (by omega) h0ZStq10
        refine wb eq21 ?_
        have e18 := (Zfr.gi fq21 t_a0 (by decide)).trans e10
        have e19 := (Zfr.gr fq21 t_a0 (by decide)).trans e11
        have e20 := (Zfr.ai fq21 tkkq7 (by decide)).trans e12
        have e21 := (Zfr.gr fq21 t_a0 (by decide)).trans ev13
        have e22 := (Zfr.ai fq21 tv13 (by decide)).trans ev15
        have e23 := (Zfr.ai fq21 tv12 (by decide)).trans ev16
        have e24 := (Zfr.ai fq21 tv18 (by decide)).trans ev20
        have k25 := TkN_fr k13 fq21 t_a0 Wq10 (by decide)
        have F26 := Zfr.tr F14 fq21 (by decide)
        obtain ⟨bf2q21, h0ZSfq21, r0ZSfq21, r1ZSfq21⟩ := pbZSfq21
        unfold f_Mo_endOf_72
        obtain ⟨w24, ew24⟩ := go_64 Wq21 t_a0
        refine wb ew24 ?_
        obtain ⟨q23, eq23, Wq23, fq23, pbZSq23⟩ := p_Mo_pass hn Wq21  t_a0 (by omega) (by omega) (by omega) (by omega) h0ZSfq21 e18
        refine wb eq23 ?_
        have e29 := (Zfr.gr fq23 t_a0 (by decide)).trans e19
        have e30 := (Zfr.ai fq23 tkkq7 (by decide)).trans e20
        have e31 := (Zfr.gr fq23 t_a0 (by decide)).trans e21
        have e32 := (Zfr.ai fq23 tv13 (by decide)).trans e22
        have e33 := (Zfr.ai fq23 tv12 (by decide)).trans e23
        have e34 := (Zfr.ai fq23 tv18 (by decide)).trans e24
        have k35 := TkN_fr k25 fq23 t_a0 Wq21 (by decide)
        have F36 := Zfr.tr F26 fq23 (by decide)
        have := li_1
        obtain ⟨bf2q23, bt2q23, h0ZSq23, h1ZSq23, r0ZSq23, r1ZSq23, r2ZSq23, r3ZSq23, r4ZSq23, r5ZSq23⟩ := pbZSq23
        exact ⟨_, rfl, Wq23, F36, ⟨bf2q23, bt2q23, h0ZSq23, h1ZSq23, by (try dsimp only); omega, by (try dsimp only); omega, by (try dsimp only); omega, by (try dsimp only); omega, by (try dsimp only); omega, by (try dsimp only); omega⟩⟩
      · have := li_m1
        have hq16 := i_ne hq16
        refine wi (fun hq39 => ?_) (fun hq39 => ?_)
        · have := li_100
          have hq39 := i_lt hq39
          unfold f_Mo_endOf_72
          obtain ⟨w24, ew24⟩ := go_64 Wq10 t_a0
          refine wb ew24 ?_
          obtain ⟨q23, eq23, Wq23, fq23, pbZSq23⟩ := p_Mo_pass hn Wq10  t_a0 (by omega) (by omega) (by omega) (by omega) h0ZStq10 e10
          refine wb eq23 ?_
          have e42 := (Zfr.gr fq23 t_a0 (by decide)).trans e11
          have e43 := (Zfr.ai fq23 tkkq7 (by decide)).trans e12
          have e44 := (Zfr.gr fq23 t_a0 (by decide)).trans ev13
          have e45 := (Zfr.ai fq23 tv13 (by decide)).trans ev15
          have e46 := (Zfr.ai fq23 tv12 (by decide)).trans ev16
          have k47 := TkN_fr k13 fq23 t_a0 Wq10 (by decide)
          have F48 := Zfr.tr F14 fq23 (by decide)
          have := li_1
          obtain ⟨bf2q23, bt2q23, h0ZSq23, h1ZSq23, r0ZSq23, r1ZSq23, r2ZSq23, r3ZSq23, r4ZSq23, r5ZSq23⟩ := pbZSq23
          exact ⟨_, rfl, Wq23, F48, ⟨bf2q23, bt2q23, h0ZSq23, h1ZSq23, by (try dsimp only); omega, by (try dsimp only); omega, by (try dsimp only); omega, by (try dsimp only); omega, by (try dsimp only); omega, by (try dsimp only); omega⟩⟩
        · have := li_100
          have hq39 := i_nlt hq39
          unfold f_Mo_endOf_58
          obtain ⟨v18, ev18, tv18⟩ := gf_64_16 Wq10 t_a0
          refine wb ev18 ?_
          refine wb e10 ?_
          obtain ⟨v20, ev20, _⟩ := ga_76 Wq10 tv18 (i := tv) (by omega) (by omega)
          refine wb ev20 ?_
          obtain ⟨w22, ew22⟩ := go_64 Wq10 t_a0
          refine wb ew22 ?_
          have := li_5
          obtain ⟨q21, eq21, Wq21, fq21, pbZSfq21⟩ := p_Mo_refuse hn Wq10 (a1 := 5) (a2 := v20) t_a0 (by omega) (by omega) (by omega) (by omega) h0ZStq10
          refine wb eq21 ?_
          have e52 := (Zfr.gi fq21 t_a0 (by decide)).trans e10
          have e53 := (Zfr.gr fq21 t_a0 (by decide)).trans e11
          have e54 := (Zfr.ai fq21 tkkq7 (by decide)).trans e12
          have e55 := (Zfr.gr fq21 t_a0 (by decide)).trans ev13
          have e56 := (Zfr.ai fq21 tv13 (by decide)).trans ev15
          have e57 := (Zfr.ai fq21 tv12 (by decide)).trans ev16
          have e58 := (Zfr.ai fq21 tv18 (by decide)).trans ev20
          have k59 := TkN_fr k13 fq21 t_a0 Wq10 (by decide)
          have F60 := Zfr.tr F14 fq21 (by decide)
          obtain ⟨bf2q21, h0ZSfq21, r0ZSfq21, r1ZSfq21⟩ := pbZSfq21
          unfold f_Mo_endOf_72
          obtain ⟨w24, ew24⟩ := go_64 Wq21 t_a0
          refine wb ew24 ?_
          obtain ⟨q23, eq23, Wq23, fq23, pbZSq23⟩ := p_Mo_pass hn Wq21  t_a0 (by omega) (by omega) (by omega) (by omega) h0ZSfq21 e52
          refine wb eq23 ?_
          have e63 := (Zfr.gr fq23 t_a0 (by decide)).trans e53
          have e64 := (Zfr.ai fq23 tkkq7 (by decide)).trans e54
          have e65 := (Zfr.gr fq23 t_a0 (by decide)).trans e55
          have e66 := (Zfr.ai fq23 tv13 (by decide)).trans e56
          have e67 := (Zfr.ai fq23 tv12 (by decide)).trans e57
          have e68 := (Zfr.ai fq23 tv18 (by decide)).trans e58
          have k69 := TkN_fr k59 fq23 t_a0 Wq21 (by decide)
          have F70 := Zfr.tr F60 fq23 (by decide)
          have := li_1
          obtain ⟨bf2q23, bt2q23, h0ZSq23, h1ZSq23, r0ZSq23, r1ZSq23, r2ZSq23, r3ZSq23, r4ZSq23, r5ZSq23⟩ := pbZSq23
          exact ⟨_, rfl, Wq23, F70, ⟨bf2q23, bt2q23, h0ZSq23, h1ZSq23, by (try dsimp only); omega, by (try dsimp only); omega, by (try dsimp only); omega, by (try dsimp only); omega, by (try dsimp only); omega, by (try dsimp only); omega⟩⟩
    · have := li_2
      have := i_ge q7.1
      have := i_up q7.1
      have hq7 := i_ne hq7
      unfold f_Mo_endOf_15
      refine wb h0ZScq7 ?_
      refine wi (fun hq73 => ?_) (fun hq73 => ?_)
      · have hq73 := i_eq hq73
        obtain ⟨w6, ew6⟩ := go_64 Wq7 t_a0
        refine wb ew6 ?_
        obtain ⟨q5, eq5, Wq5, fq5, pbZSfq5⟩ := p_Mo_wrong hn Wq7  t_a0 (by omega) (by omega) (by omega) (by omega) h0ZScq7 e4
        refine wb eq5 ?_
        have e76 := (Zfr.gi fq5 t_a0 (by decide)).trans e4
        have e77 := (Zfr.gr fq5 t_a0 (by decide)).trans h0Zkdq7
        have e78 := (Zfr.ai fq5 tkkq7 (by decide)).trans h1Zkdq7
        have k79 := TkN_fr k5 fq5 t_a0 Wq7 (by decide)
        have F80 := Zfr.tr F6 fq5 (by decide)
        obtain ⟨bf2q5, h0ZSfq5, r0ZSfq5, r1ZSfq5⟩ := pbZSfq5
        unfold f_Mo_endOf_26
        have := li_m1
        exact ⟨_, rfl, Wq5, F80, ⟨bf2q5, tv, h0ZSfq5, e76, by (try dsimp only); omega, by (try dsimp only); omega, by (try dsimp only); omega, by (try dsimp only); omega, by (try dsimp only); omega, by (try dsimp only); omega⟩⟩
      · have hq73 := i_ne hq73
        unfold f_Mo_endOf_26
        have := li_m1
        exact ⟨_, rfl, Wq7, F6, ⟨bf2q7, tv, h0ZScq7, e4, by (try dsimp only); omega, by (try dsimp only); omega, by (try dsimp only); omega, by (try dsimp only); omega, by (try dsimp only); omega, by (try dsimp only); omega⟩⟩
  · have := li_0
    have hq1 := i_ne hq1
    unfold f_Mo_endOf_15
    refine wb eh_fv ?_
    refine wi (fun hq85 => ?_) (fun hq85 => ?_)
    · have hq85 := i_eq hq85
      exfalso
      omega
    · have hq85 := i_ne hq85
      unfold f_Mo_endOf_26
      have := li_m1
      exact ⟨_, rfl, W, F0, ⟨fv, tv, eh_fv, eh_tv, by (try dsimp only); omega, by (try dsimp only); omega, by (try dsimp only); omega, by (try dsimp only); omega, by (try dsimp only); omega, by (try dsimp only); omega⟩⟩

abbrev M_Mo_readRule_65 : List (Nat × Nat) := [(64, 18), (64, 19), (64, 20), (64, 21), (64, 52), (64, 53), (64, 56), (64, 57), (64, 65), (64, 69), (79, 0), (80, 0), (81, 0), (82, 0), (83, 0), (84, 0), (85, 0), (86, 0), (87, 0), (88, 0), (89, 0), (90, 0), (91, 0), (92, 0), (93, 0), (94, 0), (95, 0), (99, 0), (101, 0), (102, 0), (103, 0), (104, 0), (105, 0), (106, 0), (107, 0), (108, 0), (109, 0), (110, 0), (111, 0), (112, 0), (113, 0), (114, 0), (115, 0), (116, 0), (134, 0)]
set_option maxRecDepth 100000 in
set_option maxHeartbeats 4000000 in
theorem p_Mo_readRule_65 {nf : Nat} (hn : 8589934592 ≤ nf) {G : List Nat} {c : Zc} (W : Zwt zty G c) {x0 : Nat} {x1 : Int32} {ni : Int32} {pv : Int32} {fv : Int32} {tv : Int32} {dv : Int32} {kg : Nat} {gc : Int32} {cd : Int32} {ki : Nat} {it : Int32} {tpz : Int32} (t_x0 : G[x0]? = some 64) (pl_pv : 0 ≤ pv.toInt) (pu_pv : pv.toInt ≤ 8) (pl_fv : 0 ≤ fv.toInt) (pu_fv : fv.toInt ≤ 6) (pl_tv : 0 ≤ tv.toInt) (pu_tv : tv.toInt ≤ 200) (pl_dv : 0 ≤ dv.toInt) (pu_dv : dv.toInt ≤ 11) (pl_gc : 0 ≤ gc.toInt) (pu_gc : gc.toInt ≤ 79) (pl_cd : 0 ≤ cd.toInt) (pu_cd : cd.toInt ≤ 400) (pl_it : 0 ≤ it.toInt) (pu_it : it.toInt ≤ 8) (pl_x1 : (-1) ≤ x1.toInt) (pu_x1 : x1.toInt ≤ 3) (pl_tpz : 0 ≤ tpz.toInt) (pu_tpz : tpz.toInt ≤ 0) (eh_pv : zgi c x0 12 25 = some pv) (eh_fv : zgi c x0 12 19 = some fv) (eh_tv : zgi c x0 12 18 = some tv) (eh_dv : zgi c x0 12 53 = some dv) (eh_kg : zgr c x0 12 28 = some kg) (eh_gc : zai c kg 0 pv = some gc) (eh_cd : zgi c x0 12 52 = some cd) (eh_ki : zgr c x0 12 43 = some ki) (eh_it : zai c ki 0 pv = some it) (eh_tpz : zgi c x0 12 13 = some tpz) (pp_7 : it.toInt = ni.toInt) (pp_10 : (¬ fv.toInt = 0 ∨ (0 ≤ x1.toInt ∧ 3 * gc.toInt ≤ tv.toInt ∧ cd.toInt ≤ tv.toInt))) (hb_ZV : ZV G c x0 pv fv tv dv ni 1) : ∃ q, f_Mo_readRule_65 nf x0 x1 c = some q ∧ Zwt zty G q.2 ∧ Zfr G M_Mo_readRule_65 c q.2 ∧ ZVl G q.2 x0 q.1 := by
  have F0 : Zfr G M_Mo_readRule_65 c c := Zfr.rf
  unfold f_Mo_readRule_65
  obtain ⟨xq, xe, tqw_1⟩ := gf_64_28 W t_x0
  rw [eh_kg] at xe; cases xe
  obtain ⟨xq, xe, tqw_2⟩ := gf_64_43 W t_x0
  rw [eh_ki] at xe; cases xe
  have := li_1
  obtain ⟨bks0, bkl0, bkw0, bna0, blb0, bnw0, bvn0, h0ZV0, h1ZV0, h2ZV0, h3ZV0, h4ZV0, h5ZV0, h6ZV0, h7ZV0, h8ZV0, h9ZV0, h10ZV0, tks0, tkl0, tkw0, r0ZV0, r1ZV0, r2ZV0, r3ZV0, r4ZV0, r5ZV0, r6ZV0, r7ZV0, r8ZV0, r9ZV0, r10ZV0, r11ZV0, r12ZV0, r13ZV0, r14ZV0, r15ZV0, r16ZV0, r17ZV0, k0ZV0, k1ZV0, k2ZV0, k3ZV0, k4ZV0⟩ := hb_ZV
  obtain ⟨w8, ew8⟩ := go_64 W t_x0
  refine wb ew8 ?_
  obtain ⟨q7, eq7, Wq7, fq7, pbZVhq7⟩ := p_Mo_patterns hn W (ni := ni) (bc := 1) t_x0 (by omega) (by omega) (by omega) (by omega) (by omega) (by omega) (by omega) (by omega) (by omega) (by omega) (by omega) (by omega) h0ZV0 h1ZV0 h2ZV0 h3ZV0 eh_kg eh_gc eh_cd (by omega) ⟨bks0, bkl0, bkw0, bna0, blb0, bnw0, bvn0, h0ZV0, h1ZV0, h2ZV0, h3ZV0, h4ZV0, h5ZV0, h6ZV0, h7ZV0, h8ZV0, h9ZV0, h10ZV0, tks0, tkl0, tkw0, by (try dsimp only); omega, by (try dsimp only); omega, by (try dsimp only); omega, by (try dsimp only); omega, by (try dsimp only); omega, by (try dsimp only); omega, by (try dsimp only); omega, by (try dsimp only); omega, by (try dsimp only); omega, by (try dsimp only); omega, by (try dsimp only); omega, by (try dsimp only); omega, by (try dsimp only); omega, by (try dsimp only); omega, by (try dsimp only); omega, by (try dsimp only); omega, by (try dsimp only); omega, by (try dsimp only); omega, k0ZV0, k1ZV0, k2ZV0, k3ZV0, k4ZV0⟩
  refine wb eq7 ?_
  have e21 := (Zfr.gi fq7 t_x0 (by decide)).trans h0ZV0
  have e22 := (Zfr.gr fq7 t_x0 (by decide)).trans eh_kg
  have e23 := (Zfr.gr fq7 t_x0 (by decide)).trans eh_ki
  have e24 := (Zfr.ai fq7 tqw_2 (by decide)).trans eh_it
  have e25 := (Zfr.gi fq7 t_x0 (by decide)).trans eh_tpz
  have e26 := (Zfr.gr fq7 t_x0 (by decide)).trans h4ZV0
  have e27 := (Zfr.gr fq7 t_x0 (by decide)).trans h5ZV0
  have e28 := (Zfr.gr fq7 t_x0 (by decide)).trans h6ZV0
  have F29 := Zfr.tr F0 fq7 (by decide)
  obtain ⟨bf2q7, bt2q7, bd2q7, bksq7, bklq7, bkwq7, bnaq7, blbq7, bnwq7, bvnq7, bkgq7, bg2q7, bcd2q7, h0ZVhq7, h1ZVhq7, h2ZVhq7, h3ZVhq7, h4ZVhq7, h5ZVhq7, h6ZVhq7, h7ZVhq7, h8ZVhq7, h9ZVhq7, h10ZVhq7, h11ZVhq7, h12ZVhq7, h13ZVhq7, tksq7, tklq7, tkwq7, tkgq7, r0ZVhq7, r1ZVhq7, r2ZVhq7, r3ZVhq7, r4ZVhq7, r5ZVhq7, r6ZVhq7, r7ZVhq7, r8ZVhq7, r9ZVhq7, r10ZVhq7, r11ZVhq7, r12ZVhq7, r13ZVhq7, r14ZVhq7, r15ZVhq7, r16ZVhq7, r17ZVhq7, r18ZVhq7, r19ZVhq7, r20ZVhq7, r21ZVhq7, r22ZVhq7, r23ZVhq7, k0ZVhq7, k1ZVhq7, k2ZVhq7, k3ZVhq7, k4ZVhq7⟩ := pbZVhq7
  obtain ⟨v9, ev9, tv9⟩ := gf_64_48 Wq7 t_x0
  refine wb ev9 ?_
  refine wb h0ZVhq7 ?_
  obtain ⟨w12, ew12⟩ := go_64 Wq7 t_x0
  refine wb ew12 ?_
  obtain ⟨q11, eq11, Wq11, fq11, pbZSqq11⟩ := p_Mo_endOf hn Wq7  t_x0 (by omega) (by omega) (by omega) (by omega) h1ZVhq7 h2ZVhq7 k4ZVhq7
  refine wb eq11 ?_
  have e32 := (Zfr.gi fq11 t_x0 (by decide)).trans h0ZVhq7
  have e33 := (Zfr.gr fq11 t_x0 (by decide)).trans h11ZVhq7
  have e34 := (Zfr.gr fq11 t_x0 (by decide)).trans e23
  have e35 := (Zfr.ai fq11 tqw_2 (by decide)).trans e24
  have e36 := (Zfr.gi fq11 t_x0 (by decide)).trans e25
  have e37 := (Zfr.gr fq11 t_x0 (by decide)).trans h4ZVhq7
  have e38 := (Zfr.gr fq11 t_x0 (by decide)).trans h5ZVhq7
  have e39 := (Zfr.gr fq11 t_x0 (by decide)).trans h6ZVhq7
  have e40 := (Zfr.gi fq11 t_x0 (by decide)).trans h3ZVhq7
  have e41 := (Zfr.ai fq11 tksq7 (by decide)).trans h7ZVhq7
  have e42 := (Zfr.ai fq11 tklq7 (by decide)).trans h8ZVhq7
  have e43 := (Zfr.ai fq11 tkwq7 (by decide)).trans h9ZVhq7
  have e44 := (Zfr.gi fq11 t_x0 (by decide)).trans h10ZVhq7
  have e45 := (Zfr.ai fq11 tkgq7 (by decide)).trans h12ZVhq7
  have e46 := (Zfr.gi fq11 t_x0 (by decide)).trans h13ZVhq7
  have e47 := (Zfr.gr fq11 t_x0 (by decide)).trans ev9
  have k48 := GtP_fr k0ZVhq7 fq11 t_x0 Wq7 (by decide)
  have sc50 : Sc q7 q11.2 x0 (0) (0) := by
    obtain ⟨yf2, yt2, z0y, z1y, x0y, x1y, x2y, x3y, x4y, x5y⟩ := pbZSqq11
    exact Sc_mk h1ZVhq7 z0y h2ZVhq7 z1y h3ZVhq7 ((Zfr.gi (ci := 12) fq11 t_x0 (by decide)).trans h3ZVhq7) (by omega)
  have k49 := WyN_fr k1ZVhq7 fq11 t_x0 Wq7 (by decide) sc50
  have k51 := TbI_fr k2ZVhq7 fq11 t_x0 Wq7 (by decide) sc50
  have k52 := TbC_fr k3ZVhq7 fq11 t_x0 Wq7 (by decide) sc50
  have k53 := TkN_fr k4ZVhq7 fq11 t_x0 Wq7 (by decide)
  have F54 := Zfr.tr F29 fq11 (by decide)
  obtain ⟨bf2q11, bt2q11, h0ZSqq11, h1ZSqq11, r0ZSqq11, r1ZSqq11, r2ZSqq11, r3ZSqq11, r4ZSqq11, r5ZSqq11⟩ := pbZSqq11
  obtain ⟨c13, ec13, Wc13, fc13, gc13⟩ := pa_101 Wq11 tv9 (i := pv) (by omega) (by omega) (x := q11.1) (trivial)
  refine wb ec13 ?_
  have e55 := (Zfr.gi fc13 t_x0 (by decide)).trans e32
  have e56 := (Zfr.gr fc13 t_x0 (by decide)).trans e33
  have e57 := (Zfr.gr fc13 t_x0 (by decide)).trans e34
  have e58 := (Zfr.ai fc13 tqw_2 (by decide)).trans e35
  have e59 := (Zfr.gi fc13 t_x0 (by decide)).trans e36
  have e60 := (Zfr.gr fc13 t_x0 (by decide)).trans e37
  have e61 := (Zfr.gr fc13 t_x0 (by decide)).trans e38
  have e62 := (Zfr.gr fc13 t_x0 (by decide)).trans e39
  have e63 := (Zfr.gi fc13 t_x0 (by decide)).trans e40
  have e64 := (Zfr.ai fc13 tksq7 (by decide)).trans e41
  have e65 := (Zfr.ai fc13 tklq7 (by decide)).trans e42
  have e66 := (Zfr.ai fc13 tkwq7 (by decide)).trans e43
  have e67 := (Zfr.gi fc13 t_x0 (by decide)).trans e44
  have e68 := (Zfr.ai fc13 tkgq7 (by decide)).trans e45
  have e69 := (Zfr.gi fc13 t_x0 (by decide)).trans e46
  have e70 := (Zfr.gr fc13 t_x0 (by decide)).trans e47
  have e71 := (Zfr.gi fc13 t_x0 (by decide)).trans h0ZSqq11
  have e72 := (Zfr.gi fc13 t_x0 (by decide)).trans h1ZSqq11
  have k73 := GtP_w48 k48 Wq11 t_x0 fc13 e32 e47 ec13 (by omega) (by omega) (by omega)
  have sc75 := Sc_fr fc13 t_x0 (by decide) (by decide) (by decide)
  have k74 := WyN_fr k49 fc13 t_x0 Wq11 (by decide) sc75
  have k76 := TbI_fr k51 fc13 t_x0 Wq11 (by decide) sc75
  have k77 := TbC_fr k52 fc13 t_x0 Wq11 (by decide) sc75
  have k78 := TkN_fr k53 fc13 t_x0 Wq11 (by decide)
  have F79 := Zfr.tr F54 fc13 (by decide)
  obtain ⟨w15, ew15⟩ := go_64 Wc13 t_x0
  refine wb ew15 ?_
  have := li_44
  obtain ⟨q14, eq14, Wq14, fq14, pbZSq14⟩ := p_Mo_need hn Wc13 (a1 := 44) t_x0 (by omega) (by omega) (by omega) (by omega) e71 e72
  refine wb eq14 ?_
  have e82 := (Zfr.gi fq14 t_x0 (by decide)).trans e55
  have e83 := (Zfr.gr fq14 t_x0 (by decide)).trans e56
  have e84 := (Zfr.gr fq14 t_x0 (by decide)).trans e57
  have e85 := (Zfr.ai fq14 tqw_2 (by decide)).trans e58
  have e86 := (Zfr.gi fq14 t_x0 (by decide)).trans e59
  have e87 := (Zfr.gr fq14 t_x0 (by decide)).trans e60
  have e88 := (Zfr.gr fq14 t_x0 (by decide)).trans e61
  have e89 := (Zfr.gr fq14 t_x0 (by decide)).trans e62
  have e90 := (Zfr.gi fq14 t_x0 (by decide)).trans e63
  have e91 := (Zfr.ai fq14 tksq7 (by decide)).trans e64
  have e92 := (Zfr.ai fq14 tklq7 (by decide)).trans e65
  have e93 := (Zfr.ai fq14 tkwq7 (by decide)).trans e66
  have e94 := (Zfr.gi fq14 t_x0 (by decide)).trans e67
  have e95 := (Zfr.ai fq14 tkgq7 (by decide)).trans e68
  have e96 := (Zfr.gi fq14 t_x0 (by decide)).trans e69
  have e97 := (Zfr.gr fq14 t_x0 (by decide)).trans e70
  have e98 := (Zfr.ai fq14 tv9 (by decide)).trans gc13
  have k99 := GtP_fr k73 fq14 t_x0 Wc13 (by decide)
  have sc101 : Sc c13 q14 x0 (1) (0) := by
    obtain ⟨yf2, yt2, z0y, z1y, x0y, x1y, x2y, x3y, x4y, x5y⟩ := pbZSq14
    exact Sc_mk e71 z0y e72 z1y e63 ((Zfr.gi (ci := 12) fq14 t_x0 (by decide)).trans e63) (by omega)
  have k100 := WyN_fr k74 fq14 t_x0 Wc13 (by decide) sc101
  have k102 := TbI_fr k76 fq14 t_x0 Wc13 (by decide) sc101
  have k103 := TbC_fr k77 fq14 t_x0 Wc13 (by decide) sc101
  have k104 := TkN_fr k78 fq14 t_x0 Wc13 (by decide)
  have F105 := Zfr.tr F79 fq14 (by decide)
  obtain ⟨bf2q14, bt2q14, h0ZSq14, h1ZSq14, r0ZSq14, r1ZSq14, r2ZSq14, r3ZSq14, r4ZSq14, r5ZSq14⟩ := pbZSq14
  obtain ⟨v16, ev16, tv16⟩ := gf_64_49 Wq14 t_x0
  refine wb ev16 ?_
  refine wb e82 ?_
  obtain ⟨w19, ew19⟩ := go_64 Wq14 t_x0
  refine wb ew19 ?_
  obtain ⟨q18, eq18, Wq18, fq18, pbZSqq18⟩ := p_Mo_endOf hn Wq14  t_x0 (by omega) (by omega) (by omega) (by omega) h0ZSq14 h1ZSq14 k104
  refine wb eq18 ?_
  have e108 := (Zfr.gi fq18 t_x0 (by decide)).trans e82
  have e109 := (Zfr.gr fq18 t_x0 (by decide)).trans e83
  have e110 := (Zfr.gr fq18 t_x0 (by decide)).trans e84
  have e111 := (Zfr.ai fq18 tqw_2 (by decide)).trans e85
  have e112 := (Zfr.gi fq18 t_x0 (by decide)).trans e86
  have e113 := (Zfr.gr fq18 t_x0 (by decide)).trans e87
  have e114 := (Zfr.gr fq18 t_x0 (by decide)).trans e88
  have e115 := (Zfr.gr fq18 t_x0 (by decide)).trans e89
  have e116 := (Zfr.gi fq18 t_x0 (by decide)).trans e90
  have e117 := (Zfr.ai fq18 tksq7 (by decide)).trans e91
  have e118 := (Zfr.ai fq18 tklq7 (by decide)).trans e92
  have e119 := (Zfr.ai fq18 tkwq7 (by decide)).trans e93
  have e120 := (Zfr.gi fq18 t_x0 (by decide)).trans e94
  have e121 := (Zfr.ai fq18 tkgq7 (by decide)).trans e95
  have e122 := (Zfr.gi fq18 t_x0 (by decide)).trans e96
  have e123 := (Zfr.gr fq18 t_x0 (by decide)).trans e97
  have e124 := (Zfr.ai fq18 tv9 (by decide)).trans e98
  have e125 := (Zfr.gr fq18 t_x0 (by decide)).trans ev16
  have k126 := GtP_fr k99 fq18 t_x0 Wq14 (by decide)
  have sc128 : Sc q14 q18.2 x0 (0) (0) := by
    obtain ⟨yf2, yt2, z0y, z1y, x0y, x1y, x2y, x3y, x4y, x5y⟩ := pbZSqq18
    exact Sc_mk h0ZSq14 z0y h1ZSq14 z1y e90 ((Zfr.gi (ci := 12) fq18 t_x0 (by decide)).trans e90) (by omega)
  have k127 := WyN_fr k100 fq18 t_x0 Wq14 (by decide) sc128
  have k129 := TbI_fr k102 fq18 t_x0 Wq14 (by decide) sc128
  have k130 := TbC_fr k103 fq18 t_x0 Wq14 (by decide) sc128
  have k131 := TkN_fr k104 fq18 t_x0 Wq14 (by decide)
  have F132 := Zfr.tr F105 fq18 (by decide)
  obtain ⟨bf2q18, bt2q18, h0ZSqq18, h1ZSqq18, r0ZSqq18, r1ZSqq18, r2ZSqq18, r3ZSqq18, r4ZSqq18, r5ZSqq18⟩ := pbZSqq18
  obtain ⟨c20, ec20, Wc20, fc20, gc20⟩ := pa_102 Wq18 tv16 (i := pv) (by omega) (by omega) (x := q18.1) (trivial)
  refine wb ec20 ?_
  have e133 := (Zfr.gi fc20 t_x0 (by decide)).trans e108
  have e134 := (Zfr.gr fc20 t_x0 (by decide)).trans e109
  have e135 := (Zfr.gr fc20 t_x0 (by decide)).trans e110
  have e136 := (Zfr.ai fc20 tqw_2 (by decide)).trans e111
  have e137 := (Zfr.gi fc20 t_x0 (by decide)).trans e112
  have e138 := (Zfr.gr fc20 t_x0 (by decide)).trans e113
  have e139 := (Zfr.gr fc20 t_x0 (by decide)).trans e114
  have e140 := (Zfr.gr fc20 t_x0 (by decide)).trans e115
  have e141 := (Zfr.gi fc20 t_x0 (by decide)).trans e116
  have e142 := (Zfr.ai fc20 tksq7 (by decide)).trans e117
  have e143 := (Zfr.ai fc20 tklq7 (by decide)).trans e118
  have e144 := (Zfr.ai fc20 tkwq7 (by decide)).trans e119
  have e145 := (Zfr.gi fc20 t_x0 (by decide)).trans e120
  have e146 := (Zfr.ai fc20 tkgq7 (by decide)).trans e121
  have e147 := (Zfr.gi fc20 t_x0 (by decide)).trans e122
  have e148 := (Zfr.gr fc20 t_x0 (by decide)).trans e123
  have e149 := (Zfr.ai fc20 tv9 (by decide)).trans e124
  have e150 := (Zfr.gr fc20 t_x0 (by decide)).trans e125
  have e151 := (Zfr.gi fc20 t_x0 (by decide)).trans h0ZSqq18
  have e152 := (Zfr.gi fc20 t_x0 (by decide)).trans h1ZSqq18
  have k153 := GtP_w49 k126 Wq18 t_x0 fc20 e108 e125 ec20 (by omega) (by omega) (by omega)
  have sc155 := Sc_fr fc20 t_x0 (by decide) (by decide) (by decide)
  have k154 := WyN_fr k127 fc20 t_x0 Wq18 (by decide) sc155
  have k156 := TbI_fr k129 fc20 t_x0 Wq18 (by decide) sc155
  have k157 := TbC_fr k130 fc20 t_x0 Wq18 (by decide) sc155
  have k158 := TkN_fr k131 fc20 t_x0 Wq18 (by decide)
  have F159 := Zfr.tr F132 fc20 (by decide)
  obtain ⟨w22, ew22⟩ := go_64 Wc20 t_x0
  refine wb ew22 ?_
  obtain ⟨q21, eq21, Wq21, fq21, pbZSeq21⟩ := p_Mo_ended hn Wc20 (a1 := x1) t_x0 (by omega) (by omega) (by omega) (by omega) e151 e152
  refine wb eq21 ?_
  have e162 := (Zfr.gi fq21 t_x0 (by decide)).trans e133
  have e163 := (Zfr.gr fq21 t_x0 (by decide)).trans e134
  have e164 := (Zfr.gr fq21 t_x0 (by decide)).trans e135
  have e165 := (Zfr.ai fq21 tqw_2 (by decide)).trans e136
  have e166 := (Zfr.gi fq21 t_x0 (by decide)).trans e137
  have e167 := (Zfr.gr fq21 t_x0 (by decide)).trans e138
  have e168 := (Zfr.gr fq21 t_x0 (by decide)).trans e139
  have e169 := (Zfr.gr fq21 t_x0 (by decide)).trans e140
  have e170 := (Zfr.gi fq21 t_x0 (by decide)).trans e141
  have e171 := (Zfr.ai fq21 tksq7 (by decide)).trans e142
  have e172 := (Zfr.ai fq21 tklq7 (by decide)).trans e143
  have e173 := (Zfr.ai fq21 tkwq7 (by decide)).trans e144
  have e174 := (Zfr.gi fq21 t_x0 (by decide)).trans e145
  have e175 := (Zfr.ai fq21 tkgq7 (by decide)).trans e146
  have e176 := (Zfr.gi fq21 t_x0 (by decide)).trans e147
  have e177 := (Zfr.gr fq21 t_x0 (by decide)).trans e148
  have e178 := (Zfr.ai fq21 tv9 (by decide)).trans e149
  have e179 := (Zfr.gr fq21 t_x0 (by decide)).trans e150
  have e180 := (Zfr.gi fq21 t_x0 (by decide)).trans e152
  have e181 := (Zfr.ai fq21 tv16 (by decide)).trans gc20
  have k182 := GtP_fr k153 fq21 t_x0 Wc20 (by decide)
  have sc184 : Sc c20 q21.2 x0 (0) (0) := by
    obtain ⟨yf2, z0y, x0y, x1y, x2y, x3y⟩ := pbZSeq21
    exact Sc_mk e151 z0y e152 ((Zfr.gi (ci := 12) fq21 t_x0 (by decide)).trans e152) e141 ((Zfr.gi (ci := 12) fq21 t_x0 (by decide)).trans e141) (by omega)
  have k183 := WyN_fr k154 fq21 t_x0 Wc20 (by decide) sc184
  have k185 := TbI_fr k156 fq21 t_x0 Wc20 (by decide) sc184
  have k186 := TbC_fr k157 fq21 t_x0 Wc20 (by decide) sc184
  have k187 := TkN_fr k158 fq21 t_x0 Wc20 (by decide)
  have F188 := Zfr.tr F159 fq21 (by decide)
  obtain ⟨bf2q21, h0ZSeq21, r0ZSeq21, r1ZSeq21, r2ZSeq21, r3ZSeq21⟩ := pbZSeq21
  exact ⟨_, rfl, Wq21, F188, ⟨pv, bf2q21, bt2q18, bd2q7, bksq7, bklq7, bkwq7, bnaq7, blbq7, bnwq7, bvnq7, bkgq7, bg2q7, bcd2q7, ki, it, v9, q11.1, v16, q18.1, tpz, e162, h0ZSeq21, e180, e170, e167, e168, e169, e171, e172, e173, e174, e163, e175, e176, e164, e165, e177, e178, e179, e181, e166, tksq7, tklq7, tkwq7, tkgq7, tqw_2, tv9, tv16, by (try dsimp only); omega, by (try dsimp only); omega, by (try dsimp only); omega, by (try dsimp only); omega, by (try dsimp only); omega, by (try dsimp only); omega, by (try dsimp only); omega, by (try dsimp only); omega, by (try dsimp only); omega, by (try dsimp only); omega, by (try dsimp only); omega, by (try dsimp only); omega, by (try dsimp only); omega, by (try dsimp only); omega, by (try dsimp only); omega, by (try dsimp only); omega, by (try dsimp only); omega, by (try dsimp only); omega, by (try dsimp only); omega, by (try dsimp only); omega, by (try dsimp only); omega, by (try dsimp only); omega, by (try dsimp only); omega, by (try dsimp only); omega, by (try dsimp only); omega, by (try dsimp only); omega, k182, k183, TbI_m k185 (by omega), k186, k187⟩⟩

abbrev M_Mo_readRule : List (Nat × Nat) := [(64, 13), (64, 17), (64, 18), (64, 19), (64, 20), (64, 21), (64, 25), (64, 52), (64, 53), (64, 56), (64, 57), (64, 65), (64, 69), (74, 0), (75, 0), (76, 0), (79, 0), (80, 0), (81, 0), (82, 0), (83, 0), (84, 0), (85, 0), (86, 0), (87, 0), (88, 0), (89, 0), (90, 0), (91, 0), (92, 0), (93, 0), (94, 0), (95, 0), (96, 0), (99, 0), (100, 0), (101, 0), (102, 0), (103, 0), (104, 0), (105, 0), (106, 0), (107, 0), (108, 0), (109, 0), (110, 0), (111, 0), (112, 0), (113, 0), (114, 0), (115, 0), (116, 0), (134, 0)]
set_option maxRecDepth 100000 in
set_option maxHeartbeats 4000000 in
theorem p_Mo_readRule {nf : Nat} (hn : 8589934592 ≤ nf) {G : List Nat} {c : Zc} (W : Zwt zty G c) {a0 : Nat}  (t_a0 : G[a0]? = some 64) (hb_Zwo : Zwo G c a0) : ∃ q, f_Mo_readRule nf a0 c = some q ∧ Zwt zty G q.2 ∧ Zfr G M_Mo_readRule c q.2 ∧ ZVl G q.2 a0 q.1 := by
  have F0 : Zfr G M_Mo_readRule c c := Zfr.rf
  unfold f_Mo_readRule
  obtain ⟨k0Zwo0, k1Zwo0⟩ := hb_Zwo
  obtain ⟨w2, ew2⟩ := go_64 W t_a0
  refine wb ew2 ?_
  obtain ⟨q1, eq1, Wq1, fq1, pbZVBq1⟩ := p_Mo_begin hn W  t_a0 ⟨k0Zwo0, k1Zwo0⟩
  refine wb eq1 ?_
  have F1 := Zfr.tr F0 fq1 (by decide)
  obtain ⟨bpvq1, bf2q1, bt2q1, bd2q1, bksq1, bklq1, bkwq1, bnaq1, blbq1, bnwq1, bvnq1, bkgq1, bg2q1, bcd2q1, bkiq1, bi2q1, btp2q1, h0ZVBq1, h1ZVBq1, h2ZVBq1, h3ZVBq1, h4ZVBq1, h5ZVBq1, h6ZVBq1, h7ZVBq1, h8ZVBq1, h9ZVBq1, h10ZVBq1, h11ZVBq1, h12ZVBq1, h13ZVBq1, h14ZVBq1, h15ZVBq1, h16ZVBq1, tksq1, tklq1, tkwq1, tkgq1, tkiq1, r0ZVBq1, r1ZVBq1, r2ZVBq1, r3ZVBq1, r4ZVBq1, r5ZVBq1, r6ZVBq1, r7ZVBq1, r8ZVBq1, r9ZVBq1, r10ZVBq1, r11ZVBq1, r12ZVBq1, k0ZVBq1, k1ZVBq1, k2ZVBq1, k3ZVBq1, k4ZVBq1⟩ := pbZVBq1
  obtain ⟨w4, ew4⟩ := go_64 Wq1 t_a0
  refine wb ew4 ?_
  have := li_113
  obtain ⟨q3, eq3, Wq3, fq3, pbZSq3⟩ := p_Mo_need hn Wq1 (a1 := 113) t_a0 (by omega) (by omega) (by omega) (by omega) h1ZVBq1 h2ZVBq1
  refine wb eq3 ?_
  have e4 := (Zfr.gi fq3 t_a0 (by decide)).trans h0ZVBq1
  have e5 := (Zfr.gi fq3 t_a0 (by decide)).trans h3ZVBq1
  have e6 := (Zfr.gr fq3 t_a0 (by decide)).trans h4ZVBq1
  have e7 := (Zfr.gr fq3 t_a0 (by decide)).trans h5ZVBq1
  have e8 := (Zfr.gr fq3 t_a0 (by decide)).trans h6ZVBq1
  have e9 := (Zfr.ai fq3 tksq1 (by decide)).trans h7ZVBq1
  have e10 := (Zfr.ai fq3 tklq1 (by decide)).trans h8ZVBq1
  have e11 := (Zfr.ai fq3 tkwq1 (by decide)).trans h9ZVBq1
  have e12 := (Zfr.gi fq3 t_a0 (by decide)).trans h10ZVBq1
  have e13 := (Zfr.gr fq3 t_a0 (by decide)).trans h11ZVBq1
  have e14 := (Zfr.ai fq3 tkgq1 (by decide)).trans h12ZVBq1
  have e15 := (Zfr.gi fq3 t_a0 (by decide)).trans h13ZVBq1
  have e16 := (Zfr.gr fq3 t_a0 (by decide)).trans h14ZVBq1
  have e17 := (Zfr.ai fq3 tkiq1 (by decide)).trans h15ZVBq1
  have e18 := (Zfr.gi fq3 t_a0 (by decide)).trans h16ZVBq1
  have k19 := GtP_fr k0ZVBq1 fq3 t_a0 Wq1 (by decide)
  have := li_1
  have sc21 : Sc q1 q3 a0 (1) (0) := by
    obtain ⟨yf2, yt2, z0y, z1y, x0y, x1y, x2y, x3y, x4y, x5y⟩ := pbZSq3
    exact Sc_mk h1ZVBq1 z0y h2ZVBq1 z1y h3ZVBq1 ((Zfr.gi (ci := 12) fq3 t_a0 (by decide)).trans h3ZVBq1) (by omega)
  have k20 := WyN_fr k1ZVBq1 fq3 t_a0 Wq1 (by decide) sc21
  have k22 := TbI_fr k2ZVBq1 fq3 t_a0 Wq1 (by decide) sc21
  have k23 := TbC_fr k3ZVBq1 fq3 t_a0 Wq1 (by decide) sc21
  have k24 := TkN_fr k4ZVBq1 fq3 t_a0 Wq1 (by decide)
  have F25 := Zfr.tr F1 fq3 (by decide)
  obtain ⟨bf2q3, bt2q3, h0ZSq3, h1ZSq3, r0ZSq3, r1ZSq3, r2ZSq3, r3ZSq3, r4ZSq3, r5ZSq3⟩ := pbZSq3
  refine wb h0ZSq3 ?_
  refine wi (fun hq26 => ?_) (fun hq26 => ?_)
  · have := li_0
    have hq26 := i_eq hq26
    obtain ⟨w24, ew24⟩ := go_64 Wq3 t_a0
    refine wb ew24 ?_
    obtain ⟨q23, eq23, Wq23, fq23, pbZScq23, pbZkdq23⟩ := p_Mo_kind hn Wq3  t_a0 (by omega) (by omega) (by omega) (by omega) h0ZSq3 h1ZSq3
    refine wb eq23 ?_
    have e29 := (Zfr.gi fq23 t_a0 (by decide)).trans e4
    have e30 := (Zfr.gi fq23 t_a0 (by decide)).trans e5
    have e31 := (Zfr.gr fq23 t_a0 (by decide)).trans e6
    have e32 := (Zfr.gr fq23 t_a0 (by decide)).trans e7
    have e33 := (Zfr.gr fq23 t_a0 (by decide)).trans e8
    have e34 := (Zfr.ai fq23 tksq1 (by decide)).trans e9
    have e35 := (Zfr.ai fq23 tklq1 (by decide)).trans e10
    have e36 := (Zfr.ai fq23 tkwq1 (by decide)).trans e11
    have e37 := (Zfr.gi fq23 t_a0 (by decide)).trans e12
    have e38 := (Zfr.gr fq23 t_a0 (by decide)).trans e13
    have e39 := (Zfr.ai fq23 tkgq1 (by decide)).trans e14
    have e40 := (Zfr.gi fq23 t_a0 (by decide)).trans e15
    have e41 := (Zfr.gr fq23 t_a0 (by decide)).trans e16
    have e42 := (Zfr.ai fq23 tkiq1 (by decide)).trans e17
    have e43 := (Zfr.gi fq23 t_a0 (by decide)).trans e18
    have e44 := (Zfr.gi fq23 t_a0 (by decide)).trans h1ZSq3
    have k45 := GtP_fr k19 fq23 t_a0 Wq3 (by decide)
    have sc47 : Sc q3 q23.2 a0 (0) (0) := by
      obtain ⟨yf2, z0y, x0y, x1y, x2y, x3y⟩ := pbZScq23
      exact Sc_mk h0ZSq3 z0y h1ZSq3 ((Zfr.gi (ci := 12) fq23 t_a0 (by decide)).trans h1ZSq3) e5 ((Zfr.gi (ci := 12) fq23 t_a0 (by decide)).trans e5) (by omega)
    have k46 := WyN_fr k20 fq23 t_a0 Wq3 (by decide) sc47
    have k48 := TbI_fr k22 fq23 t_a0 Wq3 (by decide) sc47
    have k49 := TbC_fr k23 fq23 t_a0 Wq3 (by decide) sc47
    have k50 := TkN_fr k24 fq23 t_a0 Wq3 (by decide)
    have F51 := Zfr.tr F25 fq23 (by decide)
    obtain ⟨bf2q23, h0ZScq23, r0ZScq23, r1ZScq23, r2ZScq23, r3ZScq23⟩ := pbZScq23
    obtain ⟨bkkq23, h0Zkdq23, h1Zkdq23, tkkq23⟩ := pbZkdq23
    refine wi (fun hq52 => ?_) (fun hq52 => ?_)
    · have := li_5
      have := i_ge q23.1
      have := i_up q23.1
      have hq52 := i_eq hq52
      obtain ⟨v28, ev28, tv28⟩ := gf_64_15 Wq23 t_a0
      refine wb ev28 ?_
      refine wb e44 ?_
      obtain ⟨v30, ev30, _⟩ := ga_75 Wq23 tv28 (i := bt2q3) (by omega) (by omega)
      have ht53 := TkM_at (k50 _ _ h0Zkdq23 ev28) h1Zkdq23 ev30
      have := tkr5 ht53 (by omega)
      refine wb ev30 ?_
      refine wi (fun hq54 => ?_) (fun hq54 => ?_)
      · have := li_8
        have hq54 := i_le hq54
        refine wb ev28 ?_
        refine wb e44 ?_
        refine wb ev30 ?_
        obtain ⟨w36, ew36⟩ := go_64 Wq23 t_a0
        refine wb ew36 ?_
        obtain ⟨q35, eq35, Wq35, fq35, pbZSq35⟩ := p_Mo_pass hn Wq23  t_a0 (by omega) (by omega) (by omega) (by omega) h0ZScq23 e44
        refine wb eq35 ?_
        have e57 := (Zfr.gi fq35 t_a0 (by decide)).trans e29
        have e58 := (Zfr.gi fq35 t_a0 (by decide)).trans e30
        have e59 := (Zfr.gr fq35 t_a0 (by decide)).trans e31
        have e60 := (Zfr.gr fq35 t_a0 (by decide)).trans e32
        have e61 := (Zfr.gr fq35 t_a0 (by decide)).trans e33
        have e62 := (Zfr.ai fq35 tksq1 (by decide)).trans e34
        have e63 := (Zfr.ai fq35 tklq1 (by decide)).trans e35
        have e64 := (Zfr.ai fq35 tkwq1 (by decide)).trans e36
        have e65 := (Zfr.gi fq35 t_a0 (by decide)).trans e37
        have e66 := (Zfr.gr fq35 t_a0 (by decide)).trans e38
        have e67 := (Zfr.ai fq35 tkgq1 (by decide)).trans e39
        have e68 := (Zfr.gi fq35 t_a0 (by decide)).trans e40
        have e69 := (Zfr.gr fq35 t_a0 (by decide)).trans e41
        have e70 := (Zfr.ai fq35 tkiq1 (by decide)).trans e42
        have e71 := (Zfr.gi fq35 t_a0 (by decide)).trans e43
        have e72 := (Zfr.gr fq35 t_a0 (by decide)).trans h0Zkdq23
        have e73 := (Zfr.ai fq35 tkkq23 (by decide)).trans h1Zkdq23
        have e74 := (Zfr.gr fq35 t_a0 (by decide)).trans ev28
        have e75 := (Zfr.ai fq35 tv28 (by decide)).trans ev30
        have k76 := GtP_fr k45 fq35 t_a0 Wq23 (by decide)
        have sc78 : Sc q23.2 q35 a0 (1) (0) := by
          obtain ⟨yf2, yt2, z0y, z1y, x0y, x1y, x2y, x3y, x4y, x5y⟩ := pbZSq35
          exact Sc_mk h0ZScq23 z0y e44 z1y e30 ((Zfr.gi (ci := 12) fq35 t_a0 (by decide)).trans e30) (by omega)
        have k77 := WyN_fr k46 fq35 t_a0 Wq23 (by decide) sc78
        have k79 := TbI_fr k48 fq35 t_a0 Wq23 (by decide) sc78
        have k80 := TbC_fr k49 fq35 t_a0 Wq23 (by decide) sc78
        have k81 := TkN_fr k50 fq35 t_a0 Wq23 (by decide)
        have F82 := Zfr.tr F51 fq35 (by decide)
        obtain ⟨bf2q35, bt2q35, h0ZSq35, h1ZSq35, r0ZSq35, r1ZSq35, r2ZSq35, r3ZSq35, r4ZSq35, r5ZSq35⟩ := pbZSq35
        have := i_sub (a := v30) (b := 8) (by omega) (by omega)
        obtain ⟨qt83, eqt83, Wqt83, fqt83, pbZVlqt83⟩ := p_Mo_readRule_65 hn Wq35 (x1 := (v30 - 8)) (ni := 0) t_a0 (by omega) (by omega) (by omega) (by omega) (by omega) (by omega) (by omega) (by omega) (by omega) (by omega) (by omega) (by omega) (by omega) (by omega) (by omega) (by omega) (by omega) (by omega) e57 h0ZSq35 h1ZSq35 e58 e66 e67 e68 e69 e70 e71 (by omega) (by omega) ⟨bksq1, bklq1, bkwq1, bnaq1, blbq1, bnwq1, bvnq1, e57, h0ZSq35, h1ZSq35, e58, e59, e60, e61, e62, e63, e64, e65, tksq1, tklq1, tkwq1, by (try dsimp only); omega, by (try dsimp only); omega, by (try dsimp only); omega, by (try dsimp only); omega, by (try dsimp only); omega, by (try dsimp only); omega, by (try dsimp only); omega, by (try dsimp only); omega, by (try dsimp only); omega, by (try dsimp only); omega, by (try dsimp only); omega, by (try dsimp only); omega, by (try dsimp only); omega, by (try dsimp only); omega, by (try dsimp only); omega, by (try dsimp only); omega, by (try dsimp only); omega, by (try dsimp only); omega, k76, k77, k79, k80, k81⟩
        have e105 := (Zfr.gi fqt83 t_a0 (by decide)).trans e57
        have e106 := (Zfr.gr fqt83 t_a0 (by decide)).trans e59
        have e107 := (Zfr.gr fqt83 t_a0 (by decide)).trans e60
        have e108 := (Zfr.gr fqt83 t_a0 (by decide)).trans e61
        have e109 := (Zfr.gr fqt83 t_a0 (by decide)).trans e66
        have e110 := (Zfr.gr fqt83 t_a0 (by decide)).trans e69
        have e111 := (Zfr.ai fqt83 tkiq1 (by decide)).trans e70
        have e112 := (Zfr.gi fqt83 t_a0 (by decide)).trans e71
        have e113 := (Zfr.gr fqt83 t_a0 (by decide)).trans e72
        have e114 := (Zfr.ai fqt83 tkkq23 (by decide)).trans e73
        have e115 := (Zfr.gr fqt83 t_a0 (by decide)).trans e74
        have e116 := (Zfr.ai fqt83 tv28 (by decide)).trans e75
        have F117 := Zfr.tr F82 fqt83 (by decide)
        obtain ⟨bpvqt83, bf2qt83, bt2qt83, bd2qt83, bksqt83, bklqt83, bkwqt83, bnaqt83, blbqt83, bnwqt83, bvnqt83, bkgqt83, bg2qt83, bcd2qt83, bkiqt83, bi2qt83, bkAqt83, bgAqt83, bkBqt83, bgBqt83, btp2qt83, h0ZVlqt83, h1ZVlqt83, h2ZVlqt83, h3ZVlqt83, h4ZVlqt83, h5ZVlqt83, h6ZVlqt83, h7ZVlqt83, h8ZVlqt83, h9ZVlqt83, h10ZVlqt83, h11ZVlqt83, h12ZVlqt83, h13ZVlqt83, h14ZVlqt83, h15ZVlqt83, h16ZVlqt83, h17ZVlqt83, h18ZVlqt83, h19ZVlqt83, h20ZVlqt83, tksqt83, tklqt83, tkwqt83, tkgqt83, tkiqt83, tkAqt83, tkBqt83, r0ZVlqt83, r1ZVlqt83, r2ZVlqt83, r3ZVlqt83, r4ZVlqt83, r5ZVlqt83, r6ZVlqt83, r7ZVlqt83, r8ZVlqt83, r9ZVlqt83, r10ZVlqt83, r11ZVlqt83, r12ZVlqt83, r13ZVlqt83, r14ZVlqt83, r15ZVlqt83, r16ZVlqt83, r17ZVlqt83, r18ZVlqt83, r19ZVlqt83, r20ZVlqt83, r21ZVlqt83, r22ZVlqt83, r23ZVlqt83, r24ZVlqt83, r25ZVlqt83, k0ZVlqt83, k1ZVlqt83, k2ZVlqt83, k3ZVlqt83, k4ZVlqt83⟩ := pbZVlqt83
        obtain ⟨xq, xe, lw_138, uw_138⟩ := gf_64_13 Wqt83 t_a0
        rw [h20ZVlqt83] at xe; cases xe
        exact ⟨_, eqt83, Wqt83, F117, ⟨bpvqt83, bf2qt83, bt2qt83, bd2qt83, bksqt83, bklqt83, bkwqt83, bnaqt83, blbqt83, bnwqt83, bvnqt83, bkgqt83, bg2qt83, bcd2qt83, bkiqt83, bi2qt83, bkAqt83, bgAqt83, bkBqt83, bgBqt83, btp2qt83, h0ZVlqt83, h1ZVlqt83, h2ZVlqt83, h3ZVlqt83, h4ZVlqt83, h5ZVlqt83, h6ZVlqt83, h7ZVlqt83, h8ZVlqt83, h9ZVlqt83, h10ZVlqt83, h11ZVlqt83, h12ZVlqt83, h13ZVlqt83, h14ZVlqt83, h15ZVlqt83, h16ZVlqt83, h17ZVlqt83, h18ZVlqt83, h19ZVlqt83, h20ZVlqt83, tksqt83, tklqt83, tkwqt83, tkgqt83, tkiqt83, tkAqt83, tkBqt83, by (try dsimp only); omega, by (try dsimp only); omega, by (try dsimp only); omega, by (try dsimp only); omega, by (try dsimp only); omega, by (try dsimp only); omega, by (try dsimp only); omega, by (try dsimp only); omega, by (try dsimp only); omega, by (try dsimp only); omega, by (try dsimp only); omega, by (try dsimp only); omega, by (try dsimp only); omega, by (try dsimp only); omega, by (try dsimp only); omega, by (try dsimp only); omega, by (try dsimp only); omega, by (try dsimp only); omega, by (try dsimp only); omega, by (try dsimp only); omega, by (try dsimp only); omega, by (try dsimp only); omega, by (try dsimp only); omega, by (try dsimp only); omega, by (try dsimp only); omega, by (try dsimp only); omega, k0ZVlqt83, k1ZVlqt83, k2ZVlqt83, k3ZVlqt83, k4ZVlqt83⟩⟩
      · have := li_8
        have hq54 := i_nle hq54
        unfold f_Mo_readRule_41
        obtain ⟨w27, ew27⟩ := go_64 Wq23 t_a0
        refine wb ew27 ?_
        obtain ⟨q26, eq26, Wq26, fq26, pbZSfq26⟩ := p_Mo_wrong hn Wq23  t_a0 (by omega) (by omega) (by omega) (by omega) h0ZScq23 e44
        refine wb eq26 ?_
        have e141 := (Zfr.gi fq26 t_a0 (by decide)).trans e29
        have e142 := (Zfr.gi fq26 t_a0 (by decide)).trans e30
        have e143 := (Zfr.gr fq26 t_a0 (by decide)).trans e31
        have e144 := (Zfr.gr fq26 t_a0 (by decide)).trans e32
        have e145 := (Zfr.gr fq26 t_a0 (by decide)).trans e33
        have e146 := (Zfr.ai fq26 tksq1 (by decide)).trans e34
        have e147 := (Zfr.ai fq26 tklq1 (by decide)).trans e35
        have e148 := (Zfr.ai fq26 tkwq1 (by decide)).trans e36
        have e149 := (Zfr.gi fq26 t_a0 (by decide)).trans e37
        have e150 := (Zfr.gr fq26 t_a0 (by decide)).trans e38
        have e151 := (Zfr.ai fq26 tkgq1 (by decide)).trans e39
        have e152 := (Zfr.gi fq26 t_a0 (by decide)).trans e40
        have e153 := (Zfr.gr fq26 t_a0 (by decide)).trans e41
        have e154 := (Zfr.ai fq26 tkiq1 (by decide)).trans e42
        have e155 := (Zfr.gi fq26 t_a0 (by decide)).trans e43
        have e156 := (Zfr.gi fq26 t_a0 (by decide)).trans e44
        have e157 := (Zfr.gr fq26 t_a0 (by decide)).trans h0Zkdq23
        have e158 := (Zfr.ai fq26 tkkq23 (by decide)).trans h1Zkdq23
        have e159 := (Zfr.gr fq26 t_a0 (by decide)).trans ev28
        have e160 := (Zfr.ai fq26 tv28 (by decide)).trans ev30
        have k161 := GtP_fr k45 fq26 t_a0 Wq23 (by decide)
        have sc163 : Sc q23.2 q26 a0 (0) (0) := by
          obtain ⟨yf2, z0y, x0y, x1y⟩ := pbZSfq26
          exact Sc_mk h0ZScq23 z0y e44 ((Zfr.gi (ci := 12) fq26 t_a0 (by decide)).trans e44) e30 ((Zfr.gi (ci := 12) fq26 t_a0 (by decide)).trans e30) (by omega)
        have k162 := WyN_fr k46 fq26 t_a0 Wq23 (by decide) sc163
        have k164 := TbI_fr k48 fq26 t_a0 Wq23 (by decide) sc163
        have k165 := TbC_fr k49 fq26 t_a0 Wq23 (by decide) sc163
        have k166 := TkN_fr k50 fq26 t_a0 Wq23 (by decide)
        have F167 := Zfr.tr F51 fq26 (by decide)
        obtain ⟨bf2q26, h0ZSfq26, r0ZSfq26, r1ZSfq26⟩ := pbZSfq26
        have := li_m1
        obtain ⟨qt168, eqt168, Wqt168, fqt168, pbZVlqt168⟩ := p_Mo_readRule_65 hn Wq26 (x1 := (-1)) (ni := 0) t_a0 (by omega) (by omega) (by omega) (by omega) (by omega) (by omega) (by omega) (by omega) (by omega) (by omega) (by omega) (by omega) (by omega) (by omega) (by omega) (by omega) (by omega) (by omega) e141 h0ZSfq26 e156 e142 e150 e151 e152 e153 e154 e155 (by omega) (by omega) ⟨bksq1, bklq1, bkwq1, bnaq1, blbq1, bnwq1, bvnq1, e141, h0ZSfq26, e156, e142, e143, e144, e145, e146, e147, e148, e149, tksq1, tklq1, tkwq1, by (try dsimp only); omega, by (try dsimp only); omega, by (try dsimp only); omega, by (try dsimp only); omega, by (try dsimp only); omega, by (try dsimp only); omega, by (try dsimp only); omega, by (try dsimp only); omega, by (try dsimp only); omega, by (try dsimp only); omega, by (try dsimp only); omega, by (try dsimp only); omega, by (try dsimp only); omega, by (try dsimp only); omega, by (try dsimp only); omega, by (try dsimp only); omega, by (try dsimp only); omega, by (try dsimp only); omega, k161, k162, k164, k165, k166⟩
        have e190 := (Zfr.gi fqt168 t_a0 (by decide)).trans e141
        have e191 := (Zfr.gr fqt168 t_a0 (by decide)).trans e143
        have e192 := (Zfr.gr fqt168 t_a0 (by decide)).trans e144
        have e193 := (Zfr.gr fqt168 t_a0 (by decide)).trans e145
        have e194 := (Zfr.gr fqt168 t_a0 (by decide)).trans e150
        have e195 := (Zfr.gr fqt168 t_a0 (by decide)).trans e153
        have e196 := (Zfr.ai fqt168 tkiq1 (by decide)).trans e154
        have e197 := (Zfr.gi fqt168 t_a0 (by decide)).trans e155
        have e198 := (Zfr.gr fqt168 t_a0 (by decide)).trans e157
        have e199 := (Zfr.ai fqt168 tkkq23 (by decide)).trans e158
        have e200 := (Zfr.gr fqt168 t_a0 (by decide)).trans e159
        have e201 := (Zfr.ai fqt168 tv28 (by decide)).trans e160
        have F202 := Zfr.tr F167 fqt168 (by decide)
        obtain ⟨bpvqt168, bf2qt168, bt2qt168, bd2qt168, bksqt168, bklqt168, bkwqt168, bnaqt168, blbqt168, bnwqt168, bvnqt168, bkgqt168, bg2qt168, bcd2qt168, bkiqt168, bi2qt168, bkAqt168, bgAqt168, bkBqt168, bgBqt168, btp2qt168, h0ZVlqt168, h1ZVlqt168, h2ZVlqt168, h3ZVlqt168, h4ZVlqt168, h5ZVlqt168, h6ZVlqt168, h7ZVlqt168, h8ZVlqt168, h9ZVlqt168, h10ZVlqt168, h11ZVlqt168, h12ZVlqt168, h13ZVlqt168, h14ZVlqt168, h15ZVlqt168, h16ZVlqt168, h17ZVlqt168, h18ZVlqt168, h19ZVlqt168, h20ZVlqt168, tksqt168, tklqt168, tkwqt168, tkgqt168, tkiqt168, tkAqt168, tkBqt168, r0ZVlqt168, r1ZVlqt168, r2ZVlqt168, r3ZVlqt168, r4ZVlqt168, r5ZVlqt168, r6ZVlqt168, r7ZVlqt168, r8ZVlqt168, r9ZVlqt168, r10ZVlqt168, r11ZVlqt168, r12ZVlqt168, r13ZVlqt168, r14ZVlqt168, r15ZVlqt168, r16ZVlqt168, r17ZVlqt168, r18ZVlqt168, r19ZVlqt168, r20ZVlqt168, r21ZVlqt168, r22ZVlqt168, r23ZVlqt168, r24ZVlqt168, r25ZVlqt168, k0ZVlqt168, k1ZVlqt168, k2ZVlqt168, k3ZVlqt168, k4ZVlqt168⟩ := pbZVlqt168
        obtain ⟨xq, xe, lw_223, uw_223⟩ := gf_64_13 Wqt168 t_a0
        rw [h20ZVlqt168] at xe; cases xe
        exact ⟨_, eqt168, Wqt168, F202, ⟨bpvqt168, bf2qt168, bt2qt168, bd2qt168, bksqt168, bklqt168, bkwqt168, bnaqt168, blbqt168, bnwqt168, bvnqt168, bkgqt168, bg2qt168, bcd2qt168, bkiqt168, bi2qt168, bkAqt168, bgAqt168, bkBqt168, bgBqt168, btp2qt168, h0ZVlqt168, h1ZVlqt168, h2ZVlqt168, h3ZVlqt168, h4ZVlqt168, h5ZVlqt168, h6ZVlqt168, h7ZVlqt168, h8ZVlqt168, h9ZVlqt168, h10ZVlqt168, h11ZVlqt168, h12ZVlqt168, h13ZVlqt168, h14ZVlqt168, h15ZVlqt168, h16ZVlqt168, h17ZVlqt168, h18ZVlqt168, h19ZVlqt168, h20ZVlqt168, tksqt168, tklqt168, tkwqt168, tkgqt168, tkiqt168, tkAqt168, tkBqt168, by (try dsimp only); omega, by (try dsimp only); omega, by (try dsimp only); omega, by (try dsimp only); omega, by (try dsimp only); omega, by (try dsimp only); omega, by (try dsimp only); omega, by (try dsimp only); omega, by (try dsimp only); omega, by (try dsimp only); omega, by (try dsimp only); omega, by (try dsimp only); omega, by (try dsimp only); omega, by (try dsimp only); omega, by (try dsimp only); omega, by (try dsimp only); omega, by (try dsimp only); omega, by (try dsimp only); omega, by (try dsimp only); omega, by (try dsimp only); omega, by (try dsimp only); omega, by (try dsimp only); omega, by (try dsimp only); omega, by (try dsimp only); omega, by (try dsimp only); omega, by (try dsimp only); omega, k0ZVlqt168, k1ZVlqt168, k2ZVlqt168, k3ZVlqt168, k4ZVlqt168⟩⟩
    · have := li_5
      have := i_ge q23.1
      have := i_up q23.1
      have hq52 := i_ne hq52
      unfold f_Mo_readRule_41
      obtain ⟨w27, ew27⟩ := go_64 Wq23 t_a0
      refine wb ew27 ?_
      obtain ⟨q26, eq26, Wq26, fq26, pbZSfq26⟩ := p_Mo_wrong hn Wq23  t_a0 (by omega) (by omega) (by omega) (by omega) h0ZScq23 e44
      refine wb eq26 ?_
      have e226 := (Zfr.gi fq26 t_a0 (by decide)).trans e29
      have e227 := (Zfr.gi fq26 t_a0 (by decide)).trans e30
      have e228 := (Zfr.gr fq26 t_a0 (by decide)).trans e31
      have e229 := (Zfr.gr fq26 t_a0 (by decide)).trans e32
      have e230 := (Zfr.gr fq26 t_a0 (by decide)).trans e33
      have e231 := (Zfr.ai fq26 tksq1 (by decide)).trans e34
      have e232 := (Zfr.ai fq26 tklq1 (by decide)).trans e35
      have e233 := (Zfr.ai fq26 tkwq1 (by decide)).trans e36
      have e234 := (Zfr.gi fq26 t_a0 (by decide)).trans e37
      have e235 := (Zfr.gr fq26 t_a0 (by decide)).trans e38
      have e236 := (Zfr.ai fq26 tkgq1 (by decide)).trans e39
      have e237 := (Zfr.gi fq26 t_a0 (by decide)).trans e40
      have e238 := (Zfr.gr fq26 t_a0 (by decide)).trans e41
      have e239 := (Zfr.ai fq26 tkiq1 (by decide)).trans e42
      have e240 := (Zfr.gi fq26 t_a0 (by decide)).trans e43
      have e241 := (Zfr.gi fq26 t_a0 (by decide)).trans e44
      have e242 := (Zfr.gr fq26 t_a0 (by decide)).trans h0Zkdq23
      have e243 := (Zfr.ai fq26 tkkq23 (by decide)).trans h1Zkdq23
      have k244 := GtP_fr k45 fq26 t_a0 Wq23 (by decide)
      have sc246 : Sc q23.2 q26 a0 (0) (0) := by
        obtain ⟨yf2, z0y, x0y, x1y⟩ := pbZSfq26
        exact Sc_mk h0ZScq23 z0y e44 ((Zfr.gi (ci := 12) fq26 t_a0 (by decide)).trans e44) e30 ((Zfr.gi (ci := 12) fq26 t_a0 (by decide)).trans e30) (by omega)
      have k245 := WyN_fr k46 fq26 t_a0 Wq23 (by decide) sc246
      have k247 := TbI_fr k48 fq26 t_a0 Wq23 (by decide) sc246
      have k248 := TbC_fr k49 fq26 t_a0 Wq23 (by decide) sc246
      have k249 := TkN_fr k50 fq26 t_a0 Wq23 (by decide)
      have F250 := Zfr.tr F51 fq26 (by decide)
      obtain ⟨bf2q26, h0ZSfq26, r0ZSfq26, r1ZSfq26⟩ := pbZSfq26
      have := li_m1
      obtain ⟨qt251, eqt251, Wqt251, fqt251, pbZVlqt251⟩ := p_Mo_readRule_65 hn Wq26 (x1 := (-1)) (ni := 0) t_a0 (by omega) (by omega) (by omega) (by omega) (by omega) (by omega) (by omega) (by omega) (by omega) (by omega) (by omega) (by omega) (by omega) (by omega) (by omega) (by omega) (by omega) (by omega) e226 h0ZSfq26 e241 e227 e235 e236 e237 e238 e239 e240 (by omega) (by omega) ⟨bksq1, bklq1, bkwq1, bnaq1, blbq1, bnwq1, bvnq1, e226, h0ZSfq26, e241, e227, e228, e229, e230, e231, e232, e233, e234, tksq1, tklq1, tkwq1, by (try dsimp only); omega, by (try dsimp only); omega, by (try dsimp only); omega, by (try dsimp only); omega, by (try dsimp only); omega, by (try dsimp only); omega, by (try dsimp only); omega, by (try dsimp only); omega, by (try dsimp only); omega, by (try dsimp only); omega, by (try dsimp only); omega, by (try dsimp only); omega, by (try dsimp only); omega, by (try dsimp only); omega, by (try dsimp only); omega, by (try dsimp only); omega, by (try dsimp only); omega, by (try dsimp only); omega, k244, k245, k247, k248, k249⟩
      have e273 := (Zfr.gi fqt251 t_a0 (by decide)).trans e226
      have e274 := (Zfr.gr fqt251 t_a0 (by decide)).trans e228
      have e275 := (Zfr.gr fqt251 t_a0 (by decide)).trans e229
      have e276 := (Zfr.gr fqt251 t_a0 (by decide)).trans e230
      have e277 := (Zfr.gr fqt251 t_a0 (by decide)).trans e235
      have e278 := (Zfr.gr fqt251 t_a0 (by decide)).trans e238
      have e279 := (Zfr.ai fqt251 tkiq1 (by decide)).trans e239
      have e280 := (Zfr.gi fqt251 t_a0 (by decide)).trans e240
      have e281 := (Zfr.gr fqt251 t_a0 (by decide)).trans e242
      have e282 := (Zfr.ai fqt251 tkkq23 (by decide)).trans e243
      have F283 := Zfr.tr F250 fqt251 (by decide)
      obtain ⟨bpvqt251, bf2qt251, bt2qt251, bd2qt251, bksqt251, bklqt251, bkwqt251, bnaqt251, blbqt251, bnwqt251, bvnqt251, bkgqt251, bg2qt251, bcd2qt251, bkiqt251, bi2qt251, bkAqt251, bgAqt251, bkBqt251, bgBqt251, btp2qt251, h0ZVlqt251, h1ZVlqt251, h2ZVlqt251, h3ZVlqt251, h4ZVlqt251, h5ZVlqt251, h6ZVlqt251, h7ZVlqt251, h8ZVlqt251, h9ZVlqt251, h10ZVlqt251, h11ZVlqt251, h12ZVlqt251, h13ZVlqt251, h14ZVlqt251, h15ZVlqt251, h16ZVlqt251, h17ZVlqt251, h18ZVlqt251, h19ZVlqt251, h20ZVlqt251, tksqt251, tklqt251, tkwqt251, tkgqt251, tkiqt251, tkAqt251, tkBqt251, r0ZVlqt251, r1ZVlqt251, r2ZVlqt251, r3ZVlqt251, r4ZVlqt251, r5ZVlqt251, r6ZVlqt251, r7ZVlqt251, r8ZVlqt251, r9ZVlqt251, r10ZVlqt251, r11ZVlqt251, r12ZVlqt251, r13ZVlqt251, r14ZVlqt251, r15ZVlqt251, r16ZVlqt251, r17ZVlqt251, r18ZVlqt251, r19ZVlqt251, r20ZVlqt251, r21ZVlqt251, r22ZVlqt251, r23ZVlqt251, r24ZVlqt251, r25ZVlqt251, k0ZVlqt251, k1ZVlqt251, k2ZVlqt251, k3ZVlqt251, k4ZVlqt251⟩ := pbZVlqt251
      obtain ⟨xq, xe, lw_304, uw_304⟩ := gf_64_13 Wqt251 t_a0
      rw [h20ZVlqt251] at xe; cases xe
      exact ⟨_, eqt251, Wqt251, F283, ⟨bpvqt251, bf2qt251, bt2qt251, bd2qt251, bksqt251, bklqt251, bkwqt251, bnaqt251, blbqt251, bnwqt251, bvnqt251, bkgqt251, bg2qt251, bcd2qt251, bkiqt251, bi2qt251, bkAqt251, bgAqt251, bkBqt251, bgBqt251, btp2qt251, h0ZVlqt251, h1ZVlqt251, h2ZVlqt251, h3ZVlqt251, h4ZVlqt251, h5ZVlqt251, h6ZVlqt251, h7ZVlqt251, h8ZVlqt251, h9ZVlqt251, h10ZVlqt251, h11ZVlqt251, h12ZVlqt251, h13ZVlqt251, h14ZVlqt251, h15ZVlqt251, h16ZVlqt251, h17ZVlqt251, h18ZVlqt251, h19ZVlqt251, h20ZVlqt251, tksqt251, tklqt251, tkwqt251, tkgqt251, tkiqt251, tkAqt251, tkBqt251, by (try dsimp only); omega, by (try dsimp only); omega, by (try dsimp only); omega, by (try dsimp only); omega, by (try dsimp only); omega, by (try dsimp only); omega, by (try dsimp only); omega, by (try dsimp only); omega, by (try dsimp only); omega, by (try dsimp only); omega, by (try dsimp only); omega, by (try dsimp only); omega, by (try dsimp only); omega, by (try dsimp only); omega, by (try dsimp only); omega, by (try dsimp only); omega, by (try dsimp only); omega, by (try dsimp only); omega, by (try dsimp only); omega, by (try dsimp only); omega, by (try dsimp only); omega, by (try dsimp only); omega, by (try dsimp only); omega, by (try dsimp only); omega, by (try dsimp only); omega, by (try dsimp only); omega, k0ZVlqt251, k1ZVlqt251, k2ZVlqt251, k3ZVlqt251, k4ZVlqt251⟩⟩
  · have := li_0
    have hq26 := i_ne hq26
    have := li_m1
    obtain ⟨qt305, eqt305, Wqt305, fqt305, pbZVlqt305⟩ := p_Mo_readRule_65 hn Wq3 (x1 := (-1)) (ni := 0) t_a0 (by omega) (by omega) (by omega) (by omega) (by omega) (by omega) (by omega) (by omega) (by omega) (by omega) (by omega) (by omega) (by omega) (by omega) (by omega) (by omega) (by omega) (by omega) e4 h0ZSq3 h1ZSq3 e5 e13 e14 e15 e16 e17 e18 (by omega) (by omega) ⟨bksq1, bklq1, bkwq1, bnaq1, blbq1, bnwq1, bvnq1, e4, h0ZSq3, h1ZSq3, e5, e6, e7, e8, e9, e10, e11, e12, tksq1, tklq1, tkwq1, by (try dsimp only); omega, by (try dsimp only); omega, by (try dsimp only); omega, by (try dsimp only); omega, by (try dsimp only); omega, by (try dsimp only); omega, by (try dsimp only); omega, by (try dsimp only); omega, by (try dsimp only); omega, by (try dsimp only); omega, by (try dsimp only); omega, by (try dsimp only); omega, by (try dsimp only); omega, by (try dsimp only); omega, by (try dsimp only); omega, by (try dsimp only); omega, by (try dsimp only); omega, by (try dsimp only); omega, k19, k20, k22, k23, k24⟩
    have e327 := (Zfr.gi fqt305 t_a0 (by decide)).trans e4
    have e328 := (Zfr.gr fqt305 t_a0 (by decide)).trans e6
    have e329 := (Zfr.gr fqt305 t_a0 (by decide)).trans e7
    have e330 := (Zfr.gr fqt305 t_a0 (by decide)).trans e8
    have e331 := (Zfr.gr fqt305 t_a0 (by decide)).trans e13
    have e332 := (Zfr.gr fqt305 t_a0 (by decide)).trans e16
    have e333 := (Zfr.ai fqt305 tkiq1 (by decide)).trans e17
    have e334 := (Zfr.gi fqt305 t_a0 (by decide)).trans e18
    have F335 := Zfr.tr F25 fqt305 (by decide)
    obtain ⟨bpvqt305, bf2qt305, bt2qt305, bd2qt305, bksqt305, bklqt305, bkwqt305, bnaqt305, blbqt305, bnwqt305, bvnqt305, bkgqt305, bg2qt305, bcd2qt305, bkiqt305, bi2qt305, bkAqt305, bgAqt305, bkBqt305, bgBqt305, btp2qt305, h0ZVlqt305, h1ZVlqt305, h2ZVlqt305, h3ZVlqt305, h4ZVlqt305, h5ZVlqt305, h6ZVlqt305, h7ZVlqt305, h8ZVlqt305, h9ZVlqt305, h10ZVlqt305, h11ZVlqt305, h12ZVlqt305, h13ZVlqt305, h14ZVlqt305, h15ZVlqt305, h16ZVlqt305, h17ZVlqt305, h18ZVlqt305, h19ZVlqt305, h20ZVlqt305, tksqt305, tklqt305, tkwqt305, tkgqt305, tkiqt305, tkAqt305, tkBqt305, r0ZVlqt305, r1ZVlqt305, r2ZVlqt305, r3ZVlqt305, r4ZVlqt305, r5ZVlqt305, r6ZVlqt305, r7ZVlqt305, r8ZVlqt305, r9ZVlqt305, r10ZVlqt305, r11ZVlqt305, r12ZVlqt305, r13ZVlqt305, r14ZVlqt305, r15ZVlqt305, r16ZVlqt305, r17ZVlqt305, r18ZVlqt305, r19ZVlqt305, r20ZVlqt305, r21ZVlqt305, r22ZVlqt305, r23ZVlqt305, r24ZVlqt305, r25ZVlqt305, k0ZVlqt305, k1ZVlqt305, k2ZVlqt305, k3ZVlqt305, k4ZVlqt305⟩ := pbZVlqt305
    obtain ⟨xq, xe, lw_356, uw_356⟩ := gf_64_13 Wqt305 t_a0
    rw [h20ZVlqt305] at xe; cases xe
    exact ⟨_, eqt305, Wqt305, F335, ⟨bpvqt305, bf2qt305, bt2qt305, bd2qt305, bksqt305, bklqt305, bkwqt305, bnaqt305, blbqt305, bnwqt305, bvnqt305, bkgqt305, bg2qt305, bcd2qt305, bkiqt305, bi2qt305, bkAqt305, bgAqt305, bkBqt305, bgBqt305, btp2qt305, h0ZVlqt305, h1ZVlqt305, h2ZVlqt305, h3ZVlqt305, h4ZVlqt305, h5ZVlqt305, h6ZVlqt305, h7ZVlqt305, h8ZVlqt305, h9ZVlqt305, h10ZVlqt305, h11ZVlqt305, h12ZVlqt305, h13ZVlqt305, h14ZVlqt305, h15ZVlqt305, h16ZVlqt305, h17ZVlqt305, h18ZVlqt305, h19ZVlqt305, h20ZVlqt305, tksqt305, tklqt305, tkwqt305, tkgqt305, tkiqt305, tkAqt305, tkBqt305, by (try dsimp only); omega, by (try dsimp only); omega, by (try dsimp only); omega, by (try dsimp only); omega, by (try dsimp only); omega, by (try dsimp only); omega, by (try dsimp only); omega, by (try dsimp only); omega, by (try dsimp only); omega, by (try dsimp only); omega, by (try dsimp only); omega, by (try dsimp only); omega, by (try dsimp only); omega, by (try dsimp only); omega, by (try dsimp only); omega, by (try dsimp only); omega, by (try dsimp only); omega, by (try dsimp only); omega, by (try dsimp only); omega, by (try dsimp only); omega, by (try dsimp only); omega, by (try dsimp only); omega, by (try dsimp only); omega, by (try dsimp only); omega, by (try dsimp only); omega, by (try dsimp only); omega, k0ZVlqt305, k1ZVlqt305, k2ZVlqt305, k3ZVlqt305, k4ZVlqt305⟩⟩

end ZzT
