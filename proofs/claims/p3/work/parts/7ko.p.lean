section ZzT
abbrev M_Mo_endOf : List (Nat × Nat) := [(64, 18), (64, 19), (64, 20)]
set_option maxRecDepth 100000 in
set_option maxHeartbeats 400000 in
theorem p_Mo_endOf {nf : Nat} (hn : 8589934592 ≤ nf) {G : List Nat} {c : Zc} (W : Zwt zty G c) {a0 : Nat} {fv : Int32} {tv : Int32} (t_a0 : G[a0]? = some 64) (pl_fv : 0 ≤ fv.toInt) (pu_fv : fv.toInt ≤ 6) (pl_tv : 0 ≤ tv.toInt) (pu_tv : tv.toInt ≤ 200) (eh_fv : zgi c a0 12 19 = some fv) (eh_tv : zgi c a0 12 18 = some tv) (hb_Ztk : Ztk G c a0) : ∃ q, f_Mo_endOf nf a0 c = some q ∧ Zwt zty G q.2 ∧ Zfr G M_Mo_endOf c q.2 ∧ ZSq G q.2 a0 fv tv q.1 := by
  have F0 : Zfr G M_Mo_endOf c c := Zfr.rf
  unfold f_Mo_endOf
  have k0Ztk0 := hb_Ztk
  refine wb eh_fv ?_
  refine wi (fun hq1 => ?_) (fun hq1 => ?_)
  · have := li_0
    have hq1 := i_eq hq1
    obtain ⟨w8, ew8⟩ := go_64 W t_a0
    refine wb ew8 ?_
    obtain ⟨q7, eq7, Wq7, fq7, pbZScq7, pbZkdq7⟩ := p_Mo_kind hn W  t_a0 (by omega) (by omega) (by omega) (by omega) eh_fv eh_tv
    refine wb eq7 ?_
    have e4 := (Zfr.gi fq7 t_a0 (by decide)).trans eh_tv
    have k5 := TkN_fr k0Ztk0 fq7 t_a0 W (by decide)
    have F6 := Zfr.tr F0 fq7 (by decide)
    obtain ⟨bf2q7, h0ZScq7, r0ZScq7, r1ZScq7, r2ZScq7, r3ZScq7⟩ := pbZScq7
    obtain ⟨bkkq7, h0Zkdq7, h1Zkdq7, tkkq7⟩ := pbZkdq7
    refine wi (fun hq7 => ?_) (fun hq7 => ?_)
    · have := li_2
      have := i_ge q7.1
      have := i_up q7.1
      have hq7 := i_eq hq7
      obtain ⟨w11, ew11⟩ := go_64 Wq7 t_a0
      refine wb ew11 ?_
      obtain ⟨q10, eq10, Wq10, fq10, pbZStq10⟩ := p_Mo_stands hn Wq7  t_a0 (by omega) (by omega) (by omega) (by omega) h0ZScq7 e4
      refine wb eq10 ?_
      have e10 := (Zfr.gi fq10 t_a0 (by decide)).trans e4
      have e11 := (Zfr.gr fq10 t_a0 (by decide)).trans h0Zkdq7
      have e12 := (Zfr.ai fq10 tkkq7 (by decide)).trans h1Zkdq7
      have k13 := TkN_fr k5 fq10 t_a0 Wq7 (by decide)
      have F14 := Zfr.tr F6 fq10 (by decide)
      obtain ⟨bf2q10, h0ZStq10, r0ZStq10, r1ZStq10, r2ZStq10⟩ := pbZStq10
      obtain ⟨v12, ev12, tv12⟩ := gf_64_54 Wq10 t_a0
      refine wb ev12 ?_
      obtain ⟨v13, ev13, tv13⟩ := gf_64_15 Wq10 t_a0
      refine wb ev13 ?_
      refine wb e10 ?_
      obtain ⟨v15, ev15, _⟩ := ga_75 Wq10 tv13 (i := tv) (by omega) (by omega)
      have ht15 := TkM_at (k13 _ _ e11 ev13) e12 ev15
      have := tkr2 ht15 (by omega)
      refine wb ev15 ?_
      obtain ⟨v16, ev16, pv16⟩ := ga_105 Wq10 tv12 (i := v15) (by omega) (by omega)
      have pv16 : v16.toInt = -1 ∨ (0 ≤ v16.toInt ∧ v16.toInt ≤ 7) ∨ (100 ≤ v16.toInt ∧ v16.toInt ≤ 107) := pv16
      refine wb ev16 ?_
      refine wi (fun hq16 => ?_) (fun hq16 => ?_)
      · have := li_m1
        have hq16 := i_eq hq16
        unfold f_Mo_endOf_58
        obtain ⟨v18, ev18, tv18⟩ := gf_64_16 Wq10 t_a0
        refine wb ev18 ?_
        refine wb e10 ?_
        obtain ⟨v20, ev20, _⟩ := ga_76 Wq10 tv18 (i := tv) (by omega) (by omega)
        refine wb ev20 ?_
        obtain ⟨w22, ew22⟩ := go_64 Wq10 t_a0
        refine wb ew22 ?_
        have := li_5
        obtain ⟨q21, eq21, Wq21, fq21, pbZSfq21⟩ := p_Mo_refuse hn Wq10 (a1 := 5) (a2 := v20) t_a0 (by omega) (by omega) (by omega) (by omega) h0ZStq10
        refine wb eq21 ?_
        have e18 := (Zfr.gi fq21 t_a0 (by decide)).trans e10
        have e19 := (Zfr.gr fq21 t_a0 (by decide)).trans e11
        have e20 := (Zfr.ai fq21 tkkq7 (by decide)).trans e12
        have e21 := (Zfr.gr fq21 t_a0 (by decide)).trans ev13
        have e22 := (Zfr.ai fq21 tv13 (by decide)).trans ev15
        have e23 := (Zfr.ai fq21 tv12 (by decide)).trans ev16
        have e24 := (Zfr.ai fq21 tv18 (by decide)).trans ev20
        have k25 := TkN_fr k13 fq21 t_a0 Wq10 (by decide)
        have F26 := Zfr.tr F14 fq21 (by decide)
        obtain ⟨bf2q21, h0ZSfq21, r0ZSfq21, r1ZSfq21⟩ := pbZSfq21
        unfold f_Mo_endOf_72
        obtain ⟨w24, ew24⟩ := go_64 Wq21 t_a0
        refine wb ew24 ?_
        obtain ⟨q23, eq23, Wq23, fq23, pbZSq23⟩ := p_Mo_pass hn Wq21  t_a0 (by omega) (by omega) (by omega) (by omega) h0ZSfq21 e18
        refine wb eq23 ?_
        have e29 := (Zfr.gr fq23 t_a0 (by decide)).trans e19
        have e30 := (Zfr.ai fq23 tkkq7 (by decide)).trans e20
        have e31 := (Zfr.gr fq23 t_a0 (by decide)).trans e21
        have e32 := (Zfr.ai fq23 tv13 (by decide)).trans e22
        have e33 := (Zfr.ai fq23 tv12 (by decide)).trans e23
        have e34 := (Zfr.ai fq23 tv18 (by decide)).trans e24
        have k35 := TkN_fr k25 fq23 t_a0 Wq21 (by decide)
        have F36 := Zfr.tr F26 fq23 (by decide)
        have := li_1
        obtain ⟨bf2q23, bt2q23, h0ZSq23, h1ZSq23, r0ZSq23, r1ZSq23, r2ZSq23, r3ZSq23, r4ZSq23, r5ZSq23⟩ := pbZSq23
        exact ⟨_, rfl, Wq23, F36, ⟨bf2q23, bt2q23, h0ZSq23, h1ZSq23, by (try dsimp only); omega, by (try dsimp only); omega, by (try dsimp only); omega, by (try dsimp only); omega, by (try dsimp only); omega, by (try dsimp only); omega⟩⟩
      · have := li_m1
        have hq16 := i_ne hq16
        refine wi (fun hq39 => ?_) (fun hq39 => ?_)
        · have := li_100
          have hq39 := i_lt hq39
          unfold f_Mo_endOf_72
          obtain ⟨w24, ew24⟩ := go_64 Wq10 t_a0
          refine wb ew24 ?_
          obtain ⟨q23, eq23, Wq23, fq23, pbZSq23⟩ := p_Mo_pass hn Wq10  t_a0 (by omega) (by omega) (by omega) (by omega) h0ZStq10 e10
          refine wb eq23 ?_
          have e42 := (Zfr.gr fq23 t_a0 (by decide)).trans e11
          have e43 := (Zfr.ai fq23 tkkq7 (by decide)).trans e12
          have e44 := (Zfr.gr fq23 t_a0 (by decide)).trans ev13
          have e45 := (Zfr.ai fq23 tv13 (by decide)).trans ev15
          have e46 := (Zfr.ai fq23 tv12 (by decide)).trans ev16
          have k47 := TkN_fr k13 fq23 t_a0 Wq10 (by decide)
          have F48 := Zfr.tr F14 fq23 (by decide)
          have := li_1
          obtain ⟨bf2q23, bt2q23, h0ZSq23, h1ZSq23, r0ZSq23, r1ZSq23, r2ZSq23, r3ZSq23, r4ZSq23, r5ZSq23⟩ := pbZSq23
          exact ⟨_, rfl, Wq23, F48, ⟨bf2q23, bt2q23, h0ZSq23, h1ZSq23, by (try dsimp only); omega, by (try dsimp only); omega, by (try dsimp only); omega, by (try dsimp only); omega, by (try dsimp only); omega, by (try dsimp only); omega⟩⟩
        · have := li_100
          have hq39 := i_nlt hq39
          unfold f_Mo_endOf_58
          obtain ⟨v18, ev18, tv18⟩ := gf_64_16 Wq10 t_a0
          refine wb ev18 ?_
          refine wb e10 ?_
          obtain ⟨v20, ev20, _⟩ := ga_76 Wq10 tv18 (i := tv) (by omega) (by omega)
          refine wb ev20 ?_
          obtain ⟨w22, ew22⟩ := go_64 Wq10 t_a0
          refine wb ew22 ?_
          have := li_5
          obtain ⟨q21, eq21, Wq21, fq21, pbZSfq21⟩ := p_Mo_refuse hn Wq10 (a1 := 5) (a2 := v20) t_a0 (by omega) (by omega) (by omega) (by omega) h0ZStq10
          refine wb eq21 ?_
          have e52 := (Zfr.gi fq21 t_a0 (by decide)).trans e10
          have e53 := (Zfr.gr fq21 t_a0 (by decide)).trans e11
          have e54 := (Zfr.ai fq21 tkkq7 (by decide)).trans e12
          have e55 := (Zfr.gr fq21 t_a0 (by decide)).trans ev13
          have e56 := (Zfr.ai fq21 tv13 (by decide)).trans ev15
          have e57 := (Zfr.ai fq21 tv12 (by decide)).trans ev16
          have e58 := (Zfr.ai fq21 tv18 (by decide)).trans ev20
          have k59 := TkN_fr k13 fq21 t_a0 Wq10 (by decide)
          have F60 := Zfr.tr F14 fq21 (by decide)
          obtain ⟨bf2q21, h0ZSfq21, r0ZSfq21, r1ZSfq21⟩ := pbZSfq21
          unfold f_Mo_endOf_72
          obtain ⟨w24, ew24⟩ := go_64 Wq21 t_a0
          refine wb ew24 ?_
          obtain ⟨q23, eq23, Wq23, fq23, pbZSq23⟩ := p_Mo_pass hn Wq21  t_a0 (by omega) (by omega) (by omega) (by omega) h0ZSfq21 e52
          refine wb eq23 ?_
          have e63 := (Zfr.gr fq23 t_a0 (by decide)).trans e53
          have e64 := (Zfr.ai fq23 tkkq7 (by decide)).trans e54
          have e65 := (Zfr.gr fq23 t_a0 (by decide)).trans e55
          have e66 := (Zfr.ai fq23 tv13 (by decide)).trans e56
          have e67 := (Zfr.ai fq23 tv12 (by decide)).trans e57
          have e68 := (Zfr.ai fq23 tv18 (by decide)).trans e58
          have k69 := TkN_fr k59 fq23 t_a0 Wq21 (by decide)
          have F70 := Zfr.tr F60 fq23 (by decide)
          have := li_1
          obtain ⟨bf2q23, bt2q23, h0ZSq23, h1ZSq23, r0ZSq23, r1ZSq23, r2ZSq23, r3ZSq23, r4ZSq23, r5ZSq23⟩ := pbZSq23
          exact ⟨_, rfl, Wq23, F70, ⟨bf2q23, bt2q23, h0ZSq23, h1ZSq23, by (try dsimp only); omega, by (try dsimp only); omega, by (try dsimp only); omega, by (try dsimp only); omega, by (try dsimp only); omega, by (try dsimp only); omega⟩⟩
    · have := li_2
      have := i_ge q7.1
      have := i_up q7.1
      have hq7 := i_ne hq7
      unfold f_Mo_endOf_15
      refine wb h0ZScq7 ?_
      refine wi (fun hq73 => ?_) (fun hq73 => ?_)
      · have hq73 := i_eq hq73
        obtain ⟨w6, ew6⟩ := go_64 Wq7 t_a0
        refine wb ew6 ?_
        obtain ⟨q5, eq5, Wq5, fq5, pbZSfq5⟩ := p_Mo_wrong hn Wq7  t_a0 (by omega) (by omega) (by omega) (by omega) h0ZScq7 e4
        refine wb eq5 ?_
        have e76 := (Zfr.gi fq5 t_a0 (by decide)).trans e4
        have e77 := (Zfr.gr fq5 t_a0 (by decide)).trans h0Zkdq7
        have e78 := (Zfr.ai fq5 tkkq7 (by decide)).trans h1Zkdq7
        have k79 := TkN_fr k5 fq5 t_a0 Wq7 (by decide)
        have F80 := Zfr.tr F6 fq5 (by decide)
        obtain ⟨bf2q5, h0ZSfq5, r0ZSfq5, r1ZSfq5⟩ := pbZSfq5
        unfold f_Mo_endOf_26
        have := li_m1
        exact ⟨_, rfl, Wq5, F80, ⟨bf2q5, tv, h0ZSfq5, e76, by (try dsimp only); omega, by (try dsimp only); omega, by (try dsimp only); omega, by (try dsimp only); omega, by (try dsimp only); omega, by (try dsimp only); omega⟩⟩
      · have hq73 := i_ne hq73
        unfold f_Mo_endOf_26
        have := li_m1
        exact ⟨_, rfl, Wq7, F6, ⟨bf2q7, tv, h0ZScq7, e4, by (try dsimp only); omega, by (try dsimp only); omega, by (try dsimp only); omega, by (try dsimp only); omega, by (try dsimp only); omega, by (try dsimp only); omega⟩⟩
  · have := li_0
    have hq1 := i_ne hq1
    unfold f_Mo_endOf_15
    refine wb eh_fv ?_
    refine wi (fun hq85 => ?_) (fun hq85 => ?_)
    · have hq85 := i_eq hq85
      exfalso
      omega
    · have hq85 := i_ne hq85
      unfold f_Mo_endOf_26
      have := li_m1
      exact ⟨_, rfl, W, F0, ⟨fv, tv, eh_fv, eh_tv, by (try dsimp only); omega, by (try dsimp only); omega, by (try dsimp only); omega, by (try dsimp only); omega, by (try dsimp only); omega, by (try dsimp only); omega⟩⟩

abbrev M_Mo_readRule_65 : List (Nat × Nat) := [(64, 18), (64, 19), (64, 20), (64, 21), (64, 52), (64, 53), (64, 56), (64, 57), (64, 65), (64, 69), (79, 0), (80, 0), (81, 0), (82, 0), (83, 0), (84, 0), (85, 0), (86, 0), (87, 0), (88, 0), (89, 0), (90, 0), (91, 0), (92, 0), (93, 0), (94, 0), (95, 0), (99, 0), (101, 0), (102, 0), (103, 0), (104, 0), (105, 0), (106, 0), (107, 0), (108, 0), (109, 0), (110, 0), (111, 0), (112, 0), (113, 0), (114, 0), (115, 0), (116, 0), (134, 0)]
set_option maxRecDepth 100000 in
set_option maxHeartbeats 4000000 in
theorem p_Mo_readRule_65 {nf : Nat} (hn : 8589934592 ≤ nf) {G : List Nat} {c : Zc} (W : Zwt zty G c) {x0 : Nat} {x1 : Int32} {ni : Int32} {pv : Int32} {fv : Int32} {tv : Int32} {dv : Int32} {kg : Nat} {gc : Int32} {cd : Int32} {ki : Nat} {it : Int32} (t_x0 : G[x0]? = some 64) (pl_pv : 0 ≤ pv.toInt) (pu_pv : pv.toInt ≤ 8) (pl_fv : 0 ≤ fv.toInt) (pu_fv : fv.toInt ≤ 6) (pl_tv : 0 ≤ tv.toInt) (pu_tv : tv.toInt ≤ 200) (pl_dv : 0 ≤ dv.toInt) (pu_dv : dv.toInt ≤ 11) (pl_gc : 0 ≤ gc.toInt) (pu_gc : gc.toInt ≤ 79) (pl_cd : 0 ≤ cd.toInt) (pu_cd : cd.toInt ≤ 400) (pl_it : 0 ≤ it.toInt) (pu_it : it.toInt ≤ 8) (pl_x1 : (-1) ≤ x1.toInt) (pu_x1 : x1.toInt ≤ 3) (eh_pv : zgi c x0 12 25 = some pv) (eh_fv : zgi c x0 12 19 = some fv) (eh_tv : zgi c x0 12 18 = some tv) (eh_dv : zgi c x0 12 53 = some dv) (eh_kg : zgr c x0 12 28 = some kg) (eh_gc : zai c kg 0 pv = some gc) (eh_cd : zgi c x0 12 52 = some cd) (eh_ki : zgr c x0 12 43 = some ki) (eh_it : zai c ki 0 pv = some it) (pp_7 : it.toInt = ni.toInt) (pp_9 : (¬ fv.toInt = 0 ∨ (0 ≤ x1.toInt ∧ 3 * gc.toInt ≤ tv.toInt ∧ cd.toInt ≤ tv.toInt))) (hb_ZV : ZV G c x0 pv fv tv dv ni 1) : ∃ q, f_Mo_readRule_65 nf x0 x1 c = some q ∧ Zwt zty G q.2 ∧ Zfr G M_Mo_readRule_65 c q.2 ∧ ZVl G q.2 x0 q.1 := by
  have F0 : Zfr G M_Mo_readRule_65 c c := Zfr.rf
  unfold f_Mo_readRule_65
  obtain ⟨xq, xe, tqw_1⟩ := gf_64_28 W t_x0
  rw [eh_kg] at xe; cases xe
  obtain ⟨xq, xe, tqw_2⟩ := gf_64_43 W t_x0
  rw [eh_ki] at xe; cases xe
  have := li_1
  obtain ⟨bks0, bkl0, bkw0, bna0, blb0, bnw0, bvn0, h0ZV0, h1ZV0, h2ZV0, h3ZV0, h4ZV0, h5ZV0, h6ZV0, h7ZV0, h8ZV0, h9ZV0, h10ZV0, tks0, tkl0, tkw0, r0ZV0, r1ZV0, r2ZV0, r3ZV0, r4ZV0, r5ZV0, r6ZV0, r7ZV0, r8ZV0, r9ZV0, r10ZV0, r11ZV0, r12ZV0, r13ZV0, r14ZV0, r15ZV0, r16ZV0, r17ZV0, k0ZV0, k1ZV0, k2ZV0, k3ZV0, k4ZV0⟩ := hb_ZV
  obtain ⟨w8, ew8⟩ := go_64 W t_x0
  refine wb ew8 ?_
  obtain ⟨q7, eq7, Wq7, fq7, pbZVhq7⟩ := p_Mo_patterns hn W (ni := ni) (bc := 1) t_x0 (by omega) (by omega) (by omega) (by omega) (by omega) (by omega) (by omega) (by omega) (by omega) (by omega) (by omega) (by omega) h0ZV0 h1ZV0 h2ZV0 h3ZV0 eh_kg eh_gc eh_cd (by omega) ⟨bks0, bkl0, bkw0, bna0, blb0, bnw0, bvn0, h0ZV0, h1ZV0, h2ZV0, h3ZV0, h4ZV0, h5ZV0, h6ZV0, h7ZV0, h8ZV0, h9ZV0, h10ZV0, tks0, tkl0, tkw0, by (try dsimp only); omega, by (try dsimp only); omega, by (try dsimp only); omega, by (try dsimp only); omega, by (try dsimp only); omega, by (try dsimp only); omega, by (try dsimp only); omega, by (try dsimp only); omega, by (try dsimp only); omega, by (try dsimp only); omega, by (try dsimp only); omega, by (try dsimp only); omega, by (try dsimp only); omega, by (try dsimp only); omega, by (try dsimp only); omega, by (try dsimp only); omega, by (try dsimp only); omega, by (try dsimp only); omega, k0ZV0, k1ZV0, k2ZV0, k3ZV0, k4ZV0⟩
  refine wb eq7 ?_
  have e21 := (Zfr.gi fq7 t_x0 (by decide)).trans h0ZV0
  have e22 := (Zfr.gr fq7 t_x0 (by decide)).trans eh_kg
  have e23 := (Zfr.gr fq7 t_x0 (by decide)).trans eh_ki
  have e24 := (Zfr.ai fq7 tqw_2 (by decide)).trans eh_it
  have e25 := (Zfr.gr fq7 t_x0 (by decide)).trans h4ZV0
  have e26 := (Zfr.gr fq7 t_x0 (by decide)).trans h5ZV0
  have e27 := (Zfr.gr fq7 t_x0 (by decide)).trans h6ZV0
  have F28 := Zfr.tr F0 fq7 (by decide)
  obtain ⟨bf2q7, bt2q7, bd2q7, bksq7, bklq7, bkwq7, bnaq7, blbq7, bnwq7, bvnq7, bkgq7, bg2q7, bcd2q7, h0ZVhq7, h1ZVhq7, h2ZVhq7, h3ZVhq7, h4ZVhq7, h5ZVhq7, h6ZVhq7, h7ZVhq7, h8ZVhq7, h9ZVhq7, h10ZVhq7, h11ZVhq7, h12ZVhq7, h13ZVhq7, tksq7, tklq7, tkwq7, tkgq7, r0ZVhq7, r1ZVhq7, r2ZVhq7, r3ZVhq7, r4ZVhq7, r5ZVhq7, r6ZVhq7, r7ZVhq7, r8ZVhq7, r9ZVhq7, r10ZVhq7, r11ZVhq7, r12ZVhq7, r13ZVhq7, r14ZVhq7, r15ZVhq7, r16ZVhq7, r17ZVhq7, r18ZVhq7, r19ZVhq7, r20ZVhq7, r21ZVhq7, r22ZVhq7, r23ZVhq7, k0ZVhq7, k1ZVhq7, k2ZVhq7, k3ZVhq7, k4ZVhq7⟩ := pbZVhq7
  obtain ⟨v9, ev9, tv9⟩ := gf_64_48 Wq7 t_x0
  refine wb ev9 ?_
  refine wb h0ZVhq7 ?_
  obtain ⟨w12, ew12⟩ := go_64 Wq7 t_x0
  refine wb ew12 ?_
  obtain ⟨q11, eq11, Wq11, fq11, pbZSqq11⟩ := p_Mo_endOf hn Wq7  t_x0 (by omega) (by omega) (by omega) (by omega) h1ZVhq7 h2ZVhq7 k4ZVhq7
  refine wb eq11 ?_
  have e31 := (Zfr.gi fq11 t_x0 (by decide)).trans h0ZVhq7
  have e32 := (Zfr.gr fq11 t_x0 (by decide)).trans h11ZVhq7
  have e33 := (Zfr.gr fq11 t_x0 (by decide)).trans e23
  have e34 := (Zfr.ai fq11 tqw_2 (by decide)).trans e24
  have e35 := (Zfr.gr fq11 t_x0 (by decide)).trans h4ZVhq7
  have e36 := (Zfr.gr fq11 t_x0 (by decide)).trans h5ZVhq7
  have e37 := (Zfr.gr fq11 t_x0 (by decide)).trans h6ZVhq7
  have e38 := (Zfr.gi fq11 t_x0 (by decide)).trans h3ZVhq7
  have e39 := (Zfr.ai fq11 tksq7 (by decide)).trans h7ZVhq7
  have e40 := (Zfr.ai fq11 tklq7 (by decide)).trans h8ZVhq7
  have e41 := (Zfr.ai fq11 tkwq7 (by decide)).trans h9ZVhq7
  have e42 := (Zfr.gi fq11 t_x0 (by decide)).trans h10ZVhq7
  have e43 := (Zfr.ai fq11 tkgq7 (by decide)).trans h12ZVhq7
  have e44 := (Zfr.gi fq11 t_x0 (by decide)).trans h13ZVhq7
  have e45 := (Zfr.gr fq11 t_x0 (by decide)).trans ev9
  have k46 := GtP_fr k0ZVhq7 fq11 t_x0 Wq7 (by decide)
  have sc48 : Sc q7 q11.2 x0 (0) (0) := by
    obtain ⟨yf2, yt2, z0y, z1y, x0y, x1y, x2y, x3y, x4y, x5y⟩ := pbZSqq11
    exact Sc_mk h1ZVhq7 z0y h2ZVhq7 z1y h3ZVhq7 ((Zfr.gi (ci := 12) fq11 t_x0 (by decide)).trans h3ZVhq7) (by omega)
  have k47 := WyN_fr k1ZVhq7 fq11 t_x0 Wq7 (by decide) sc48
  have k49 := TbI_fr k2ZVhq7 fq11 t_x0 Wq7 (by decide) sc48
  have k50 := TbC_fr k3ZVhq7 fq11 t_x0 Wq7 (by decide) sc48
  have k51 := TkN_fr k4ZVhq7 fq11 t_x0 Wq7 (by decide)
  have F52 := Zfr.tr F28 fq11 (by decide)
  obtain ⟨bf2q11, bt2q11, h0ZSqq11, h1ZSqq11, r0ZSqq11, r1ZSqq11, r2ZSqq11, r3ZSqq11, r4ZSqq11, r5ZSqq11⟩ := pbZSqq11
  obtain ⟨c13, ec13, Wc13, fc13, gc13⟩ := pa_101 Wq11 tv9 (i := pv) (by omega) (by omega) (x := q11.1) (trivial)
  refine wb ec13 ?_
  have e53 := (Zfr.gi fc13 t_x0 (by decide)).trans e31
  have e54 := (Zfr.gr fc13 t_x0 (by decide)).trans e32
  have e55 := (Zfr.gr fc13 t_x0 (by decide)).trans e33
  have e56 := (Zfr.ai fc13 tqw_2 (by decide)).trans e34
  have e57 := (Zfr.gr fc13 t_x0 (by decide)).trans e35
  have e58 := (Zfr.gr fc13 t_x0 (by decide)).trans e36
  have e59 := (Zfr.gr fc13 t_x0 (by decide)).trans e37
  have e60 := (Zfr.gi fc13 t_x0 (by decide)).trans e38
  have e61 := (Zfr.ai fc13 tksq7 (by decide)).trans e39
  have e62 := (Zfr.ai fc13 tklq7 (by decide)).trans e40
  have e63 := (Zfr.ai fc13 tkwq7 (by decide)).trans e41
  have e64 := (Zfr.gi fc13 t_x0 (by decide)).trans e42
  have e65 := (Zfr.ai fc13 tkgq7 (by decide)).trans e43
  have e66 := (Zfr.gi fc13 t_x0 (by decide)).trans e44
  have e67 := (Zfr.gr fc13 t_x0 (by decide)).trans e45
  have e68 := (Zfr.gi fc13 t_x0 (by decide)).trans h0ZSqq11
  have e69 := (Zfr.gi fc13 t_x0 (by decide)).trans h1ZSqq11
  have k70 := GtP_w48 k46 Wq11 t_x0 fc13 e31 e45 ec13 (by omega) (by omega) (by omega)
  have sc72 := Sc_fr fc13 t_x0 (by decide) (by decide) (by decide)
  have k71 := WyN_fr k47 fc13 t_x0 Wq11 (by decide) sc72
  have k73 := TbI_fr k49 fc13 t_x0 Wq11 (by decide) sc72
  have k74 := TbC_fr k50 fc13 t_x0 Wq11 (by decide) sc72
  have k75 := TkN_fr k51 fc13 t_x0 Wq11 (by decide)
  have F76 := Zfr.tr F52 fc13 (by decide)
  obtain ⟨w15, ew15⟩ := go_64 Wc13 t_x0
  refine wb ew15 ?_
  have := li_44
  obtain ⟨q14, eq14, Wq14, fq14, pbZSq14⟩ := p_Mo_need hn Wc13 (a1 := 44) t_x0 (by omega) (by omega) (by omega) (by omega) e68 e69
  refine wb eq14 ?_
  have e79 := (Zfr.gi fq14 t_x0 (by decide)).trans e53
  have e80 := (Zfr.gr fq14 t_x0 (by decide)).trans e54
  have e81 := (Zfr.gr fq14 t_x0 (by decide)).trans e55
  have e82 := (Zfr.ai fq14 tqw_2 (by decide)).trans e56
  have e83 := (Zfr.gr fq14 t_x0 (by decide)).trans e57
  have e84 := (Zfr.gr fq14 t_x0 (by decide)).trans e58
  have e85 := (Zfr.gr fq14 t_x0 (by decide)).trans e59
  have e86 := (Zfr.gi fq14 t_x0 (by decide)).trans e60
  have e87 := (Zfr.ai fq14 tksq7 (by decide)).trans e61
  have e88 := (Zfr.ai fq14 tklq7 (by decide)).trans e62
  have e89 := (Zfr.ai fq14 tkwq7 (by decide)).trans e63
  have e90 := (Zfr.gi fq14 t_x0 (by decide)).trans e64
  have e91 := (Zfr.ai fq14 tkgq7 (by decide)).trans e65
  have e92 := (Zfr.gi fq14 t_x0 (by decide)).trans e66
  have e93 := (Zfr.gr fq14 t_x0 (by decide)).trans e67
  have e94 := (Zfr.ai fq14 tv9 (by decide)).trans gc13
  have k95 := GtP_fr k70 fq14 t_x0 Wc13 (by decide)
  have sc97 : Sc c13 q14 x0 (1) (0) := by
    obtain ⟨yf2, yt2, z0y, z1y, x0y, x1y, x2y, x3y, x4y, x5y⟩ := pbZSq14
    exact Sc_mk e68 z0y e69 z1y e60 ((Zfr.gi (ci := 12) fq14 t_x0 (by decide)).trans e60) (by omega)
  have k96 := WyN_fr k71 fq14 t_x0 Wc13 (by decide) sc97
  have k98 := TbI_fr k73 fq14 t_x0 Wc13 (by decide) sc97
  have k99 := TbC_fr k74 fq14 t_x0 Wc13 (by decide) sc97
  have k100 := TkN_fr k75 fq14 t_x0 Wc13 (by decide)
  have F101 := Zfr.tr F76 fq14 (by decide)
  obtain ⟨bf2q14, bt2q14, h0ZSq14, h1ZSq14, r0ZSq14, r1ZSq14, r2ZSq14, r3ZSq14, r4ZSq14, r5ZSq14⟩ := pbZSq14
  obtain ⟨v16, ev16, tv16⟩ := gf_64_49 Wq14 t_x0
  refine wb ev16 ?_
  refine wb e79 ?_
  obtain ⟨w19, ew19⟩ := go_64 Wq14 t_x0
  refine wb ew19 ?_
  obtain ⟨q18, eq18, Wq18, fq18, pbZSqq18⟩ := p_Mo_endOf hn Wq14  t_x0 (by omega) (by omega) (by omega) (by omega) h0ZSq14 h1ZSq14 k100
  refine wb eq18 ?_
  have e104 := (Zfr.gi fq18 t_x0 (by decide)).trans e79
  have e105 := (Zfr.gr fq18 t_x0 (by decide)).trans e80
  have e106 := (Zfr.gr fq18 t_x0 (by decide)).trans e81
  have e107 := (Zfr.ai fq18 tqw_2 (by decide)).trans e82
  have e108 := (Zfr.gr fq18 t_x0 (by decide)).trans e83
  have e109 := (Zfr.gr fq18 t_x0 (by decide)).trans e84
  have e110 := (Zfr.gr fq18 t_x0 (by decide)).trans e85
  have e111 := (Zfr.gi fq18 t_x0 (by decide)).trans e86
  have e112 := (Zfr.ai fq18 tksq7 (by decide)).trans e87
  have e113 := (Zfr.ai fq18 tklq7 (by decide)).trans e88
  have e114 := (Zfr.ai fq18 tkwq7 (by decide)).trans e89
  have e115 := (Zfr.gi fq18 t_x0 (by decide)).trans e90
  have e116 := (Zfr.ai fq18 tkgq7 (by decide)).trans e91
  have e117 := (Zfr.gi fq18 t_x0 (by decide)).trans e92
  have e118 := (Zfr.gr fq18 t_x0 (by decide)).trans e93
  have e119 := (Zfr.ai fq18 tv9 (by decide)).trans e94
  have e120 := (Zfr.gr fq18 t_x0 (by decide)).trans ev16
  have k121 := GtP_fr k95 fq18 t_x0 Wq14 (by decide)
  have sc123 : Sc q14 q18.2 x0 (0) (0) := by
    obtain ⟨yf2, yt2, z0y, z1y, x0y, x1y, x2y, x3y, x4y, x5y⟩ := pbZSqq18
    exact Sc_mk h0ZSq14 z0y h1ZSq14 z1y e86 ((Zfr.gi (ci := 12) fq18 t_x0 (by decide)).trans e86) (by omega)
  have k122 := WyN_fr k96 fq18 t_x0 Wq14 (by decide) sc123
  have k124 := TbI_fr k98 fq18 t_x0 Wq14 (by decide) sc123
  have k125 := TbC_fr k99 fq18 t_x0 Wq14 (by decide) sc123
  have k126 := TkN_fr k100 fq18 t_x0 Wq14 (by decide)
  have F127 := Zfr.tr F101 fq18 (by decide)
  obtain ⟨bf2q18, bt2q18, h0ZSqq18, h1ZSqq18, r0ZSqq18, r1ZSqq18, r2ZSqq18, r3ZSqq18, r4ZSqq18, r5ZSqq18⟩ := pbZSqq18
  obtain ⟨c20, ec20, Wc20, fc20, gc20⟩ := pa_102 Wq18 tv16 (i := pv) (by omega) (by omega) (x := q18.1) (trivial)
  refine wb ec20 ?_
  have e128 := (Zfr.gi fc20 t_x0 (by decide)).trans e104
  have e129 := (Zfr.gr fc20 t_x0 (by decide)).trans e105
  have e130 := (Zfr.gr fc20 t_x0 (by decide)).trans e106
  have e131 := (Zfr.ai fc20 tqw_2 (by decide)).trans e107
  have e132 := (Zfr.gr fc20 t_x0 (by decide)).trans e108
  have e133 := (Zfr.gr fc20 t_x0 (by decide)).trans e109
  have e134 := (Zfr.gr fc20 t_x0 (by decide)).trans e110
  have e135 := (Zfr.gi fc20 t_x0 (by decide)).trans e111
  have e136 := (Zfr.ai fc20 tksq7 (by decide)).trans e112
  have e137 := (Zfr.ai fc20 tklq7 (by decide)).trans e113
  have e138 := (Zfr.ai fc20 tkwq7 (by decide)).trans e114
  have e139 := (Zfr.gi fc20 t_x0 (by decide)).trans e115
  have e140 := (Zfr.ai fc20 tkgq7 (by decide)).trans e116
  have e141 := (Zfr.gi fc20 t_x0 (by decide)).trans e117
  have e142 := (Zfr.gr fc20 t_x0 (by decide)).trans e118
  have e143 := (Zfr.ai fc20 tv9 (by decide)).trans e119
  have e144 := (Zfr.gr fc20 t_x0 (by decide)).trans e120
  have e145 := (Zfr.gi fc20 t_x0 (by decide)).trans h0ZSqq18
  have e146 := (Zfr.gi fc20 t_x0 (by decide)).trans h1ZSqq18
  have k147 := GtP_w49 k121 Wq18 t_x0 fc20 e104 e120 ec20 (by omega) (by omega) (by omega)
  have sc149 := Sc_fr fc20 t_x0 (by decide) (by decide) (by decide)
  have k148 := WyN_fr k122 fc20 t_x0 Wq18 (by decide) sc149
  have k150 := TbI_fr k124 fc20 t_x0 Wq18 (by decide) sc149
  have k151 := TbC_fr k125 fc20 t_x0 Wq18 (by decide) sc149
  have k152 := TkN_fr k126 fc20 t_x0 Wq18 (by decide)
  have F153 := Zfr.tr F127 fc20 (by decide)
  obtain ⟨w22, ew22⟩ := go_64 Wc20 t_x0
  refine wb ew22 ?_
  obtain ⟨q21, eq21, Wq21, fq21, pbZSeq21⟩ := p_Mo_ended hn Wc20 (a1 := x1) t_x0 (by omega) (by omega) (by omega) (by omega) e145 e146
  refine wb eq21 ?_
  have e156 := (Zfr.gi fq21 t_x0 (by decide)).trans e128
  have e157 := (Zfr.gr fq21 t_x0 (by decide)).trans e129
  have e158 := (Zfr.gr fq21 t_x0 (by decide)).trans e130
  have e159 := (Zfr.ai fq21 tqw_2 (by decide)).trans e131
  have e160 := (Zfr.gr fq21 t_x0 (by decide)).trans e132
  have e161 := (Zfr.gr fq21 t_x0 (by decide)).trans e133
  have e162 := (Zfr.gr fq21 t_x0 (by decide)).trans e134
  have e163 := (Zfr.gi fq21 t_x0 (by decide)).trans e135
  have e164 := (Zfr.ai fq21 tksq7 (by decide)).trans e136
  have e165 := (Zfr.ai fq21 tklq7 (by decide)).trans e137
  have e166 := (Zfr.ai fq21 tkwq7 (by decide)).trans e138
  have e167 := (Zfr.gi fq21 t_x0 (by decide)).trans e139
  have e168 := (Zfr.ai fq21 tkgq7 (by decide)).trans e140
  have e169 := (Zfr.gi fq21 t_x0 (by decide)).trans e141
  have e170 := (Zfr.gr fq21 t_x0 (by decide)).trans e142
  have e171 := (Zfr.ai fq21 tv9 (by decide)).trans e143
  have e172 := (Zfr.gr fq21 t_x0 (by decide)).trans e144
  have e173 := (Zfr.gi fq21 t_x0 (by decide)).trans e146
  have e174 := (Zfr.ai fq21 tv16 (by decide)).trans gc20
  have k175 := GtP_fr k147 fq21 t_x0 Wc20 (by decide)
  have sc177 : Sc c20 q21.2 x0 (0) (0) := by
    obtain ⟨yf2, z0y, x0y, x1y, x2y, x3y⟩ := pbZSeq21
    exact Sc_mk e145 z0y e146 ((Zfr.gi (ci := 12) fq21 t_x0 (by decide)).trans e146) e135 ((Zfr.gi (ci := 12) fq21 t_x0 (by decide)).trans e135) (by omega)
  have k176 := WyN_fr k148 fq21 t_x0 Wc20 (by decide) sc177
  have k178 := TbI_fr k150 fq21 t_x0 Wc20 (by decide) sc177
  have k179 := TbC_fr k151 fq21 t_x0 Wc20 (by decide) sc177
  have k180 := TkN_fr k152 fq21 t_x0 Wc20 (by decide)
  have F181 := Zfr.tr F153 fq21 (by decide)
  obtain ⟨bf2q21, h0ZSeq21, r0ZSeq21, r1ZSeq21, r2ZSeq21, r3ZSeq21⟩ := pbZSeq21
  obtain ⟨w_202, ew_202, lw_202, uw_202⟩ := gf_64_13 Wq21 t_x0
  exact ⟨_, rfl, Wq21, F181, ⟨pv, bf2q21, bt2q18, bd2q7, bksq7, bklq7, bkwq7, bnaq7, blbq7, bnwq7, bvnq7, bkgq7, bg2q7, bcd2q7, ki, it, v9, q11.1, v16, q18.1, w_202, e156, h0ZSeq21, e173, e163, e160, e161, e162, e164, e165, e166, e167, e157, e168, e169, e158, e159, e170, e171, e172, e174, ew_202, tksq7, tklq7, tkwq7, tkgq7, tqw_2, tv9, tv16, by (try dsimp only); omega, by (try dsimp only); omega, by (try dsimp only); omega, by (try dsimp only); omega, by (try dsimp only); omega, by (try dsimp only); omega, by (try dsimp only); omega, by (try dsimp only); omega, by (try dsimp only); omega, by (try dsimp only); omega, by (try dsimp only); omega, by (try dsimp only); omega, by (try dsimp only); omega, by (try dsimp only); omega, by (try dsimp only); omega, by (try dsimp only); omega, by (try dsimp only); omega, by (try dsimp only); omega, by (try dsimp only); omega, by (try dsimp only); omega, by (try dsimp only); omega, by (try dsimp only); omega, by (try dsimp only); omega, by (try dsimp only); omega, by (try dsimp only); omega, by (try dsimp only); omega, k175, k176, TbI_m k178 (by omega), k179, k180⟩⟩

abbrev M_Mo_readRule : List (Nat × Nat) := [(64, 13), (64, 17), (64, 18), (64, 19), (64, 20), (64, 21), (64, 25), (64, 52), (64, 53), (64, 56), (64, 57), (64, 65), (64, 69), (74, 0), (75, 0), (76, 0), (79, 0), (80, 0), (81, 0), (82, 0), (83, 0), (84, 0), (85, 0), (86, 0), (87, 0), (88, 0), (89, 0), (90, 0), (91, 0), (92, 0), (93, 0), (94, 0), (95, 0), (96, 0), (99, 0), (100, 0), (101, 0), (102, 0), (103, 0), (104, 0), (105, 0), (106, 0), (107, 0), (108, 0), (109, 0), (110, 0), (111, 0), (112, 0), (113, 0), (114, 0), (115, 0), (116, 0), (134, 0)]
set_option maxRecDepth 100000 in
set_option maxHeartbeats 4000000 in
theorem p_Mo_readRule {nf : Nat} (hn : 8589934592 ≤ nf) {G : List Nat} {c : Zc} (W : Zwt zty G c) {a0 : Nat}  (t_a0 : G[a0]? = some 64) (hb_Zwo : Zwo G c a0) : ∃ q, f_Mo_readRule nf a0 c = some q ∧ Zwt zty G q.2 ∧ Zfr G M_Mo_readRule c q.2 ∧ ZVl G q.2 a0 q.1 := by
  have F0 : Zfr G M_Mo_readRule c c := Zfr.rf
  unfold f_Mo_readRule
  obtain ⟨k0Zwo0, k1Zwo0⟩ := hb_Zwo
  obtain ⟨w2, ew2⟩ := go_64 W t_a0
  refine wb ew2 ?_
  obtain ⟨q1, eq1, Wq1, fq1, pbZVBq1⟩ := p_Mo_begin hn W  t_a0 ⟨k0Zwo0, k1Zwo0⟩
  refine wb eq1 ?_
  have F1 := Zfr.tr F0 fq1 (by decide)
  obtain ⟨bpvq1, bf2q1, bt2q1, bd2q1, bksq1, bklq1, bkwq1, bnaq1, blbq1, bnwq1, bvnq1, bkgq1, bg2q1, bcd2q1, bkiq1, bi2q1, btp2q1, h0ZVBq1, h1ZVBq1, h2ZVBq1, h3ZVBq1, h4ZVBq1, h5ZVBq1, h6ZVBq1, h7ZVBq1, h8ZVBq1, h9ZVBq1, h10ZVBq1, h11ZVBq1, h12ZVBq1, h13ZVBq1, h14ZVBq1, h15ZVBq1, h16ZVBq1, tksq1, tklq1, tkwq1, tkgq1, tkiq1, r0ZVBq1, r1ZVBq1, r2ZVBq1, r3ZVBq1, r4ZVBq1, r5ZVBq1, r6ZVBq1, r7ZVBq1, r8ZVBq1, r9ZVBq1, r10ZVBq1, r11ZVBq1, r12ZVBq1, k0ZVBq1, k1ZVBq1, k2ZVBq1, k3ZVBq1, k4ZVBq1⟩ := pbZVBq1
  obtain ⟨w4, ew4⟩ := go_64 Wq1 t_a0
  refine wb ew4 ?_
  have := li_113
  obtain ⟨q3, eq3, Wq3, fq3, pbZSq3⟩ := p_Mo_need hn Wq1 (a1 := 113) t_a0 (by omega) (by omega) (by omega) (by omega) h1ZVBq1 h2ZVBq1
  refine wb eq3 ?_
  have e4 := (Zfr.gi fq3 t_a0 (by decide)).trans h0ZVBq1
  have e5 := (Zfr.gi fq3 t_a0 (by decide)).trans h3ZVBq1
  have e6 := (Zfr.gr fq3 t_a0 (by decide)).trans h4ZVBq1
  have e7 := (Zfr.gr fq3 t_a0 (by decide)).trans h5ZVBq1
  have e8 := (Zfr.gr fq3 t_a0 (by decide)).trans h6ZVBq1
  have e9 := (Zfr.ai fq3 tksq1 (by decide)).trans h7ZVBq1
  have e10 := (Zfr.ai fq3 tklq1 (by decide)).trans h8ZVBq1
  have e11 := (Zfr.ai fq3 tkwq1 (by decide)).trans h9ZVBq1
  have e12 := (Zfr.gi fq3 t_a0 (by decide)).trans h10ZVBq1
  have e13 := (Zfr.gr fq3 t_a0 (by decide)).trans h11ZVBq1
  have e14 := (Zfr.ai fq3 tkgq1 (by decide)).trans h12ZVBq1
  have e15 := (Zfr.gi fq3 t_a0 (by decide)).trans h13ZVBq1
  have e16 := (Zfr.gr fq3 t_a0 (by decide)).trans h14ZVBq1
  have e17 := (Zfr.ai fq3 tkiq1 (by decide)).trans h15ZVBq1
  have e18 := (Zfr.gi fq3 t_a0 (by decide)).trans h16ZVBq1
  have k19 := GtP_fr k0ZVBq1 fq3 t_a0 Wq1 (by decide)
  have := li_1
  have sc21 : Sc q1 q3 a0 (1) (0) := by
    obtain ⟨yf2, yt2, z0y, z1y, x0y, x1y, x2y, x3y, x4y, x5y⟩ := pbZSq3
    exact Sc_mk h1ZVBq1 z0y h2ZVBq1 z1y h3ZVBq1 ((Zfr.gi (ci := 12) fq3 t_a0 (by decide)).trans h3ZVBq1) (by omega)
  have k20 := WyN_fr k1ZVBq1 fq3 t_a0 Wq1 (by decide) sc21
  have k22 := TbI_fr k2ZVBq1 fq3 t_a0 Wq1 (by decide) sc21
  have k23 := TbC_fr k3ZVBq1 fq3 t_a0 Wq1 (by decide) sc21
  have k24 := TkN_fr k4ZVBq1 fq3 t_a0 Wq1 (by decide)
  have F25 := Zfr.tr F1 fq3 (by decide)
  obtain ⟨bf2q3, bt2q3, h0ZSq3, h1ZSq3, r0ZSq3, r1ZSq3, r2ZSq3, r3ZSq3, r4ZSq3, r5ZSq3⟩ := pbZSq3
  refine wb h0ZSq3 ?_
  refine wi (fun hq26 => ?_) (fun hq26 => ?_)
  · have := li_0
    have hq26 := i_eq hq26
    obtain ⟨w24, ew24⟩ := go_64 Wq3 t_a0
    refine wb ew24 ?_
    obtain ⟨q23, eq23, Wq23, fq23, pbZScq23, pbZkdq23⟩ := p_Mo_kind hn Wq3  t_a0 (by omega) (by omega) (by omega) (by omega) h0ZSq3 h1ZSq3
    refine wb eq23 ?_
    have e29 := (Zfr.gi fq23 t_a0 (by decide)).trans e4
    have e30 := (Zfr.gi fq23 t_a0 (by decide)).trans e5
    have e31 := (Zfr.gr fq23 t_a0 (by decide)).trans e6
    have e32 := (Zfr.gr fq23 t_a0 (by decide)).trans e7
    have e33 := (Zfr.gr fq23 t_a0 (by decide)).trans e8
    have e34 := (Zfr.ai fq23 tksq1 (by decide)).trans e9
    have e35 := (Zfr.ai fq23 tklq1 (by decide)).trans e10
    have e36 := (Zfr.ai fq23 tkwq1 (by decide)).trans e11
    have e37 := (Zfr.gi fq23 t_a0 (by decide)).trans e12
    have e38 := (Zfr.gr fq23 t_a0 (by decide)).trans e13
    have e39 := (Zfr.ai fq23 tkgq1 (by decide)).trans e14
    have e40 := (Zfr.gi fq23 t_a0 (by decide)).trans e15
    have e41 := (Zfr.gr fq23 t_a0 (by decide)).trans e16
    have e42 := (Zfr.ai fq23 tkiq1 (by decide)).trans e17
    have e43 := (Zfr.gi fq23 t_a0 (by decide)).trans e18
    have e44 := (Zfr.gi fq23 t_a0 (by decide)).trans h1ZSq3
    have k45 := GtP_fr k19 fq23 t_a0 Wq3 (by decide)
    have sc47 : Sc q3 q23.2 a0 (0) (0) := by
      obtain ⟨yf2, z0y, x0y, x1y, x2y, x3y⟩ := pbZScq23
      exact Sc_mk h0ZSq3 z0y h1ZSq3 ((Zfr.gi (ci := 12) fq23 t_a0 (by decide)).trans h1ZSq3) e5 ((Zfr.gi (ci := 12) fq23 t_a0 (by decide)).trans e5) (by omega)
    have k46 := WyN_fr k20 fq23 t_a0 Wq3 (by decide) sc47
    have k48 := TbI_fr k22 fq23 t_a0 Wq3 (by decide) sc47
    have k49 := TbC_fr k23 fq23 t_a0 Wq3 (by decide) sc47
    have k50 := TkN_fr k24 fq23 t_a0 Wq3 (by decide)
    have F51 := Zfr.tr F25 fq23 (by decide)
    obtain ⟨bf2q23, h0ZScq23, r0ZScq23, r1ZScq23, r2ZScq23, r3ZScq23⟩ := pbZScq23
    obtain ⟨bkkq23, h0Zkdq23, h1Zkdq23, tkkq23⟩ := pbZkdq23
    refine wi (fun hq52 => ?_) (fun hq52 => ?_)
    · have := li_5
      have := i_ge q23.1
      have := i_up q23.1
      have hq52 := i_eq hq52
      obtain ⟨v28, ev28, tv28⟩ := gf_64_15 Wq23 t_a0
      refine wb ev28 ?_
      refine wb e44 ?_
      obtain ⟨v30, ev30, _⟩ := ga_75 Wq23 tv28 (i := bt2q3) (by omega) (by omega)
      have ht53 := TkM_at (k50 _ _ h0Zkdq23 ev28) h1Zkdq23 ev30
      have := tkr5 ht53 (by omega)
      refine wb ev30 ?_
      refine wi (fun hq54 => ?_) (fun hq54 => ?_)
      · have := li_8
        have hq54 := i_le hq54
        refine wb ev28 ?_
        refine wb e44 ?_
        refine wb ev30 ?_
        obtain ⟨w36, ew36⟩ := go_64 Wq23 t_a0
        refine wb ew36 ?_
        obtain ⟨q35, eq35, Wq35, fq35, pbZSq35⟩ := p_Mo_pass hn Wq23  t_a0 (by omega) (by omega) (by omega) (by omega) h0ZScq23 e44
        refine wb eq35 ?_
        have e57 := (Zfr.gi fq35 t_a0 (by decide)).trans e29
        have e58 := (Zfr.gi fq35 t_a0 (by decide)).trans e30
        have e59 := (Zfr.gr fq35 t_a0 (by decide)).trans e31
        have e60 := (Zfr.gr fq35 t_a0 (by decide)).trans e32
        have e61 := (Zfr.gr fq35 t_a0 (by decide)).trans e33
        have e62 := (Zfr.ai fq35 tksq1 (by decide)).trans e34
        have e63 := (Zfr.ai fq35 tklq1 (by decide)).trans e35
        have e64 := (Zfr.ai fq35 tkwq1 (by decide)).trans e36
        have e65 := (Zfr.gi fq35 t_a0 (by decide)).trans e37
        have e66 := (Zfr.gr fq35 t_a0 (by decide)).trans e38
        have e67 := (Zfr.ai fq35 tkgq1 (by decide)).trans e39
        have e68 := (Zfr.gi fq35 t_a0 (by decide)).trans e40
        have e69 := (Zfr.gr fq35 t_a0 (by decide)).trans e41
        have e70 := (Zfr.ai fq35 tkiq1 (by decide)).trans e42
        have e71 := (Zfr.gi fq35 t_a0 (by decide)).trans e43
        have e72 := (Zfr.gr fq35 t_a0 (by decide)).trans h0Zkdq23
        have e73 := (Zfr.ai fq35 tkkq23 (by decide)).trans h1Zkdq23
        have e74 := (Zfr.gr fq35 t_a0 (by decide)).trans ev28
        have e75 := (Zfr.ai fq35 tv28 (by decide)).trans ev30
        have k76 := GtP_fr k45 fq35 t_a0 Wq23 (by decide)
        have sc78 : Sc q23.2 q35 a0 (1) (0) := by
          obtain ⟨yf2, yt2, z0y, z1y, x0y, x1y, x2y, x3y, x4y, x5y⟩ := pbZSq35
          exact Sc_mk h0ZScq23 z0y e44 z1y e30 ((Zfr.gi (ci := 12) fq35 t_a0 (by decide)).trans e30) (by omega)
        have k77 := WyN_fr k46 fq35 t_a0 Wq23 (by decide) sc78
        have k79 := TbI_fr k48 fq35 t_a0 Wq23 (by decide) sc78
        have k80 := TbC_fr k49 fq35 t_a0 Wq23 (by decide) sc78
        have k81 := TkN_fr k50 fq35 t_a0 Wq23 (by decide)
        have F82 := Zfr.tr F51 fq35 (by decide)
        obtain ⟨bf2q35, bt2q35, h0ZSq35, h1ZSq35, r0ZSq35, r1ZSq35, r2ZSq35, r3ZSq35, r4ZSq35, r5ZSq35⟩ := pbZSq35
        have := i_sub (a := v30) (b := 8) (by omega) (by omega)
        obtain ⟨qt83, eqt83, Wqt83, fqt83, pbZVlqt83⟩ := p_Mo_readRule_65 hn Wq35 (x1 := (v30 - 8)) (ni := 0) t_a0 (by omega) (by omega) (by omega) (by omega) (by omega) (by omega) (by omega) (by omega) (by omega) (by omega) (by omega) (by omega) (by omega) (by omega) (by omega) (by omega) e57 h0ZSq35 h1ZSq35 e58 e66 e67 e68 e69 e70 (by omega) (by omega) ⟨bksq1, bklq1, bkwq1, bnaq1, blbq1, bnwq1, bvnq1, e57, h0ZSq35, h1ZSq35, e58, e59, e60, e61, e62, e63, e64, e65, tksq1, tklq1, tkwq1, by (try dsimp only); omega, by (try dsimp only); omega, by (try dsimp only); omega, by (try dsimp only); omega, by (try dsimp only); omega, by (try dsimp only); omega, by (try dsimp only); omega, by (try dsimp only); omega, by (try dsimp only); omega, by (try dsimp only); omega, by (try dsimp only); omega, by (try dsimp only); omega, by (try dsimp only); omega, by (try dsimp only); omega, by (try dsimp only); omega, by (try dsimp only); omega, by (try dsimp only); omega, by (try dsimp only); omega, k76, k77, k79, k80, k81⟩
        have e104 := (Zfr.gi fqt83 t_a0 (by decide)).trans e57
        have e105 := (Zfr.gr fqt83 t_a0 (by decide)).trans e59
        have e106 := (Zfr.gr fqt83 t_a0 (by decide)).trans e60
        have e107 := (Zfr.gr fqt83 t_a0 (by decide)).trans e61
        have e108 := (Zfr.gr fqt83 t_a0 (by decide)).trans e66
        have e109 := (Zfr.gr fqt83 t_a0 (by decide)).trans e69
        have e110 := (Zfr.ai fqt83 tkiq1 (by decide)).trans e70
        have e111 := (Zfr.gi fqt83 t_a0 (by decide)).trans e71
        have e112 := (Zfr.gr fqt83 t_a0 (by decide)).trans e72
        have e113 := (Zfr.ai fqt83 tkkq23 (by decide)).trans e73
        have e114 := (Zfr.gr fqt83 t_a0 (by decide)).trans e74
        have e115 := (Zfr.ai fqt83 tv28 (by decide)).trans e75
        have F116 := Zfr.tr F82 fqt83 (by decide)
        obtain ⟨bpvqt83, bf2qt83, bt2qt83, bd2qt83, bksqt83, bklqt83, bkwqt83, bnaqt83, blbqt83, bnwqt83, bvnqt83, bkgqt83, bg2qt83, bcd2qt83, bkiqt83, bi2qt83, bkAqt83, bgAqt83, bkBqt83, bgBqt83, btp2qt83, h0ZVlqt83, h1ZVlqt83, h2ZVlqt83, h3ZVlqt83, h4ZVlqt83, h5ZVlqt83, h6ZVlqt83, h7ZVlqt83, h8ZVlqt83, h9ZVlqt83, h10ZVlqt83, h11ZVlqt83, h12ZVlqt83, h13ZVlqt83, h14ZVlqt83, h15ZVlqt83, h16ZVlqt83, h17ZVlqt83, h18ZVlqt83, h19ZVlqt83, h20ZVlqt83, tksqt83, tklqt83, tkwqt83, tkgqt83, tkiqt83, tkAqt83, tkBqt83, r0ZVlqt83, r1ZVlqt83, r2ZVlqt83, r3ZVlqt83, r4ZVlqt83, r5ZVlqt83, r6ZVlqt83, r7ZVlqt83, r8ZVlqt83, r9ZVlqt83, r10ZVlqt83, r11ZVlqt83, r12ZVlqt83, r13ZVlqt83, r14ZVlqt83, r15ZVlqt83, r16ZVlqt83, r17ZVlqt83, r18ZVlqt83, r19ZVlqt83, r20ZVlqt83, r21ZVlqt83, r22ZVlqt83, r23ZVlqt83, r24ZVlqt83, r25ZVlqt83, k0ZVlqt83, k1ZVlqt83, k2ZVlqt83, k3ZVlqt83, k4ZVlqt83⟩ := pbZVlqt83
        obtain ⟨xq, xe, lw_137, uw_137⟩ := gf_64_13 Wqt83 t_a0
        rw [h20ZVlqt83] at xe; cases xe
        exact ⟨_, eqt83, Wqt83, F116, ⟨bpvqt83, bf2qt83, bt2qt83, bd2qt83, bksqt83, bklqt83, bkwqt83, bnaqt83, blbqt83, bnwqt83, bvnqt83, bkgqt83, bg2qt83, bcd2qt83, bkiqt83, bi2qt83, bkAqt83, bgAqt83, bkBqt83, bgBqt83, btp2qt83, h0ZVlqt83, h1ZVlqt83, h2ZVlqt83, h3ZVlqt83, h4ZVlqt83, h5ZVlqt83, h6ZVlqt83, h7ZVlqt83, h8ZVlqt83, h9ZVlqt83, h10ZVlqt83, h11ZVlqt83, h12ZVlqt83, h13ZVlqt83, h14ZVlqt83, h15ZVlqt83, h16ZVlqt83, h17ZVlqt83, h18ZVlqt83, h19ZVlqt83, h20ZVlqt83, tksqt83, tklqt83, tkwqt83, tkgqt83, tkiqt83, tkAqt83, tkBqt83, by (try dsimp only); omega, by (try dsimp only); omega, by (try dsimp only); omega, by (try dsimp only); omega, by (try dsimp only); omega, by (try dsimp only); omega, by (try dsimp only); omega, by (try dsimp only); omega, by (try dsimp only); omega, by (try dsimp only); omega, by (try dsimp only); omega, by (try dsimp only); omega, by (try dsimp only); omega, by (try dsimp only); omega, by (try dsimp only); omega, by (try dsimp only); omega, by (try dsimp only); omega, by (try dsimp only); omega, by (try dsimp only); omega, by (try dsimp only); omega, by (try dsimp only); omega, by (try dsimp only); omega, by (try dsimp only); omega, by (try dsimp only); omega, by (try dsimp only); omega, by (try dsimp only); omega, k0ZVlqt83, k1ZVlqt83, k2ZVlqt83, k3ZVlqt83, k4ZVlqt83⟩⟩
      · have := li_8
        have hq54 := i_nle hq54
        unfold f_Mo_readRule_41
        obtain ⟨w27, ew27⟩ := go_64 Wq23 t_a0
        refine wb ew27 ?_
        obtain ⟨q26, eq26, Wq26, fq26, pbZSfq26⟩ := p_Mo_wrong hn Wq23  t_a0 (by omega) (by omega) (by omega) (by omega) h0ZScq23 e44
        refine wb eq26 ?_
        have e140 := (Zfr.gi fq26 t_a0 (by decide)).trans e29
        have e141 := (Zfr.gi fq26 t_a0 (by decide)).trans e30
        have e142 := (Zfr.gr fq26 t_a0 (by decide)).trans e31
        have e143 := (Zfr.gr fq26 t_a0 (by decide)).trans e32
        have e144 := (Zfr.gr fq26 t_a0 (by decide)).trans e33
        have e145 := (Zfr.ai fq26 tksq1 (by decide)).trans e34
        have e146 := (Zfr.ai fq26 tklq1 (by decide)).trans e35
        have e147 := (Zfr.ai fq26 tkwq1 (by decide)).trans e36
        have e148 := (Zfr.gi fq26 t_a0 (by decide)).trans e37
        have e149 := (Zfr.gr fq26 t_a0 (by decide)).trans e38
        have e150 := (Zfr.ai fq26 tkgq1 (by decide)).trans e39
        have e151 := (Zfr.gi fq26 t_a0 (by decide)).trans e40
        have e152 := (Zfr.gr fq26 t_a0 (by decide)).trans e41
        have e153 := (Zfr.ai fq26 tkiq1 (by decide)).trans e42
        have e154 := (Zfr.gi fq26 t_a0 (by decide)).trans e43
        have e155 := (Zfr.gi fq26 t_a0 (by decide)).trans e44
        have e156 := (Zfr.gr fq26 t_a0 (by decide)).trans h0Zkdq23
        have e157 := (Zfr.ai fq26 tkkq23 (by decide)).trans h1Zkdq23
        have e158 := (Zfr.gr fq26 t_a0 (by decide)).trans ev28
        have e159 := (Zfr.ai fq26 tv28 (by decide)).trans ev30
        have k160 := GtP_fr k45 fq26 t_a0 Wq23 (by decide)
        have sc162 : Sc q23.2 q26 a0 (0) (0) := by
          obtain ⟨yf2, z0y, x0y, x1y⟩ := pbZSfq26
          exact Sc_mk h0ZScq23 z0y e44 ((Zfr.gi (ci := 12) fq26 t_a0 (by decide)).trans e44) e30 ((Zfr.gi (ci := 12) fq26 t_a0 (by decide)).trans e30) (by omega)
        have k161 := WyN_fr k46 fq26 t_a0 Wq23 (by decide) sc162
        have k163 := TbI_fr k48 fq26 t_a0 Wq23 (by decide) sc162
        have k164 := TbC_fr k49 fq26 t_a0 Wq23 (by decide) sc162
        have k165 := TkN_fr k50 fq26 t_a0 Wq23 (by decide)
        have F166 := Zfr.tr F51 fq26 (by decide)
        obtain ⟨bf2q26, h0ZSfq26, r0ZSfq26, r1ZSfq26⟩ := pbZSfq26
        have := li_m1
        obtain ⟨qt167, eqt167, Wqt167, fqt167, pbZVlqt167⟩ := p_Mo_readRule_65 hn Wq26 (x1 := (-1)) (ni := 0) t_a0 (by omega) (by omega) (by omega) (by omega) (by omega) (by omega) (by omega) (by omega) (by omega) (by omega) (by omega) (by omega) (by omega) (by omega) (by omega) (by omega) e140 h0ZSfq26 e155 e141 e149 e150 e151 e152 e153 (by omega) (by omega) ⟨bksq1, bklq1, bkwq1, bnaq1, blbq1, bnwq1, bvnq1, e140, h0ZSfq26, e155, e141, e142, e143, e144, e145, e146, e147, e148, tksq1, tklq1, tkwq1, by (try dsimp only); omega, by (try dsimp only); omega, by (try dsimp only); omega, by (try dsimp only); omega, by (try dsimp only); omega, by (try dsimp only); omega, by (try dsimp only); omega, by (try dsimp only); omega, by (try dsimp only); omega, by (try dsimp only); omega, by (try dsimp only); omega, by (try dsimp only); omega, by (try dsimp only); omega, by (try dsimp only); omega, by (try dsimp only); omega, by (try dsimp only); omega, by (try dsimp only); omega, by (try dsimp only); omega, k160, k161, k163, k164, k165⟩
        have e188 := (Zfr.gi fqt167 t_a0 (by decide)).trans e140
        have e189 := (Zfr.gr fqt167 t_a0 (by decide)).trans e142
        have e190 := (Zfr.gr fqt167 t_a0 (by decide)).trans e143
        have e191 := (Zfr.gr fqt167 t_a0 (by decide)).trans e144
        have e192 := (Zfr.gr fqt167 t_a0 (by decide)).trans e149
        have e193 := (Zfr.gr fqt167 t_a0 (by decide)).trans e152
        have e194 := (Zfr.ai fqt167 tkiq1 (by decide)).trans e153
        have e195 := (Zfr.gi fqt167 t_a0 (by decide)).trans e154
        have e196 := (Zfr.gr fqt167 t_a0 (by decide)).trans e156
        have e197 := (Zfr.ai fqt167 tkkq23 (by decide)).trans e157
        have e198 := (Zfr.gr fqt167 t_a0 (by decide)).trans e158
        have e199 := (Zfr.ai fqt167 tv28 (by decide)).trans e159
        have F200 := Zfr.tr F166 fqt167 (by decide)
        obtain ⟨bpvqt167, bf2qt167, bt2qt167, bd2qt167, bksqt167, bklqt167, bkwqt167, bnaqt167, blbqt167, bnwqt167, bvnqt167, bkgqt167, bg2qt167, bcd2qt167, bkiqt167, bi2qt167, bkAqt167, bgAqt167, bkBqt167, bgBqt167, btp2qt167, h0ZVlqt167, h1ZVlqt167, h2ZVlqt167, h3ZVlqt167, h4ZVlqt167, h5ZVlqt167, h6ZVlqt167, h7ZVlqt167, h8ZVlqt167, h9ZVlqt167, h10ZVlqt167, h11ZVlqt167, h12ZVlqt167, h13ZVlqt167, h14ZVlqt167, h15ZVlqt167, h16ZVlqt167, h17ZVlqt167, h18ZVlqt167, h19ZVlqt167, h20ZVlqt167, tksqt167, tklqt167, tkwqt167, tkgqt167, tkiqt167, tkAqt167, tkBqt167, r0ZVlqt167, r1ZVlqt167, r2ZVlqt167, r3ZVlqt167, r4ZVlqt167, r5ZVlqt167, r6ZVlqt167, r7ZVlqt167, r8ZVlqt167, r9ZVlqt167, r10ZVlqt167, r11ZVlqt167, r12ZVlqt167, r13ZVlqt167, r14ZVlqt167, r15ZVlqt167, r16ZVlqt167, r17ZVlqt167, r18ZVlqt167, r19ZVlqt167, r20ZVlqt167, r21ZVlqt167, r22ZVlqt167, r23ZVlqt167, r24ZVlqt167, r25ZVlqt167, k0ZVlqt167, k1ZVlqt167, k2ZVlqt167, k3ZVlqt167, k4ZVlqt167⟩ := pbZVlqt167
        obtain ⟨xq, xe, lw_221, uw_221⟩ := gf_64_13 Wqt167 t_a0
        rw [h20ZVlqt167] at xe; cases xe
        exact ⟨_, eqt167, Wqt167, F200, ⟨bpvqt167, bf2qt167, bt2qt167, bd2qt167, bksqt167, bklqt167, bkwqt167, bnaqt167, blbqt167, bnwqt167, bvnqt167, bkgqt167, bg2qt167, bcd2qt167, bkiqt167, bi2qt167, bkAqt167, bgAqt167, bkBqt167, bgBqt167, btp2qt167, h0ZVlqt167, h1ZVlqt167, h2ZVlqt167, h3ZVlqt167, h4ZVlqt167, h5ZVlqt167, h6ZVlqt167, h7ZVlqt167, h8ZVlqt167, h9ZVlqt167, h10ZVlqt167, h11ZVlqt167, h12ZVlqt167, h13ZVlqt167, h14ZVlqt167, h15ZVlqt167, h16ZVlqt167, h17ZVlqt167, h18ZVlqt167, h19ZVlqt167, h20ZVlqt167, tksqt167, tklqt167, tkwqt167, tkgqt167, tkiqt167, tkAqt167, tkBqt167, by (try dsimp only); omega, by (try dsimp only); omega, by (try dsimp only); omega, by (try dsimp only); omega, by (try dsimp only); omega, by (try dsimp only); omega, by (try dsimp only); omega, by (try dsimp only); omega, by (try dsimp only); omega, by (try dsimp only); omega, by (try dsimp only); omega, by (try dsimp only); omega, by (try dsimp only); omega, by (try dsimp only); omega, by (try dsimp only); omega, by (try dsimp only); omega, by (try dsimp only); omega, by (try dsimp only); omega, by (try dsimp only); omega, by (try dsimp only); omega, by (try dsimp only); omega, by (try dsimp only); omega, by (try dsimp only); omega, by (try dsimp only); omega, by (try dsimp only); omega, by (try dsimp only); omega, k0ZVlqt167, k1ZVlqt167, k2ZVlqt167, k3ZVlqt167, k4ZVlqt167⟩⟩
    · have := li_5
      have := i_ge q23.1
      have := i_up q23.1
      have hq52 := i_ne hq52
      unfold f_Mo_readRule_41
      obtain ⟨w27, ew27⟩ := go_64 Wq23 t_a0
      refine wb ew27 ?_
      obtain ⟨q26, eq26, Wq26, fq26, pbZSfq26⟩ := p_Mo_wrong hn Wq23  t_a0 (by omega) (by omega) (by omega) (by omega) h0ZScq23 e44
      refine wb eq26 ?_
      have e224 := (Zfr.gi fq26 t_a0 (by decide)).trans e29
      have e225 := (Zfr.gi fq26 t_a0 (by decide)).trans e30
      have e226 := (Zfr.gr fq26 t_a0 (by decide)).trans e31
      have e227 := (Zfr.gr fq26 t_a0 (by decide)).trans e32
      have e228 := (Zfr.gr fq26 t_a0 (by decide)).trans e33
      have e229 := (Zfr.ai fq26 tksq1 (by decide)).trans e34
      have e230 := (Zfr.ai fq26 tklq1 (by decide)).trans e35
      have e231 := (Zfr.ai fq26 tkwq1 (by decide)).trans e36
      have e232 := (Zfr.gi fq26 t_a0 (by decide)).trans e37
      have e233 := (Zfr.gr fq26 t_a0 (by decide)).trans e38
      have e234 := (Zfr.ai fq26 tkgq1 (by decide)).trans e39
      have e235 := (Zfr.gi fq26 t_a0 (by decide)).trans e40
      have e236 := (Zfr.gr fq26 t_a0 (by decide)).trans e41
      have e237 := (Zfr.ai fq26 tkiq1 (by decide)).trans e42
      have e238 := (Zfr.gi fq26 t_a0 (by decide)).trans e43
      have e239 := (Zfr.gi fq26 t_a0 (by decide)).trans e44
      have e240 := (Zfr.gr fq26 t_a0 (by decide)).trans h0Zkdq23
      have e241 := (Zfr.ai fq26 tkkq23 (by decide)).trans h1Zkdq23
      have k242 := GtP_fr k45 fq26 t_a0 Wq23 (by decide)
      have sc244 : Sc q23.2 q26 a0 (0) (0) := by
        obtain ⟨yf2, z0y, x0y, x1y⟩ := pbZSfq26
        exact Sc_mk h0ZScq23 z0y e44 ((Zfr.gi (ci := 12) fq26 t_a0 (by decide)).trans e44) e30 ((Zfr.gi (ci := 12) fq26 t_a0 (by decide)).trans e30) (by omega)
      have k243 := WyN_fr k46 fq26 t_a0 Wq23 (by decide) sc244
      have k245 := TbI_fr k48 fq26 t_a0 Wq23 (by decide) sc244
      have k246 := TbC_fr k49 fq26 t_a0 Wq23 (by decide) sc244
      have k247 := TkN_fr k50 fq26 t_a0 Wq23 (by decide)
      have F248 := Zfr.tr F51 fq26 (by decide)
      obtain ⟨bf2q26, h0ZSfq26, r0ZSfq26, r1ZSfq26⟩ := pbZSfq26
      have := li_m1
      obtain ⟨qt249, eqt249, Wqt249, fqt249, pbZVlqt249⟩ := p_Mo_readRule_65 hn Wq26 (x1 := (-1)) (ni := 0) t_a0 (by omega) (by omega) (by omega) (by omega) (by omega) (by omega) (by omega) (by omega) (by omega) (by omega) (by omega) (by omega) (by omega) (by omega) (by omega) (by omega) e224 h0ZSfq26 e239 e225 e233 e234 e235 e236 e237 (by omega) (by omega) ⟨bksq1, bklq1, bkwq1, bnaq1, blbq1, bnwq1, bvnq1, e224, h0ZSfq26, e239, e225, e226, e227, e228, e229, e230, e231, e232, tksq1, tklq1, tkwq1, by (try dsimp only); omega, by (try dsimp only); omega, by (try dsimp only); omega, by (try dsimp only); omega, by (try dsimp only); omega, by (try dsimp only); omega, by (try dsimp only); omega, by (try dsimp only); omega, by (try dsimp only); omega, by (try dsimp only); omega, by (try dsimp only); omega, by (try dsimp only); omega, by (try dsimp only); omega, by (try dsimp only); omega, by (try dsimp only); omega, by (try dsimp only); omega, by (try dsimp only); omega, by (try dsimp only); omega, k242, k243, k245, k246, k247⟩
      have e270 := (Zfr.gi fqt249 t_a0 (by decide)).trans e224
      have e271 := (Zfr.gr fqt249 t_a0 (by decide)).trans e226
      have e272 := (Zfr.gr fqt249 t_a0 (by decide)).trans e227
      have e273 := (Zfr.gr fqt249 t_a0 (by decide)).trans e228
      have e274 := (Zfr.gr fqt249 t_a0 (by decide)).trans e233
      have e275 := (Zfr.gr fqt249 t_a0 (by decide)).trans e236
      have e276 := (Zfr.ai fqt249 tkiq1 (by decide)).trans e237
      have e277 := (Zfr.gi fqt249 t_a0 (by decide)).trans e238
      have e278 := (Zfr.gr fqt249 t_a0 (by decide)).trans e240
      have e279 := (Zfr.ai fqt249 tkkq23 (by decide)).trans e241
      have F280 := Zfr.tr F248 fqt249 (by decide)
      obtain ⟨bpvqt249, bf2qt249, bt2qt249, bd2qt249, bksqt249, bklqt249, bkwqt249, bnaqt249, blbqt249, bnwqt249, bvnqt249, bkgqt249, bg2qt249, bcd2qt249, bkiqt249, bi2qt249, bkAqt249, bgAqt249, bkBqt249, bgBqt249, btp2qt249, h0ZVlqt249, h1ZVlqt249, h2ZVlqt249, h3ZVlqt249, h4ZVlqt249, h5ZVlqt249, h6ZVlqt249, h7ZVlqt249, h8ZVlqt249, h9ZVlqt249, h10ZVlqt249, h11ZVlqt249, h12ZVlqt249, h13ZVlqt249, h14ZVlqt249, h15ZVlqt249, h16ZVlqt249, h17ZVlqt249, h18ZVlqt249, h19ZVlqt249, h20ZVlqt249, tksqt249, tklqt249, tkwqt249, tkgqt249, tkiqt249, tkAqt249, tkBqt249, r0ZVlqt249, r1ZVlqt249, r2ZVlqt249, r3ZVlqt249, r4ZVlqt249, r5ZVlqt249, r6ZVlqt249, r7ZVlqt249, r8ZVlqt249, r9ZVlqt249, r10ZVlqt249, r11ZVlqt249, r12ZVlqt249, r13ZVlqt249, r14ZVlqt249, r15ZVlqt249, r16ZVlqt249, r17ZVlqt249, r18ZVlqt249, r19ZVlqt249, r20ZVlqt249, r21ZVlqt249, r22ZVlqt249, r23ZVlqt249, r24ZVlqt249, r25ZVlqt249, k0ZVlqt249, k1ZVlqt249, k2ZVlqt249, k3ZVlqt249, k4ZVlqt249⟩ := pbZVlqt249
      obtain ⟨xq, xe, lw_301, uw_301⟩ := gf_64_13 Wqt249 t_a0
      rw [h20ZVlqt249] at xe; cases xe
      exact ⟨_, eqt249, Wqt249, F280, ⟨bpvqt249, bf2qt249, bt2qt249, bd2qt249, bksqt249, bklqt249, bkwqt249, bnaqt249, blbqt249, bnwqt249, bvnqt249, bkgqt249, bg2qt249, bcd2qt249, bkiqt249, bi2qt249, bkAqt249, bgAqt249, bkBqt249, bgBqt249, btp2qt249, h0ZVlqt249, h1ZVlqt249, h2ZVlqt249, h3ZVlqt249, h4ZVlqt249, h5ZVlqt249, h6ZVlqt249, h7ZVlqt249, h8ZVlqt249, h9ZVlqt249, h10ZVlqt249, h11ZVlqt249, h12ZVlqt249, h13ZVlqt249, h14ZVlqt249, h15ZVlqt249, h16ZVlqt249, h17ZVlqt249, h18ZVlqt249, h19ZVlqt249, h20ZVlqt249, tksqt249, tklqt249, tkwqt249, tkgqt249, tkiqt249, tkAqt249, tkBqt249, by (try dsimp only); omega, by (try dsimp only); omega, by (try dsimp only); omega, by (try dsimp only); omega, by (try dsimp only); omega, by (try dsimp only); omega, by (try dsimp only); omega, by (try dsimp only); omega, by (try dsimp only); omega, by (try dsimp only); omega, by (try dsimp only); omega, by (try dsimp only); omega, by (try dsimp only); omega, by (try dsimp only); omega, by (try dsimp only); omega, by (try dsimp only); omega, by (try dsimp only); omega, by (try dsimp only); omega, by (try dsimp only); omega, by (try dsimp only); omega, by (try dsimp only); omega, by (try dsimp only); omega, by (try dsimp only); omega, by (try dsimp only); omega, by (try dsimp only); omega, by (try dsimp only); omega, k0ZVlqt249, k1ZVlqt249, k2ZVlqt249, k3ZVlqt249, k4ZVlqt249⟩⟩
  · have := li_0
    have hq26 := i_ne hq26
    have := li_m1
    obtain ⟨qt302, eqt302, Wqt302, fqt302, pbZVlqt302⟩ := p_Mo_readRule_65 hn Wq3 (x1 := (-1)) (ni := 0) t_a0 (by omega) (by omega) (by omega) (by omega) (by omega) (by omega) (by omega) (by omega) (by omega) (by omega) (by omega) (by omega) (by omega) (by omega) (by omega) (by omega) e4 h0ZSq3 h1ZSq3 e5 e13 e14 e15 e16 e17 (by omega) (by omega) ⟨bksq1, bklq1, bkwq1, bnaq1, blbq1, bnwq1, bvnq1, e4, h0ZSq3, h1ZSq3, e5, e6, e7, e8, e9, e10, e11, e12, tksq1, tklq1, tkwq1, by (try dsimp only); omega, by (try dsimp only); omega, by (try dsimp only); omega, by (try dsimp only); omega, by (try dsimp only); omega, by (try dsimp only); omega, by (try dsimp only); omega, by (try dsimp only); omega, by (try dsimp only); omega, by (try dsimp only); omega, by (try dsimp only); omega, by (try dsimp only); omega, by (try dsimp only); omega, by (try dsimp only); omega, by (try dsimp only); omega, by (try dsimp only); omega, by (try dsimp only); omega, by (try dsimp only); omega, k19, k20, k22, k23, k24⟩
    have e323 := (Zfr.gi fqt302 t_a0 (by decide)).trans e4
    have e324 := (Zfr.gr fqt302 t_a0 (by decide)).trans e6
    have e325 := (Zfr.gr fqt302 t_a0 (by decide)).trans e7
    have e326 := (Zfr.gr fqt302 t_a0 (by decide)).trans e8
    have e327 := (Zfr.gr fqt302 t_a0 (by decide)).trans e13
    have e328 := (Zfr.gr fqt302 t_a0 (by decide)).trans e16
    have e329 := (Zfr.ai fqt302 tkiq1 (by decide)).trans e17
    have e330 := (Zfr.gi fqt302 t_a0 (by decide)).trans e18
    have F331 := Zfr.tr F25 fqt302 (by decide)
    obtain ⟨bpvqt302, bf2qt302, bt2qt302, bd2qt302, bksqt302, bklqt302, bkwqt302, bnaqt302, blbqt302, bnwqt302, bvnqt302, bkgqt302, bg2qt302, bcd2qt302, bkiqt302, bi2qt302, bkAqt302, bgAqt302, bkBqt302, bgBqt302, btp2qt302, h0ZVlqt302, h1ZVlqt302, h2ZVlqt302, h3ZVlqt302, h4ZVlqt302, h5ZVlqt302, h6ZVlqt302, h7ZVlqt302, h8ZVlqt302, h9ZVlqt302, h10ZVlqt302, h11ZVlqt302, h12ZVlqt302, h13ZVlqt302, h14ZVlqt302, h15ZVlqt302, h16ZVlqt302, h17ZVlqt302, h18ZVlqt302, h19ZVlqt302, h20ZVlqt302, tksqt302, tklqt302, tkwqt302, tkgqt302, tkiqt302, tkAqt302, tkBqt302, r0ZVlqt302, r1ZVlqt302, r2ZVlqt302, r3ZVlqt302, r4ZVlqt302, r5ZVlqt302, r6ZVlqt302, r7ZVlqt302, r8ZVlqt302, r9ZVlqt302, r10ZVlqt302, r11ZVlqt302, r12ZVlqt302, r13ZVlqt302, r14ZVlqt302, r15ZVlqt302, r16ZVlqt302, r17ZVlqt302, r18ZVlqt302, r19ZVlqt302, r20ZVlqt302, r21ZVlqt302, r22ZVlqt302, r23ZVlqt302, r24ZVlqt302, r25ZVlqt302, k0ZVlqt302, k1ZVlqt302, k2ZVlqt302, k3ZVlqt302, k4ZVlqt302⟩ := pbZVlqt302
    obtain ⟨xq, xe, lw_352, uw_352⟩ := gf_64_13 Wqt302 t_a0
    rw [h20ZVlqt302] at xe; cases xe
    exact ⟨_, eqt302, Wqt302, F331, ⟨bpvqt302, bf2qt302, bt2qt302, bd2qt302, bksqt302, bklqt302, bkwqt302, bnaqt302, blbqt302, bnwqt302, bvnqt302, bkgqt302, bg2qt302, bcd2qt302, bkiqt302, bi2qt302, bkAqt302, bgAqt302, bkBqt302, bgBqt302, btp2qt302, h0ZVlqt302, h1ZVlqt302, h2ZVlqt302, h3ZVlqt302, h4ZVlqt302, h5ZVlqt302, h6ZVlqt302, h7ZVlqt302, h8ZVlqt302, h9ZVlqt302, h10ZVlqt302, h11ZVlqt302, h12ZVlqt302, h13ZVlqt302, h14ZVlqt302, h15ZVlqt302, h16ZVlqt302, h17ZVlqt302, h18ZVlqt302, h19ZVlqt302, h20ZVlqt302, tksqt302, tklqt302, tkwqt302, tkgqt302, tkiqt302, tkAqt302, tkBqt302, by (try dsimp only); omega, by (try dsimp only); omega, by (try dsimp only); omega, by (try dsimp only); omega, by (try dsimp only); omega, by (try dsimp only); omega, by (try dsimp only); omega, by (try dsimp only); omega, by (try dsimp only); omega, by (try dsimp only); omega, by (try dsimp only); omega, by (try dsimp only); omega, by (try dsimp only); omega, by (try dsimp only); omega, by (try dsimp only); omega, by (try dsimp only); omega, by (try dsimp only); omega, by (try dsimp only); omega, by (try dsimp only); omega, by (try dsimp only); omega, by (try dsimp only); omega, by (try dsimp only); omega, by (try dsimp only); omega, by (try dsimp only); omega, by (try dsimp only); omega, by (try dsimp only); omega, k0ZVlqt302, k1ZVlqt302, k2ZVlqt302, k3ZVlqt302, k4ZVlqt302⟩⟩

end ZzT
