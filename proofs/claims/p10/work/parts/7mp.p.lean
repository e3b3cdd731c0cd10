section ZzT
abbrev M_Mo_question : List (Nat × Nat) := [(64, 13), (64, 17), (64, 18), (64, 19), (64, 20), (64, 21), (64, 24), (64, 25), (64, 52), (64, 53), (64, 56), (64, 57), (64, 65), (64, 69), (74, 0), (75, 0), (76, 0), (77, 0), (78, 0), (79, 0), (80, 0), (81, 0), (82, 0), (83, 0), (84, 0), (85, 0), (86, 0), (87, 0), (88, 0), (89, 0), (90, 0), (91, 0), (92, 0), (93, 0), (94, 0), (95, 0), (96, 0), (97, 0), (98, 0), (99, 0), (100, 0), (103, 0), (104, 0), (105, 0), (106, 0), (107, 0), (108, 0), (109, 0), (110, 0), (111, 0), (112, 0), (113, 0), (114, 0), (115, 0), (116, 0), (131, 0), (134, 0)]
set_option maxRecDepth 100000 in
set_option maxHeartbeats 400000 in
theorem p_Mo_question {nf : Nat} (hn : 8589934592 ≤ nf) {G : List Nat} {c : Zc} (W : Zwt zty G c) {a0 : Nat} {a1 : Int32} {tp : Int32} (t_a0 : G[a0]? = some 64) (pl_tp : 0 ≤ tp.toInt) (pu_tp : tp.toInt ≤ 1500) (eh_tp : zgi c a0 12 13 = some tp) (hb_Zwo : Zwo G c a0) : ∃ q, f_Mo_question nf a0 a1 c = some q ∧ Zwt zty G q.2 ∧ Zfr G M_Mo_question c q.2 ∧ Zwo G q.2 a0 ∧ Ztq G q.2 a0 tp a1 := by
  have F0 : Zfr G M_Mo_question c c := Zfr.rf
  unfold f_Mo_question
  obtain ⟨k0Zwo0, k1Zwo0⟩ := hb_Zwo
  have := li_4
  obtain ⟨q1, eq1, Wq1, fq1, po0q1, po1q1, pl2q1, pu2q1⟩ := p_Mo_isIn hn W (a0 := a1) (a1 := 4) 
  refine wb eq1 ?_
  have e1 := (Zfr.gi fq1 t_a0 (by decide)).trans eh_tp
  have k2 := GtW_fr k0Zwo0 fq1 t_a0 W (by decide)
  have k3 := TkN_fr k1Zwo0 fq1 t_a0 W (by decide)
  have F4 := Zfr.tr F0 fq1 (by decide)
  refine wi (fun hq5 => ?_) (fun hq5 => ?_)
  · have := li_0
    have hq5 := i_eq hq5
    have := li_m1
    exact ⟨_, rfl, Wq1, F4, ⟨k2, k3⟩, ⟨tp, e1, by (try dsimp only); omega⟩⟩
  · have := li_0
    have hq5 := i_ne hq5
    obtain ⟨w4, ew4⟩ := go_64 Wq1 t_a0
    refine wb ew4 ?_
    obtain ⟨q3, eq3, Wq3, fq3, pbZVkq3⟩ := p_Mo_readQuestion hn Wq1  t_a0 ⟨k2, k3⟩
    refine wb eq3 ?_
    have F7 := Zfr.tr F4 fq3 (by decide)
    obtain ⟨bpvq3, bf2q3, bt2q3, bd2q3, bksq3, bklq3, bkwq3, bnaq3, blbq3, bnwq3, bvnq3, bkgq3, bg2q3, bcd2q3, bkiq3, bi2q3, btp2q3, h0ZVkq3, h1ZVkq3, h2ZVkq3, h3ZVkq3, h4ZVkq3, h5ZVkq3, h6ZVkq3, h7ZVkq3, h8ZVkq3, h9ZVkq3, h10ZVkq3, h11ZVkq3, h12ZVkq3, h13ZVkq3, h14ZVkq3, h15ZVkq3, h16ZVkq3, tksq3, tklq3, tkwq3, tkgq3, tkiq3, r0ZVkq3, r1ZVkq3, r2ZVkq3, r3ZVkq3, r4ZVkq3, r5ZVkq3, r6ZVkq3, r7ZVkq3, r8ZVkq3, r9ZVkq3, r10ZVkq3, r11ZVkq3, r12ZVkq3, r13ZVkq3, r14ZVkq3, r15ZVkq3, r16ZVkq3, r17ZVkq3, r18ZVkq3, r19ZVkq3, r20ZVkq3, r21ZVkq3, r22ZVkq3, r23ZVkq3, r24ZVkq3, r25ZVkq3, k0ZVkq3, k1ZVkq3, k2ZVkq3, k3ZVkq3, k4ZVkq3⟩ := pbZVkq3
    refine wi (fun hq8 => ?_) (fun hq8 => ?_)
    · have := i_ge q3.1
      have := i_up q3.1
      have hq8 := i_le hq8
      unfold f_Mo_question_31
      obtain ⟨xq, xe, lw_9, uw_9⟩ := gf_64_13 Wq3 t_a0
      rw [h16ZVkq3] at xe; cases xe
      exact ⟨_, rfl, Wq3, F7, ⟨(k0ZVkq3).1, k4ZVkq3⟩, ⟨btp2q3, h16ZVkq3, by (try dsimp only); omega⟩⟩
    · have := i_ge q3.1
      have := i_up q3.1
      have hq8 := i_nle hq8
      obtain ⟨w7, ew7⟩ := go_64 Wq3 t_a0
      refine wb ew7 ?_
      have tz16 := TzF_of h0ZVkq3 h6ZVkq3 h9ZVkq3 h14ZVkq3 h15ZVkq3 k1ZVkq3 k2ZVkq3 k3ZVkq3 h1ZVkq3 (by omega) Wq3 t_a0
      obtain ⟨q6, eq6, Wq6, fq6, pbZgwq6⟩ := p_Mo_settle hn Wq3 (a1 := a1) t_a0 (by omega) (by omega) ⟨k0ZVkq3, TzD_1 h0ZVkq3 tz16 (by omega)⟩
      refine wb eq6 ?_
      have e17 := (Zfr.gi fq6 t_a0 (by decide)).trans h0ZVkq3
      have e18 := (Zfr.gi fq6 t_a0 (by decide)).trans h1ZVkq3
      have e19 := (Zfr.gr fq6 t_a0 (by decide)).trans h6ZVkq3
      have e20 := (Zfr.ai fq6 tksq3 (by decide)).trans h7ZVkq3
      have e21 := (Zfr.ai fq6 tklq3 (by decide)).trans h8ZVkq3
      have e22 := (Zfr.ai fq6 tkwq3 (by decide)).trans h9ZVkq3
      have e23 := (Zfr.ai fq6 tkgq3 (by decide)).trans h12ZVkq3
      have e24 := (Zfr.gr fq6 t_a0 (by decide)).trans h14ZVkq3
      have e25 := (Zfr.ai fq6 tkiq3 (by decide)).trans h15ZVkq3
      have e26 := (Zfr.gi fq6 t_a0 (by decide)).trans h16ZVkq3
      have sc29 := Sc_fr fq6 t_a0 (by decide) (by decide) (by decide)
      have k28 := WyN_fr k1ZVkq3 fq6 t_a0 Wq3 (by decide) sc29
      have k30 := TbI_fr k2ZVkq3 fq6 t_a0 Wq3 (by decide) sc29
      have k31 := TbC_fr k3ZVkq3 fq6 t_a0 Wq3 (by decide) sc29
      have k32 := TkN_fr k4ZVkq3 fq6 t_a0 Wq3 (by decide)
      have F33 := Zfr.tr F7 fq6 (by decide)
      have k0Zgwq6 := pbZgwq6
      obtain ⟨v8, ev8, tv8⟩ := gf_64_85 Wq6 t_a0
      refine wb ev8 ?_
      have := nb_0
      obtain ⟨c9, ec9, Wc9, fc9, gc9⟩ := pa_131 Wq6 tv8 (i := a1) (by omega) (by omega) (x := (vp_nar .boolean 0)) (rgi (by omega) (by omega))
      refine wb ec9 ?_
      have e34 := (Zfr.gi fc9 t_a0 (by decide)).trans e17
      have e35 := (Zfr.gi fc9 t_a0 (by decide)).trans e18
      have e36 := (Zfr.gr fc9 t_a0 (by decide)).trans e19
      have e37 := (Zfr.ai fc9 tksq3 (by decide)).trans e20
      have e38 := (Zfr.ai fc9 tklq3 (by decide)).trans e21
      have e39 := (Zfr.ai fc9 tkwq3 (by decide)).trans e22
      have e40 := (Zfr.ai fc9 tkgq3 (by decide)).trans e23
      have e41 := (Zfr.gr fc9 t_a0 (by decide)).trans e24
      have e42 := (Zfr.ai fc9 tkiq3 (by decide)).trans e25
      have e43 := (Zfr.gi fc9 t_a0 (by decide)).trans e26
      have sc45 := Sc_fr fc9 t_a0 (by decide) (by decide) (by decide)
      have k44 := WyN_fr k28 fc9 t_a0 Wq6 (by decide) sc45
      have k46 := TbI_fr k30 fc9 t_a0 Wq6 (by decide) sc45
      have k47 := TbC_fr k31 fc9 t_a0 Wq6 (by decide) sc45
      have k48 := TkN_fr k32 fc9 t_a0 Wq6 (by decide)
      have k49 := GtW_fr k0Zgwq6 fc9 t_a0 Wq6 (by decide)
      have F50 := Zfr.tr F33 fc9 (by decide)
      unfold f_Mo_question_31
      obtain ⟨xq, xe, lw_51, uw_51⟩ := gf_64_13 Wc9 t_a0
      rw [e43] at xe; cases xe
      exact ⟨_, rfl, Wc9, F50, ⟨k49, k48⟩, ⟨btp2q3, e43, by (try dsimp only); omega⟩⟩

abbrev M_Mo_rule : List (Nat × Nat) := [(64, 10), (64, 13), (64, 17), (64, 18), (64, 19), (64, 20), (64, 21), (64, 24), (64, 25), (64, 52), (64, 53), (64, 56), (64, 57), (64, 65), (64, 69), (74, 0), (75, 0), (76, 0), (77, 0), (78, 0), (79, 0), (80, 0), (81, 0), (82, 0), (83, 0), (84, 0), (85, 0), (86, 0), (87, 0), (88, 0), (89, 0), (90, 0), (91, 0), (92, 0), (93, 0), (94, 0), (95, 0), (96, 0), (99, 0), (100, 0), (101, 0), (102, 0), (103, 0), (104, 0), (105, 0), (106, 0), (107, 0), (108, 0), (109, 0), (110, 0), (111, 0), (112, 0), (113, 0), (114, 0), (115, 0), (116, 0), (131, 0), (134, 0)]
set_option maxRecDepth 100000 in
set_option maxHeartbeats 400000 in
theorem p_Mo_rule {nf : Nat} (hn : 8589934592 ≤ nf) {G : List Nat} {c : Zc} (W : Zwt zty G c) {a0 : Nat}  (t_a0 : G[a0]? = some 64) (hb_Zwo : Zwo G c a0) : ∃ q, f_Mo_rule nf a0 c = some q ∧ Zwt zty G q.2 ∧ Zfr G M_Mo_rule c q.2 ∧ Zwo G q.2 a0 ∧ Ztz G q.2 a0 := by
  have F0 : Zfr G M_Mo_rule c c := Zfr.rf
  unfold f_Mo_rule
  obtain ⟨k0Zwo0, k1Zwo0⟩ := hb_Zwo
  obtain ⟨w2, ew2⟩ := go_64 W t_a0
  refine wb ew2 ?_
  obtain ⟨q1, eq1, Wq1, fq1, pbZVlq1⟩ := p_Mo_readRule hn W  t_a0 ⟨k0Zwo0, k1Zwo0⟩
  refine wb eq1 ?_
  have F1 := Zfr.tr F0 fq1 (by decide)
  obtain ⟨bpvq1, bf2q1, bt2q1, bd2q1, bksq1, bklq1, bkwq1, bnaq1, blbq1, bnwq1, bvnq1, bkgq1, bg2q1, bcd2q1, bkiq1, bi2q1, bkAq1, bgAq1, bkBq1, bgBq1, btp2q1, h0ZVlq1, h1ZVlq1, h2ZVlq1, h3ZVlq1, h4ZVlq1, h5ZVlq1, h6ZVlq1, h7ZVlq1, h8ZVlq1, h9ZVlq1, h10ZVlq1, h11ZVlq1, h12ZVlq1, h13ZVlq1, h14ZVlq1, h15ZVlq1, h16ZVlq1, h17ZVlq1, h18ZVlq1, h19ZVlq1, h20ZVlq1, tksq1, tklq1, tkwq1, tkgq1, tkiq1, tkAq1, tkBq1, r0ZVlq1, r1ZVlq1, r2ZVlq1, r3ZVlq1, r4ZVlq1, r5ZVlq1, r6ZVlq1, r7ZVlq1, r8ZVlq1, r9ZVlq1, r10ZVlq1, r11ZVlq1, r12ZVlq1, r13ZVlq1, r14ZVlq1, r15ZVlq1, r16ZVlq1, r17ZVlq1, r18ZVlq1, r19ZVlq1, r20ZVlq1, r21ZVlq1, r22ZVlq1, r23ZVlq1, r24ZVlq1, r25ZVlq1, k0ZVlq1, k1ZVlq1, k2ZVlq1, k3ZVlq1, k4ZVlq1⟩ := pbZVlq1
  refine wi (fun hq2 => ?_) (fun hq2 => ?_)
  · have := li_0
    have := i_ge q1.1
    have := i_up q1.1
    have hq2 := i_lt hq2
    unfold f_Mo_rule_20
    obtain ⟨xq, xe, lw_3, uw_3⟩ := gf_64_13 Wq1 t_a0
    rw [h20ZVlq1] at xe; cases xe
    exact ⟨_, rfl, Wq1, F1, ⟨(k0ZVlq1).1, k4ZVlq1⟩, ⟨btp2q1, h20ZVlq1, by (try dsimp only); omega⟩⟩
  · have := li_0
    have := i_ge q1.1
    have := i_up q1.1
    have hq2 := i_nlt hq2
    obtain ⟨w5, ew5⟩ := go_64 Wq1 t_a0
    refine wb ew5 ?_
    have : 0 ≤ q1.1.toInt ∧ q1.1.toInt ≤ 3 := by omega
    have := li_4
    have := i_add (a := 4) (b := q1.1) (by omega) (by omega)
    have tz10 := TzF_of h0ZVlq1 h6ZVlq1 h9ZVlq1 h14ZVlq1 h15ZVlq1 k1ZVlq1 k2ZVlq1 k3ZVlq1 h1ZVlq1 (by omega) Wq1 t_a0
    obtain ⟨q4, eq4, Wq4, fq4, pbZgwq4⟩ := p_Mo_settle hn Wq1 (a1 := (4 + q1.1)) t_a0 (by omega) (by omega) ⟨k0ZVlq1, TzD_2 h0ZVlq1 tz10 h16ZVlq1 h17ZVlq1 h18ZVlq1 h19ZVlq1 (by omega) (by omega)⟩
    refine wb eq4 ?_
    have e15 := (Zfr.gi fq4 t_a0 (by decide)).trans h0ZVlq1
    have e16 := (Zfr.gi fq4 t_a0 (by decide)).trans h1ZVlq1
    have e17 := (Zfr.gr fq4 t_a0 (by decide)).trans h6ZVlq1
    have e18 := (Zfr.ai fq4 tksq1 (by decide)).trans h7ZVlq1
    have e19 := (Zfr.ai fq4 tklq1 (by decide)).trans h8ZVlq1
    have e20 := (Zfr.ai fq4 tkwq1 (by decide)).trans h9ZVlq1
    have e21 := (Zfr.ai fq4 tkgq1 (by decide)).trans h12ZVlq1
    have e22 := (Zfr.gr fq4 t_a0 (by decide)).trans h14ZVlq1
    have e23 := (Zfr.ai fq4 tkiq1 (by decide)).trans h15ZVlq1
    have e24 := (Zfr.gr fq4 t_a0 (by decide)).trans h16ZVlq1
    have e25 := (Zfr.ai fq4 tkAq1 (by decide)).trans h17ZVlq1
    have e26 := (Zfr.gr fq4 t_a0 (by decide)).trans h18ZVlq1
    have e27 := (Zfr.ai fq4 tkBq1 (by decide)).trans h19ZVlq1
    have e28 := (Zfr.gi fq4 t_a0 (by decide)).trans h20ZVlq1
    have sc31 := Sc_fr fq4 t_a0 (by decide) (by decide) (by decide)
    have k30 := WyN_fr k1ZVlq1 fq4 t_a0 Wq1 (by decide) sc31
    have k32 := TbI_fr k2ZVlq1 fq4 t_a0 Wq1 (by decide) sc31
    have k33 := TbC_fr k3ZVlq1 fq4 t_a0 Wq1 (by decide) sc31
    have k34 := TkN_fr k4ZVlq1 fq4 t_a0 Wq1 (by decide)
    have F35 := Zfr.tr F1 fq4 (by decide)
    have k0Zgwq4 := pbZgwq4
    obtain ⟨w7, ew7⟩ := go_64 Wq4 t_a0
    refine wb ew7 ?_
    obtain ⟨q6, eq6, Wq6, fq6⟩ := p_Mo_changed hn Wq4  t_a0
    refine wb eq6 ?_
    have e36 := (Zfr.gi fq6 t_a0 (by decide)).trans e15
    have e37 := (Zfr.gi fq6 t_a0 (by decide)).trans e16
    have e38 := (Zfr.gr fq6 t_a0 (by decide)).trans e17
    have e39 := (Zfr.ai fq6 tksq1 (by decide)).trans e18
    have e40 := (Zfr.ai fq6 tklq1 (by decide)).trans e19
    have e41 := (Zfr.ai fq6 tkwq1 (by decide)).trans e20
    have e42 := (Zfr.ai fq6 tkgq1 (by decide)).trans e21
    have e43 := (Zfr.gr fq6 t_a0 (by decide)).trans e22
    have e44 := (Zfr.ai fq6 tkiq1 (by decide)).trans e23
    have e45 := (Zfr.gr fq6 t_a0 (by decide)).trans e24
    have e46 := (Zfr.ai fq6 tkAq1 (by decide)).trans e25
    have e47 := (Zfr.gr fq6 t_a0 (by decide)).trans e26
    have e48 := (Zfr.ai fq6 tkBq1 (by decide)).trans e27
    have e49 := (Zfr.gi fq6 t_a0 (by decide)).trans e28
    have sc51 := Sc_fr fq6 t_a0 (by decide) (by decide) (by decide)
    have k50 := WyN_fr k30 fq6 t_a0 Wq4 (by decide) sc51
    have k52 := TbI_fr k32 fq6 t_a0 Wq4 (by decide) sc51
    have k53 := TbC_fr k33 fq6 t_a0 Wq4 (by decide) sc51
    have k54 := TkN_fr k34 fq6 t_a0 Wq4 (by decide)
    have k55 := GtW_fr k0Zgwq4 fq6 t_a0 Wq4 (by decide)
    have F56 := Zfr.tr F35 fq6 (by decide)
    unfold f_Mo_rule_20
    obtain ⟨xq, xe, lw_57, uw_57⟩ := gf_64_13 Wq6 t_a0
    rw [e49] at xe; cases xe
    exact ⟨_, rfl, Wq6, F56, ⟨k55, k54⟩, ⟨btp2q1, e49, by (try dsimp only); omega⟩⟩

abbrev M_Mo_forget : List (Nat × Nat) := [(64, 10), (78, 0), (131, 0)]
set_option maxRecDepth 100000 in
set_option maxHeartbeats 400000 in
theorem p_Mo_forget {nf : Nat} (hn : 8589934592 ≤ nf) {G : List Nat} {c : Zc} (W : Zwt zty G c) {a0 : Nat} {a1 : Int32}  (t_a0 : G[a0]? = some 64) (hb_Zwo : Zwo G c a0) : ∃ q, f_Mo_forget nf a0 a1 c = some q ∧ Zwt zty G q.2 ∧ Zfr G M_Mo_forget c q.2 ∧ Zwo G q.2 a0 := by
  have F0 : Zfr G M_Mo_forget c c := Zfr.rf
  unfold f_Mo_forget
  obtain ⟨k0Zwo0, k1Zwo0⟩ := hb_Zwo
  have := li_4
  obtain ⟨q1, eq1, Wq1, fq1, po0q1, po1q1, pl2q1, pu2q1⟩ := p_Mo_isIn hn W (a0 := a1) (a1 := 4) 
  refine wb eq1 ?_
  have k1 := GtW_fr k0Zwo0 fq1 t_a0 W (by decide)
  have k2 := TkN_fr k1Zwo0 fq1 t_a0 W (by decide)
  have F3 := Zfr.tr F0 fq1 (by decide)
  refine wi (fun hq4 => ?_) (fun hq4 => ?_)
  · have := li_0
    have hq4 := i_eq hq4
    have := li_m1
    exact ⟨_, rfl, Wq1, F3, ⟨k1, k2⟩⟩
  · have := li_0
    have hq4 := i_ne hq4
    obtain ⟨v3, ev3, tv3⟩ := gf_64_23 Wq1 t_a0
    refine wb ev3 ?_
    have := i_add (a := 4) (b := a1) (by omega) (by omega)
    obtain ⟨v4, ev4, lv4, uv4⟩ := ga_78 Wq1 tv3 (i := (4 + a1)) (by omega) (by omega)
    refine wb ev4 ?_
    refine wi (fun hq5 => ?_) (fun hq5 => ?_)
    · have hq5 := i_eq hq5
      have := li_m2
      exact ⟨_, rfl, Wq1, F3, ⟨k1, k2⟩⟩
    · have hq5 := i_ne hq5
      refine wb ev3 ?_
      have := nb_0
      obtain ⟨c7, ec7, Wc7, fc7, gc7⟩ := pa_78 Wq1 tv3 (i := (4 + a1)) (by omega) (by omega) (x := (vp_nar .boolean 0)) (rgi (by omega) (by omega))
      refine wb ec7 ?_
      have k6 := GtW_w23 k1 Wq1 t_a0 fc7 ev3 ec7 (by omega)
      have k7 := TkN_fr k2 fc7 t_a0 Wq1 (by decide)
      have F8 := Zfr.tr F3 fc7 (by decide)
      obtain ⟨w9, ew9⟩ := go_64 Wc7 t_a0
      refine wb ew9 ?_
      obtain ⟨q8, eq8, Wq8, fq8⟩ := p_Mo_changed hn Wc7  t_a0
      refine wb eq8 ?_
      have e9 := (Zfr.ai fq8 tv3 (by decide)).trans gc7
      have k10 := GtW_fr k6 fq8 t_a0 Wc7 (by decide)
      have k11 := TkN_fr k7 fq8 t_a0 Wc7 (by decide)
      have F12 := Zfr.tr F8 fq8 (by decide)
      have := li_1
      exact ⟨_, rfl, Wq8, F12, ⟨k10, k11⟩⟩

abbrev M_Mo_arc : List (Nat × Nat) := [(64, 8), (64, 10), (67, 0), (68, 0), (69, 0), (70, 0), (71, 0), (131, 0)]
set_option maxRecDepth 100000 in
set_option maxHeartbeats 400000 in
theorem p_Mo_arc {nf : Nat} (hn : 8589934592 ≤ nf) {G : List Nat} {c : Zc} (W : Zwt zty G c) {a0 : Nat} {a1 : Int32} {a2 : Int32} {a3 : Int32} {a4 : Int32}  (t_a0 : G[a0]? = some 64) (hb_Zac : Zac G c a0) : ∃ q, f_Mo_arc nf a0 a1 a2 a3 a4 c = some q ∧ Zwt zty G q.2 ∧ Zfr G M_Mo_arc c q.2 ∧ Zac G q.2 a0 := by
  have F0 : Zfr G M_Mo_arc c c := Zfr.rf
  unfold f_Mo_arc
  obtain ⟨bna0, h0Zac0, r0Zac0, r1Zac0, k0Zac0⟩ := hb_Zac
  obtain ⟨v1, ev1, lv1, uv1⟩ := gf_64_0 W t_a0
  refine wb ev1 ?_
  obtain ⟨q2, eq2, Wq2, fq2, po0q2, po1q2, pl2q2, pu2q2⟩ := p_Mo_isIn hn W (a0 := a1) (a1 := v1) 
  refine wb eq2 ?_
  have e1 := (Zfr.gi fq2 t_a0 (by decide)).trans h0Zac0
  have e2 := (Zfr.gi fq2 t_a0 (by decide)).trans ev1
  have k3 := AcN_fr k0Zac0 fq2 t_a0 W (by decide)
  have F4 := Zfr.tr F0 fq2 (by decide)
  refine wi (fun hq5 => ?_) (fun hq5 => ?_)
  · have := li_0
    have hq5 := i_eq hq5
    unfold f_Mo_arc_41
    have := li_m1
    exact ⟨_, rfl, Wq2, F4, ⟨bna0, e1, by (try dsimp only); omega, by (try dsimp only); omega, k3⟩⟩
  · have := li_0
    have hq5 := i_ne hq5
    refine wb e2 ?_
    obtain ⟨q5, eq5, Wq5, fq5, po0q5, po1q5, pl2q5, pu2q5⟩ := p_Mo_isIn hn Wq2 (a0 := a2) (a1 := v1) 
    refine wb eq5 ?_
    have e7 := (Zfr.gi fq5 t_a0 (by decide)).trans e1
    have k8 := AcN_fr k3 fq5 t_a0 Wq2 (by decide)
    have F9 := Zfr.tr F4 fq5 (by decide)
    refine wi (fun hq10 => ?_) (fun hq10 => ?_)
    · have hq10 := i_eq hq10
      unfold f_Mo_arc_41
      have := li_m1
      exact ⟨_, rfl, Wq5, F9, ⟨bna0, e7, by (try dsimp only); omega, by (try dsimp only); omega, k8⟩⟩
    · have hq10 := i_ne hq10
      have := li_8
      obtain ⟨q7, eq7, Wq7, fq7, po0q7, po1q7, pl2q7, pu2q7⟩ := p_Mo_isIn hn Wq5 (a0 := a3) (a1 := 8) 
      refine wb eq7 ?_
      have e12 := (Zfr.gi fq7 t_a0 (by decide)).trans e7
      have k13 := AcN_fr k8 fq7 t_a0 Wq5 (by decide)
      have F14 := Zfr.tr F9 fq7 (by decide)
      refine wi (fun hq15 => ?_) (fun hq15 => ?_)
      · have hq15 := i_eq hq15
        unfold f_Mo_arc_41
        have := li_m1
        exact ⟨_, rfl, Wq7, F14, ⟨bna0, e12, by (try dsimp only); omega, by (try dsimp only); omega, k13⟩⟩
      · have hq15 := i_ne hq15
        have := li_100
        obtain ⟨q9, eq9, Wq9, fq9, po0q9, po1q9, pl2q9, pu2q9⟩ := p_Mo_isIn hn Wq7 (a0 := a4) (a1 := 100) 
        refine wb eq9 ?_
        have e17 := (Zfr.gi fq9 t_a0 (by decide)).trans e12
        have k18 := AcN_fr k13 fq9 t_a0 Wq7 (by decide)
        have F19 := Zfr.tr F14 fq9 (by decide)
        refine wi (fun hq20 => ?_) (fun hq20 => ?_)
        · have hq20 := i_eq hq20
          unfold f_Mo_arc_41
          have := li_m1
          exact ⟨_, rfl, Wq9, F19, ⟨bna0, e17, by (try dsimp only); omega, by (try dsimp only); omega, k18⟩⟩
        · have hq20 := i_ne hq20
          refine wb e17 ?_
          refine wi (fun hq22 => ?_) (fun hq22 => ?_)
          · have hq22 := i_eq hq22
            have := li_m3
            exact ⟨_, rfl, Wq9, F19, ⟨bna0, e17, by (try dsimp only); omega, by (try dsimp only); omega, k18⟩⟩
          · have hq22 := i_ne hq22
            unfold f_Mo_arc_58
            obtain ⟨gi, hgi, hg0⟩ := AcN_ex k18 (by omega)
            have L24 : ∃ b, zlp (fun a : Nat × Int32 × Int32 × Int32 × Int32 × Int32 × Zc => g_Mo_arc_58 nf a.1 a.2.1 a.2.2.1 a.2.2.2.1 a.2.2.2.2.1 a.2.2.2.2.2.1 a.2.2.2.2.2.2) nf (a0, a1, a2, a3, a4, 0, q9.2) = some b ∧ (fun b : (Nat × Int32 × Int32 × Int32 × Int32 × Int32 × Zc) => a0 = b.1 ∧ a1 = b.2.1 ∧ a2 = b.2.2.1 ∧ a3 = b.2.2.2.1 ∧ a4 = b.2.2.2.2.1 ∧ Zwt zty G b.2.2.2.2.2.2 ∧ Zfr G ([] : List (Nat × Nat)) q9.2 b.2.2.2.2.2.2 ∧ 0 ≤ b.2.2.2.2.2.1.toInt ∧ b.2.2.2.2.2.1.toInt ≤ 99 ∧ Zfe G b.2.2.2.2.2.2 a0 b.2.2.2.2.2.1) b := by
              refine wlp (fun a : Nat × Int32 × Int32 × Int32 × Int32 × Int32 × Zc => a0 = a.1 ∧ a1 = a.2.1 ∧ a2 = a.2.2.1 ∧ a3 = a.2.2.2.1 ∧ a4 = a.2.2.2.2.1 ∧ Zwt zty G a.2.2.2.2.2.2 ∧ Zfr G ([] : List (Nat × Nat)) q9.2 a.2.2.2.2.2.2 ∧ 0 ≤ a.2.2.2.2.2.1.toInt ∧ a.2.2.2.2.2.1.toInt ≤ 99 ∧ a.2.2.2.2.2.1.toInt ≤ (gi : Int)) (fun a => (100 - a.2.2.2.2.2.1.toInt).toNat) (fun b : (Nat × Int32 × Int32 × Int32 × Int32 × Int32 × Zc) => a0 = b.1 ∧ a1 = b.2.1 ∧ a2 = b.2.2.1 ∧ a3 = b.2.2.2.1 ∧ a4 = b.2.2.2.2.1 ∧ Zwt zty G b.2.2.2.2.2.2 ∧ Zfr G ([] : List (Nat × Nat)) q9.2 b.2.2.2.2.2.2 ∧ 0 ≤ b.2.2.2.2.2.1.toInt ∧ b.2.2.2.2.2.1.toInt ≤ 99 ∧ Zfe G b.2.2.2.2.2.2 a0 b.2.2.2.2.2.1) ?_ ?_ ?_
              · rintro ⟨x0_25, x1_25, x2_25, x3_25, x4_25, x5_25, c_25⟩ hI
                try dsimp only at hI ⊢
                obtain ⟨rfl, rfl, rfl, rfl, rfl, WLc_25, FLc_25, j26, j27, j28⟩ := hI
                have e29 := (Zfr.gi FLc_25 t_a0 (by decide)).trans e17
                have k30 := AcN_fr k18 FLc_25 t_a0 Wq9 (by decide)
                have k31 := FrG_fr hg0 FLc_25 t_a0 Wq9 (by decide)
                unfold g_Mo_arc_58
                obtain ⟨v13, ev13, tv13⟩ := gf_64_3 WLc_25 t_a0
                refine wb ev13 ?_
                obtain ⟨v14, ev14, lv14, uv14⟩ := ga_67 WLc_25 tv13 (i := x5_25) (by omega) (by omega)
                refine wb ev14 ?_
                have := FrG_ne k31 ev13 ev14
                refine wi (fun hq32 => ?_) (fun hq32 => ?_)
                · have hq32 := i_eq hq32
                  exact lInr ⟨rfl, rfl, rfl, rfl, rfl, WLc_25, FLc_25, by (try dsimp only); omega, by (try dsimp only); omega, ⟨v13, v14, ev13, ev14, tv13, by (try dsimp only); omega⟩⟩
                · have hq32 := i_ne hq32
                  have := li_1
                  have := i_add (a := x5_25) (b := 1) (by omega) (by omega)
                  exact lInl ⟨rfl, rfl, rfl, rfl, rfl, WLc_25, FLc_25, by (try dsimp only); omega, by (try dsimp only); omega, by (try dsimp only); omega⟩ (by (try dsimp only); omega)
              · exact ⟨rfl, rfl, rfl, rfl, rfl, Wq9, Zfr.rf, by (try dsimp only); omega, by (try dsimp only); omega, by (try dsimp only); omega⟩
              · (try dsimp only); omega
            obtain ⟨b, eb, hb⟩ := L24
            refine wb eb ?_
            clear eb
            obtain ⟨z0_35, z1_35, z2_35, z3_35, z4_35, z5_35, c_35⟩ := b
            try dsimp only at hb ⊢
            obtain ⟨rfl, rfl, rfl, rfl, rfl, WXc_35, FXc_35, j36, j37, hXZfec_35⟩ := hb
            have e38 := (Zfr.gi FXc_35 t_a0 (by decide)).trans e17
            have k39 := AcN_fr k18 FXc_35 t_a0 Wq9 (by decide)
            have k40 := FrG_fr hg0 FXc_35 t_a0 Wq9 (by decide)
            have F41 := Zfr.tr F19 FXc_35 (by decide)
            obtain ⟨bktxc_35, bv0xc_35, h0Zfexc_35, h1Zfexc_35, tktxc_35, r0Zfexc_35⟩ := hXZfec_35
            refine wb h0Zfexc_35 ?_
            have := nb_1
            obtain ⟨c17, ec17, Wc17, fc17, gc17⟩ := pa_67 WXc_35 tktxc_35 (i := z5_35) (by omega) (by omega) (x := (vp_nar .boolean 1)) (rgi (by omega) (by omega))
            refine wb ec17 ?_
            have e42 := (Zfr.gi fc17 t_a0 (by decide)).trans e38
            have e43 := (Zfr.gr fc17 t_a0 (by decide)).trans h0Zfexc_35
            have := li_1
            have := i_add (a := bna0) (b := 1) (by omega) (by omega)
            have k44 := AcN_up (n' := (bna0 + 1)) k39 h0Zfexc_35 h1Zfexc_35 ec17 (by omega) (by omega) (by omega) (by omega)
            have F45 := Zfr.tr F41 fc17 (by decide)
            obtain ⟨v18, ev18, tv18⟩ := gf_64_4 Wc17 t_a0
            refine wb ev18 ?_
            obtain ⟨c19, ec19, Wc19, fc19, gc19⟩ := pa_68 Wc17 tv18 (i := z5_35) (by omega) (by omega) (x := a1) (rgi (by omega) (by omega))
            refine wb ec19 ?_
            have e46 := (Zfr.gi fc19 t_a0 (by decide)).trans e42
            have e47 := (Zfr.gr fc19 t_a0 (by decide)).trans e43
            have e48 := (Zfr.ai fc19 tktxc_35 (by decide)).trans gc17
            have k49 := AcN_fr k44 fc19 t_a0 Wc17 (by decide)
            have F50 := Zfr.tr F45 fc19 (by decide)
            obtain ⟨v20, ev20, tv20⟩ := gf_64_5 Wc19 t_a0
            refine wb ev20 ?_
            obtain ⟨c21, ec21, Wc21, fc21, gc21⟩ := pa_69 Wc19 tv20 (i := z5_35) (by omega) (by omega) (x := a2) (rgi (by omega) (by omega))
            refine wb ec21 ?_
            have e51 := (Zfr.gi fc21 t_a0 (by decide)).trans e46
            have e52 := (Zfr.gr fc21 t_a0 (by decide)).trans e47
            have e53 := (Zfr.ai fc21 tktxc_35 (by decide)).trans e48
            have e54 := (Zfr.ai fc21 tv18 (by decide)).trans gc19
            have k55 := AcN_fr k49 fc21 t_a0 Wc19 (by decide)
            have F56 := Zfr.tr F50 fc21 (by decide)
            obtain ⟨v22, ev22, tv22⟩ := gf_64_6 Wc21 t_a0
            refine wb ev22 ?_
            obtain ⟨c23, ec23, Wc23, fc23, gc23⟩ := pa_70 Wc21 tv22 (i := z5_35) (by omega) (by omega) (x := a3) (rgi (by omega) (by omega))
            refine wb ec23 ?_
            have e57 := (Zfr.gi fc23 t_a0 (by decide)).trans e51
            have e58 := (Zfr.gr fc23 t_a0 (by decide)).trans e52
            have e59 := (Zfr.ai fc23 tktxc_35 (by decide)).trans e53
            have e60 := (Zfr.ai fc23 tv18 (by decide)).trans e54
            have e61 := (Zfr.ai fc23 tv20 (by decide)).trans gc21
            have k62 := AcN_fr k55 fc23 t_a0 Wc21 (by decide)
            have F63 := Zfr.tr F56 fc23 (by decide)
            obtain ⟨v24, ev24, tv24⟩ := gf_64_7 Wc23 t_a0
            refine wb ev24 ?_
            obtain ⟨c25, ec25, Wc25, fc25, gc25⟩ := pa_71 Wc23 tv24 (i := z5_35) (by omega) (by omega) (x := a4) (rgi (by omega) (by omega))
            refine wb ec25 ?_
            have e64 := (Zfr.gi fc25 t_a0 (by decide)).trans e57
            have e65 := (Zfr.gr fc25 t_a0 (by decide)).trans e58
            have e66 := (Zfr.ai fc25 tktxc_35 (by decide)).trans e59
            have e67 := (Zfr.ai fc25 tv18 (by decide)).trans e60
            have e68 := (Zfr.ai fc25 tv20 (by decide)).trans e61
            have e69 := (Zfr.ai fc25 tv22 (by decide)).trans gc23
            have k70 := AcN_fr k62 fc25 t_a0 Wc23 (by decide)
            have F71 := Zfr.tr F63 fc25 (by decide)
            refine wb e64 ?_
            obtain ⟨c27, ec27, Wc27, fc27, gc27⟩ := pf_64_8 Wc25 t_a0 (x := (bna0 + 1)) (rgi (by omega) (by omega))
            refine wb ec27 ?_
            have e72 := (Zfr.gr fc27 t_a0 (by decide)).trans e65
            have e73 := (Zfr.ai fc27 tktxc_35 (by decide)).trans e66
            have e74 := (Zfr.ai fc27 tv18 (by decide)).trans e67
            have e75 := (Zfr.ai fc27 tv20 (by decide)).trans e68
            have e76 := (Zfr.ai fc27 tv22 (by decide)).trans e69
            have e77 := (Zfr.ai fc27 tv24 (by decide)).trans gc25
            have k78 := AcN_fr k70 fc27 t_a0 Wc25 (by decide)
            have F79 := Zfr.tr F71 fc27 (by decide)
            obtain ⟨w29, ew29⟩ := go_64 Wc27 t_a0
            refine wb ew29 ?_
            obtain ⟨q28, eq28, Wq28, fq28⟩ := p_Mo_changed hn Wc27  t_a0
            refine wb eq28 ?_
            have e80 := (Zfr.gr fq28 t_a0 (by decide)).trans e72
            have e81 := (Zfr.ai fq28 tktxc_35 (by decide)).trans e73
            have e82 := (Zfr.ai fq28 tv18 (by decide)).trans e74
            have e83 := (Zfr.ai fq28 tv20 (by decide)).trans e75
            have e84 := (Zfr.ai fq28 tv22 (by decide)).trans e76
            have e85 := (Zfr.ai fq28 tv24 (by decide)).trans e77
            have e86 := (Zfr.gi fq28 t_a0 (by decide)).trans gc27
            have k87 := AcN_fr k78 fq28 t_a0 Wc27 (by decide)
            have F88 := Zfr.tr F79 fq28 (by decide)
            exact ⟨_, rfl, Wq28, F88, ⟨(bna0 + 1), e86, by (try dsimp only); omega, by (try dsimp only); omega, k87⟩⟩

abbrev M_Mo_drop : List (Nat × Nat) := [(64, 8), (64, 10), (67, 0), (131, 0)]
set_option maxRecDepth 100000 in
set_option maxHeartbeats 400000 in
theorem p_Mo_drop {nf : Nat} (hn : 8589934592 ≤ nf) {G : List Nat} {c : Zc} (W : Zwt zty G c) {a0 : Nat} {a1 : Int32}  (t_a0 : G[a0]? = some 64) (hb_Zac : Zac G c a0) : ∃ q, f_Mo_drop nf a0 a1 c = some q ∧ Zwt zty G q.2 ∧ Zfr G M_Mo_drop c q.2 ∧ Zac G q.2 a0 := by
  have F0 : Zfr G M_Mo_drop c c := Zfr.rf
  unfold f_Mo_drop
  obtain ⟨bna0, h0Zac0, r0Zac0, r1Zac0, k0Zac0⟩ := hb_Zac
  have := li_100
  obtain ⟨q1, eq1, Wq1, fq1, po0q1, po1q1, pl2q1, pu2q1⟩ := p_Mo_isIn hn W (a0 := a1) (a1 := 100) 
  refine wb eq1 ?_
  have e1 := (Zfr.gi fq1 t_a0 (by decide)).trans h0Zac0
  have k2 := AcN_fr k0Zac0 fq1 t_a0 W (by decide)
  have F3 := Zfr.tr F0 fq1 (by decide)
  refine wi (fun hq4 => ?_) (fun hq4 => ?_)
  · have := li_0
    have hq4 := i_eq hq4
    unfold f_Mo_drop_18
    have := li_m1
    exact ⟨_, rfl, Wq1, F3, ⟨bna0, e1, by (try dsimp only); omega, by (try dsimp only); omega, k2⟩⟩
  · have := li_0
    have hq4 := i_ne hq4
    obtain ⟨v3, ev3, tv3⟩ := gf_64_3 Wq1 t_a0
    refine wb ev3 ?_
    obtain ⟨v4, ev4, lv4, uv4⟩ := ga_67 Wq1 tv3 (i := a1) (by omega) (by omega)
    refine wb ev4 ?_
    refine wi (fun hq6 => ?_) (fun hq6 => ?_)
    · have hq6 := i_eq hq6
      unfold f_Mo_drop_18
      have := li_m1
      exact ⟨_, rfl, Wq1, F3, ⟨bna0, e1, by (try dsimp only); omega, by (try dsimp only); omega, k2⟩⟩
    · have hq6 := i_ne hq6
      refine wb ev3 ?_
      have := nb_0
      obtain ⟨c7, ec7, Wc7, fc7, gc7⟩ := pa_67 Wq1 tv3 (i := a1) (by omega) (by omega) (x := (vp_nar .boolean 0)) (rgi (by omega) (by omega))
      refine wb ec7 ?_
      have e8 := (Zfr.gi fc7 t_a0 (by decide)).trans e1
      have e9 := (Zfr.gr fc7 t_a0 (by decide)).trans ev3
      have := AcN_ps k2 ev3 ev4 (by omega) (by omega)
      have := li_1
      have := i_sub (a := bna0) (b := 1) (by omega) (by omega)
      have k10 := AcN_dn (n' := (bna0 - 1)) k2 ev3 ev4 ec7 (by omega) (by omega) (by omega) (by omega)
      have F11 := Zfr.tr F3 fc7 (by decide)
      refine wb e8 ?_
      obtain ⟨c9, ec9, Wc9, fc9, gc9⟩ := pf_64_8 Wc7 t_a0 (x := (bna0 - 1)) (rgi (by omega) (by omega))
      refine wb ec9 ?_
      have e12 := (Zfr.gr fc9 t_a0 (by decide)).trans e9
      have e13 := (Zfr.ai fc9 tv3 (by decide)).trans gc7
      have k14 := AcN_fr k10 fc9 t_a0 Wc7 (by decide)
      have F15 := Zfr.tr F11 fc9 (by decide)
      obtain ⟨w11, ew11⟩ := go_64 Wc9 t_a0
      refine wb ew11 ?_
      obtain ⟨q10, eq10, Wq10, fq10⟩ := p_Mo_changed hn Wc9  t_a0
      refine wb eq10 ?_
      have e16 := (Zfr.gr fq10 t_a0 (by decide)).trans e12
      have e17 := (Zfr.ai fq10 tv3 (by decide)).trans e13
      have e18 := (Zfr.gi fq10 t_a0 (by decide)).trans gc9
      have k19 := AcN_fr k14 fq10 t_a0 Wc9 (by decide)
      have F20 := Zfr.tr F15 fq10 (by decide)
      refine wb e18 ?_
      exact ⟨_, rfl, Wq10, F20, ⟨(bna0 - 1), e18, by (try dsimp only); omega, by (try dsimp only); omega, k19⟩⟩

abbrev M_Mo_bare : List (Nat × Nat) := [(64, 8), (64, 10), (65, 0), (66, 0), (67, 0), (131, 0)]
set_option maxRecDepth 100000 in
set_option maxHeartbeats 400000 in
theorem p_Mo_bare {nf : Nat} (hn : 8589934592 ≤ nf) {G : List Nat} {c : Zc} (W : Zwt zty G c) {a0 : Nat} {a1 : Int32}  (t_a0 : G[a0]? = some 64) (hb_Zac : Zac G c a0) : ∃ q, f_Mo_bare nf a0 a1 c = some q ∧ Zwt zty G q.2 ∧ Zfr G M_Mo_bare c q.2 ∧ Zac G q.2 a0 := by
  have F0 : Zfr G M_Mo_bare c c := Zfr.rf
  unfold f_Mo_bare
  obtain ⟨bna0, h0Zac0, r0Zac0, r1Zac0, k0Zac0⟩ := hb_Zac
  obtain ⟨v1, ev1, lv1, uv1⟩ := gf_64_0 W t_a0
  refine wb ev1 ?_
  obtain ⟨q2, eq2, Wq2, fq2, po0q2, po1q2, pl2q2, pu2q2⟩ := p_Mo_isIn hn W (a0 := a1) (a1 := v1) 
  refine wb eq2 ?_
  have e1 := (Zfr.gi fq2 t_a0 (by decide)).trans h0Zac0
  have k2 := AcN_fr k0Zac0 fq2 t_a0 W (by decide)
  have F3 := Zfr.tr F0 fq2 (by decide)
  refine wi (fun hq4 => ?_) (fun hq4 => ?_)
  · have := li_0
    have hq4 := i_eq hq4
    have := li_m1
    exact ⟨_, rfl, Wq2, F3, ⟨bna0, e1, by (try dsimp only); omega, by (try dsimp only); omega, k2⟩⟩
  · have := li_0
    have hq4 := i_ne hq4
    unfold f_Mo_bare_17
    have L6 : ∃ b, zlp (fun a : Nat × Int32 × Int32 × Int32 × Zc => g_Mo_bare_17 nf a.1 a.2.1 a.2.2.1 a.2.2.2.1 a.2.2.2.2) nf (a0, a1, 0, 0, q2.2) = some b ∧ (fun b : (Nat × Int32 × Int32 × Zc) => a0 = b.1 ∧ a1 = b.2.1 ∧ Zwt zty G b.2.2.2 ∧ Zfr G ([(64, 8), (67, 0)] : List (Nat × Nat)) q2.2 b.2.2.2 ∧ 0 ≤ b.2.2.1.toInt ∧ b.2.2.1.toInt ≤ 100 ∧ Zac G b.2.2.2 a0) b := by
      refine wlp (fun a : Nat × Int32 × Int32 × Int32 × Zc => a0 = a.1 ∧ a1 = a.2.1 ∧ Zwt zty G a.2.2.2.2 ∧ Zfr G ([(64, 8), (67, 0)] : List (Nat × Nat)) q2.2 a.2.2.2.2 ∧ 0 ≤ a.2.2.1.toInt ∧ a.2.2.1.toInt ≤ 100 ∧ 0 ≤ a.2.2.2.1.toInt ∧ a.2.2.2.1.toInt ≤ 100 ∧ a.2.2.1.toInt ≤ a.2.2.2.1.toInt ∧ Zac G a.2.2.2.2 a0) (fun a => (100 - a.2.2.2.1.toInt).toNat) (fun b : (Nat × Int32 × Int32 × Zc) => a0 = b.1 ∧ a1 = b.2.1 ∧ Zwt zty G b.2.2.2 ∧ Zfr G ([(64, 8), (67, 0)] : List (Nat × Nat)) q2.2 b.2.2.2 ∧ 0 ≤ b.2.2.1.toInt ∧ b.2.2.1.toInt ≤ 100 ∧ Zac G b.2.2.2 a0) ?_ ?_ ?_
      · rintro ⟨x0_7, x1_7, x2_7, x3_7, c_7⟩ hI
        try dsimp only at hI ⊢
        obtain ⟨rfl, rfl, WLc_7, FLc_7, j8, j9, j10, j11, j12, hBZac_7⟩ := hI
        obtain ⟨bna_7, h0Zac_7, r0Zac_7, r1Zac_7, k0Zac_7⟩ := hBZac_7
        unfold g_Mo_bare_17
        refine wi (fun hq13 => ?_) (fun hq13 => ?_)
        · have := li_100
          have hq13 := i_le hq13
          exact lInr ⟨rfl, rfl, WLc_7, FLc_7, by (try dsimp only); omega, by (try dsimp only); omega, ⟨bna_7, h0Zac_7, by (try dsimp only); omega, by (try dsimp only); omega, k0Zac_7⟩⟩
        · have := li_100
          have hq13 := i_nle hq13
          obtain ⟨v5, ev5, tv5⟩ := gf_64_3 WLc_7 t_a0
          refine wb ev5 ?_
          obtain ⟨v6, ev6, lv6, uv6⟩ := ga_67 WLc_7 tv5 (i := x3_7) (by omega) (by omega)
          refine wb ev6 ?_
          refine wi (fun hq15 => ?_) (fun hq15 => ?_)
          · have hq15 := i_eq hq15
            unfold f_Mo_bare_72
            have := li_1
            have := i_add (a := x3_7) (b := 1) (by omega) (by omega)
            exact lInl ⟨rfl, rfl, WLc_7, FLc_7, by (try dsimp only); omega, by (try dsimp only); omega, by (try dsimp only); omega, by (try dsimp only); omega, by (try dsimp only); omega, ⟨bna_7, h0Zac_7, by (try dsimp only); omega, by (try dsimp only); omega, k0Zac_7⟩⟩ (by (try dsimp only); omega)
          · have hq15 := i_ne hq15
            obtain ⟨v8, ev8, tv8⟩ := gf_64_4 WLc_7 t_a0
            refine wb ev8 ?_
            obtain ⟨v9, ev9, lv9, uv9⟩ := ga_68 WLc_7 tv8 (i := x3_7) (by omega) (by omega)
            refine wb ev9 ?_
            refine wi (fun hq17 => ?_) (fun hq17 => ?_)
            · have hq17 := i_eq hq17
              unfold f_Mo_bare_52
              refine wb ev5 ?_
              have := nb_0
              obtain ⟨c12, ec12, Wc12, fc12, gc12⟩ := pa_67 WLc_7 tv5 (i := x3_7) (by omega) (by omega) (x := (vp_nar .boolean 0)) (rgi (by omega) (by omega))
              refine wb ec12 ?_
              have e18 := (Zfr.gi fc12 t_a0 (by decide)).trans h0Zac_7
              have e19 := (Zfr.gr fc12 t_a0 (by decide)).trans ev5
              have e20 := (Zfr.ai fc12 tv8 (by decide)).trans ev9
              have := AcN_ps k0Zac_7 ev5 ev6 (by omega) (by omega)
              have := li_1
              have := i_sub (a := bna_7) (b := 1) (by omega) (by omega)
              have k21 := AcN_dn (n' := (bna_7 - 1)) k0Zac_7 ev5 ev6 ec12 (by omega) (by omega) (by omega) (by omega)
              have F22 := Zfr.tr FLc_7 fc12 (by decide)
              refine wb e18 ?_
              obtain ⟨c14, ec14, Wc14, fc14, gc14⟩ := pf_64_8 Wc12 t_a0 (x := (bna_7 - 1)) (rgi (by omega) (by omega))
              refine wb ec14 ?_
              have e23 := (Zfr.gr fc14 t_a0 (by decide)).trans e19
              have e24 := (Zfr.ai fc14 tv8 (by decide)).trans e20
              have e25 := (Zfr.ai fc14 tv5 (by decide)).trans gc12
              have k26 := AcN_fr k21 fc14 t_a0 Wc12 (by decide)
              have F27 := Zfr.tr F22 fc14 (by decide)
              unfold f_Mo_bare_72
              have := i_add (a := x2_7) (b := 1) (by omega) (by omega)
              have := i_add (a := x3_7) (b := 1) (by omega) (by omega)
              exact lInl ⟨rfl, rfl, Wc14, F27, by (try dsimp only); omega, by (try dsimp only); omega, by (try dsimp only); omega, by (try dsimp only); omega, by (try dsimp only); omega, ⟨(bna_7 - 1), gc14, by (try dsimp only); omega, by (try dsimp only); omega, k26⟩⟩ (by (try dsimp only); omega)
            · have hq17 := i_ne hq17
              obtain ⟨v15, ev15, tv15⟩ := gf_64_5 WLc_7 t_a0
              refine wb ev15 ?_
              obtain ⟨v16, ev16, lv16, uv16⟩ := ga_69 WLc_7 tv15 (i := x3_7) (by omega) (by omega)
              refine wb ev16 ?_
              refine wi (fun hq29 => ?_) (fun hq29 => ?_)
              · have hq29 := i_eq hq29
                unfold f_Mo_bare_52
                refine wb ev5 ?_
                have := nb_0
                obtain ⟨c12, ec12, Wc12, fc12, gc12⟩ := pa_67 WLc_7 tv5 (i := x3_7) (by omega) (by omega) (x := (vp_nar .boolean 0)) (rgi (by omega) (by omega))
                refine wb ec12 ?_
                have e30 := (Zfr.gi fc12 t_a0 (by decide)).trans h0Zac_7
                have e31 := (Zfr.gr fc12 t_a0 (by decide)).trans ev5
                have e32 := (Zfr.ai fc12 tv8 (by decide)).trans ev9
                have e33 := (Zfr.ai fc12 tv15 (by decide)).trans ev16
                have := AcN_ps k0Zac_7 ev5 ev6 (by omega) (by omega)
                have := li_1
                have := i_sub (a := bna_7) (b := 1) (by omega) (by omega)
                have k34 := AcN_dn (n' := (bna_7 - 1)) k0Zac_7 ev5 ev6 ec12 (by omega) (by omega) (by omega) (by omega)
                have F35 := Zfr.tr FLc_7 fc12 (by decide)
                refine wb e30 ?_
                obtain ⟨c14, ec14, Wc14, fc14, gc14⟩ := pf_64_8 Wc12 t_a0 (x := (bna_7 - 1)) (rgi (by omega) (by omega))
                refine wb ec14 ?_
                have e36 := (Zfr.gr fc14 t_a0 (by decide)).trans e31
                have e37 := (Zfr.ai fc14 tv8 (by decide)).trans e32
                have e38 := (Zfr.ai fc14 tv15 (by decide)).trans e33
                have e39 := (Zfr.ai fc14 tv5 (by decide)).trans gc12
                have k40 := AcN_fr k34 fc14 t_a0 Wc12 (by decide)
                have F41 := Zfr.tr F35 fc14 (by decide)
                unfold f_Mo_bare_72
                have := i_add (a := x2_7) (b := 1) (by omega) (by omega)
                have := i_add (a := x3_7) (b := 1) (by omega) (by omega)
                exact lInl ⟨rfl, rfl, Wc14, F41, by (try dsimp only); omega, by (try dsimp only); omega, by (try dsimp only); omega, by (try dsimp only); omega, by (try dsimp only); omega, ⟨(bna_7 - 1), gc14, by (try dsimp only); omega, by (try dsimp only); omega, k40⟩⟩ (by (try dsimp only); omega)
              · have hq29 := i_ne hq29
                unfold f_Mo_bare_72
                have := li_1
                have := i_add (a := x3_7) (b := 1) (by omega) (by omega)
                exact lInl ⟨rfl, rfl, WLc_7, FLc_7, by (try dsimp only); omega, by (try dsimp only); omega, by (try dsimp only); omega, by (try dsimp only); omega, by (try dsimp only); omega, ⟨bna_7, h0Zac_7, by (try dsimp only); omega, by (try dsimp only); omega, k0Zac_7⟩⟩ (by (try dsimp only); omega)
      · exact ⟨rfl, rfl, Wq2, Zfr.rf, by (try dsimp only); omega, by (try dsimp only); omega, by (try dsimp only); omega, by (try dsimp only); omega, by (try dsimp only); omega, ⟨bna0, e1, by (try dsimp only); omega, by (try dsimp only); omega, k2⟩⟩
      · (try dsimp only); omega
    obtain ⟨b, eb, hb⟩ := L6
    refine wb eb ?_
    clear eb
    obtain ⟨z0_45, z1_45, z2_45, c_45⟩ := b
    try dsimp only at hb ⊢
    obtain ⟨rfl, rfl, WXc_45, FXc_45, j46, j47, hXZacc_45⟩ := hb
    have F49 := Zfr.tr F3 FXc_45 (by decide)
    obtain ⟨bnaxc_45, h0Zacxc_45, r0Zacxc_45, r1Zacxc_45, k0Zacxc_45⟩ := hXZacc_45
    obtain ⟨v18, ev18, tv18⟩ := gf_64_1 WXc_45 t_a0
    refine wb ev18 ?_
    obtain ⟨c19, ec19, Wc19, fc19, gc19⟩ := pa_65 WXc_45 tv18 (i := a1) (by omega) (by omega) (x := 0) (rgi (by omega) (by omega))
    refine wb ec19 ?_
    have e50 := (Zfr.gi fc19 t_a0 (by decide)).trans h0Zacxc_45
    have k51 := AcN_fr k0Zacxc_45 fc19 t_a0 WXc_45 (by decide)
    have F52 := Zfr.tr F49 fc19 (by decide)
    unfold f_Mo_bare_87
    have L53 : ∃ b, zlp (fun a : Nat × Int32 × Int32 × Int32 × Zc => g_Mo_bare_87 nf a.1 a.2.1 a.2.2.1 a.2.2.2.1 a.2.2.2.2) nf (a0, a1, z2_45, 0, c19) = some b ∧ (fun b : (Nat × Int32 × Zc) => a0 = b.1 ∧ z2_45 = b.2.1 ∧ Zwt zty G b.2.2 ∧ Zfr G ([(66, 0)] : List (Nat × Nat)) c19 b.2.2) b := by
      refine wlp (fun a : Nat × Int32 × Int32 × Int32 × Zc => a0 = a.1 ∧ a1 = a.2.1 ∧ z2_45 = a.2.2.1 ∧ Zwt zty G a.2.2.2.2 ∧ Zfr G ([(66, 0)] : List (Nat × Nat)) c19 a.2.2.2.2 ∧ 0 ≤ a.2.2.2.1.toInt ∧ a.2.2.2.1.toInt ≤ 4) (fun a => (4 - a.2.2.2.1.toInt).toNat) (fun b : (Nat × Int32 × Zc) => a0 = b.1 ∧ z2_45 = b.2.1 ∧ Zwt zty G b.2.2 ∧ Zfr G ([(66, 0)] : List (Nat × Nat)) c19 b.2.2) ?_ ?_ ?_
      · rintro ⟨x0_54, x1_54, x2_54, x3_54, c_54⟩ hI
        try dsimp only at hI ⊢
        obtain ⟨rfl, rfl, rfl, WLc_54, FLc_54, j55, j56⟩ := hI
        have e57 := (Zfr.gi FLc_54 t_a0 (by decide)).trans e50
        have e58 := (Zfr.ai FLc_54 tv18 (by decide)).trans gc19
        have k59 := AcN_fr k51 FLc_54 t_a0 Wc19 (by decide)
        unfold g_Mo_bare_87
        refine wi (fun hq60 => ?_) (fun hq60 => ?_)
        · have := li_4
          have hq60 := i_le hq60
          exact lInr ⟨rfl, rfl, WLc_54, FLc_54⟩
        · have := li_4
          have hq60 := i_nle hq60
          obtain ⟨v21, ev21, tv21⟩ := gf_64_2 WLc_54 t_a0
          refine wb ev21 ?_
          have := i_mull (a := 4) (b := a1) (n := 4) li_4 (by omega) (by omega)
          have := i_add (a := (4 * a1)) (b := x3_54) (by omega) (by omega)
          obtain ⟨c22, ec22, Wc22, fc22, gc22⟩ := pa_66 WLc_54 tv21 (i := ((4 * a1) + x3_54)) (by omega) (by omega) (x := 0) (rgi (by omega) (by omega))
          refine wb ec22 ?_
          have e61 := (Zfr.gi fc22 t_a0 (by decide)).trans e57
          have e62 := (Zfr.ai fc22 tv18 (by decide)).trans e58
          have k63 := AcN_fr k59 fc22 t_a0 WLc_54 (by decide)
          have F64 := Zfr.tr FLc_54 fc22 (by decide)
          have := li_1
          have := i_add (a := x3_54) (b := 1) (by omega) (by omega)
          exact lInl ⟨rfl, rfl, rfl, Wc22, F64, by (try dsimp only); omega, by (try dsimp only); omega⟩ (by (try dsimp only); omega)
      · exact ⟨rfl, rfl, rfl, Wc19, Zfr.rf, by (try dsimp only); omega, by (try dsimp only); omega⟩
      · (try dsimp only); omega
    obtain ⟨b, eb, hb⟩ := L53
    refine wb eb ?_
    clear eb
    obtain ⟨z0_65, z1_65, c_65⟩ := b
    try dsimp only at hb ⊢
    obtain ⟨rfl, rfl, WXc_65, FXc_65⟩ := hb
    have e66 := (Zfr.gi FXc_65 t_a0 (by decide)).trans e50
    have e67 := (Zfr.ai FXc_65 tv18 (by decide)).trans gc19
    have k68 := AcN_fr k51 FXc_65 t_a0 Wc19 (by decide)
    have F69 := Zfr.tr F52 FXc_65 (by decide)
    obtain ⟨w24, ew24⟩ := go_64 WXc_65 t_a0
    refine wb ew24 ?_
    obtain ⟨q23, eq23, Wq23, fq23⟩ := p_Mo_changed hn WXc_65  t_a0
    refine wb eq23 ?_
    have e70 := (Zfr.gi fq23 t_a0 (by decide)).trans e66
    have e71 := (Zfr.ai fq23 tv18 (by decide)).trans e67
    have k72 := AcN_fr k68 fq23 t_a0 WXc_65 (by decide)
    have F73 := Zfr.tr F69 fq23 (by decide)
    exact ⟨_, rfl, Wq23, F73, ⟨bnaxc_45, e70, by (try dsimp only); omega, by (try dsimp only); omega, k72⟩⟩

end ZzT
