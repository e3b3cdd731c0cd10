section ZzT
abbrev M_Mo_refuse : List (Nat × Nat) := [(64, 19), (64, 20)]
set_option maxRecDepth 100000 in
set_option maxHeartbeats 400000 in
theorem p_Mo_refuse {nf : Nat} (hn : 8589934592 ≤ nf) {G : List Nat} {c : Zc} (W : Zwt zty G c) {a0 : Nat} {a1 : Int32} {a2 : Int32} {fv : Int32} (t_a0 : G[a0]? = some 64) (pl_a1 : 1 ≤ a1.toInt) (pu_a1 : a1.toInt ≤ 6) (pl_fv : 0 ≤ fv.toInt) (pu_fv : fv.toInt ≤ 6) (eh_fv : zgi c a0 12 19 = some fv) : ∃ q, f_Mo_refuse nf a0 a1 a2 c = some q ∧ Zwt zty G q ∧ Zfr G M_Mo_refuse c q ∧ ZSf G q a0 fv := by
  have F0 : Zfr G M_Mo_refuse c c := Zfr.rf
  unfold f_Mo_refuse
  refine wb eh_fv ?_
  refine wi (fun hq1 => ?_) (fun hq1 => ?_)
  · have := li_0
    have hq1 := i_eq hq1
    obtain ⟨c3, ec3, Wc3, fc3, gc3⟩ := pf_64_19 W t_a0 (x := a1) (rgi (by omega) (by omega))
    refine wb ec3 ?_
    have F2 := Zfr.tr F0 fc3 (by decide)
    obtain ⟨c4, ec4, Wc4, fc4, gc4⟩ := pf_64_20 Wc3 t_a0 (x := a2) (trivial)
    refine wb ec4 ?_
    have e3 := (Zfr.gi fc4 t_a0 (by decide)).trans gc3
    have F4 := Zfr.tr F2 fc4 (by decide)
    unfold f_Mo_refuse_17
    exact ⟨_, rfl, Wc4, F4, ⟨a1, e3, by (try dsimp only); omega, by (try dsimp only); omega⟩⟩
  · have := li_0
    have hq1 := i_ne hq1
    unfold f_Mo_refuse_17
    exact ⟨_, rfl, W, F0, ⟨fv, eh_fv, by (try dsimp only); omega, by (try dsimp only); omega⟩⟩

abbrev M_Mo_kind : List (Nat × Nat) := [(64, 19), (64, 20)]
set_option maxRecDepth 100000 in
set_option maxHeartbeats 400000 in
theorem p_Mo_kind {nf : Nat} (hn : 8589934592 ≤ nf) {G : List Nat} {c : Zc} (W : Zwt zty G c) {a0 : Nat} {fv : Int32} {tv : Int32} (t_a0 : G[a0]? = some 64) (pl_fv : 0 ≤ fv.toInt) (pu_fv : fv.toInt ≤ 6) (pl_tv : 0 ≤ tv.toInt) (pu_tv : tv.toInt ≤ 200) (eh_fv : zgi c a0 12 19 = some fv) (eh_tv : zgi c a0 12 18 = some tv) : ∃ q, f_Mo_kind nf a0 c = some q ∧ Zwt zty G q.2 ∧ Zfr G M_Mo_kind c q.2 ∧ ZSc G q.2 a0 fv q.1 ∧ Zkd G q.2 a0 tv q.1 := by
  have F0 : Zfr G M_Mo_kind c c := Zfr.rf
  unfold f_Mo_kind
  obtain ⟨v1, ev1, tv1⟩ := gf_64_14 W t_a0
  refine wb ev1 ?_
  refine wb eh_tv ?_
  obtain ⟨v3, ev3, _⟩ := ga_74 W tv1 (i := tv) (by omega) (by omega)
  refine wb ev3 ?_
  refine wi (fun hq1 => ?_) (fun hq1 => ?_)
  · have := li_1
    have := i_ge v3
    have := i_up v3
    have hq1 := i_eq hq1
    obtain ⟨v8, ev8, tv8⟩ := gf_64_16 W t_a0
    refine wb ev8 ?_
    refine wb eh_tv ?_
    obtain ⟨v10, ev10, _⟩ := ga_76 W tv8 (i := tv) (by omega) (by omega)
    refine wb ev10 ?_
    obtain ⟨w12, ew12⟩ := go_64 W t_a0
    refine wb ew12 ?_
    obtain ⟨q11, eq11, Wq11, fq11, pbZSfq11⟩ := p_Mo_refuse hn W (a1 := 1) (a2 := v10) t_a0 (by omega) (by omega) (by omega) (by omega) eh_fv
    refine wb eq11 ?_
    have e3 := (Zfr.gi fq11 t_a0 (by decide)).trans eh_tv
    have e4 := (Zfr.gr fq11 t_a0 (by decide)).trans ev1
    have e5 := (Zfr.ai fq11 tv1 (by decide)).trans ev3
    have e6 := (Zfr.ai fq11 tv8 (by decide)).trans ev10
    have F7 := Zfr.tr F0 fq11 (by decide)
    obtain ⟨bf2q11, h0ZSfq11, r0ZSfq11, r1ZSfq11⟩ := pbZSfq11
    unfold f_Mo_kind_27
    refine wb e4 ?_
    refine wb e3 ?_
    refine wb e5 ?_
    exact ⟨_, rfl, Wq11, F7, ⟨bf2q11, h0ZSfq11, by (try dsimp only); omega, by (try dsimp only); omega, by (try dsimp only); omega, by (try dsimp only); omega⟩, ⟨v1, e4, e5, tv1⟩⟩
  · have := li_1
    have := i_ge v3
    have := i_up v3
    have hq1 := i_ne hq1
    unfold f_Mo_kind_27
    refine wb ev1 ?_
    refine wb eh_tv ?_
    refine wb ev3 ?_
    exact ⟨_, rfl, W, F0, ⟨fv, eh_fv, by (try dsimp only); omega, by (try dsimp only); omega, by (try dsimp only); omega, by (try dsimp only); omega⟩, ⟨v1, ev1, ev3, tv1⟩⟩

abbrev M_Mo_wrong : List (Nat × Nat) := [(64, 19), (64, 20)]
set_option maxRecDepth 100000 in
set_option maxHeartbeats 400000 in
theorem p_Mo_wrong {nf : Nat} (hn : 8589934592 ≤ nf) {G : List Nat} {c : Zc} (W : Zwt zty G c) {a0 : Nat} {fv : Int32} {tv : Int32} (t_a0 : G[a0]? = some 64) (pl_fv : 0 ≤ fv.toInt) (pu_fv : fv.toInt ≤ 6) (pl_tv : 0 ≤ tv.toInt) (pu_tv : tv.toInt ≤ 200) (eh_fv : zgi c a0 12 19 = some fv) (eh_tv : zgi c a0 12 18 = some tv) : ∃ q, f_Mo_wrong nf a0 c = some q ∧ Zwt zty G q ∧ Zfr G M_Mo_wrong c q ∧ ZSf G q a0 fv := by
  have F0 : Zfr G M_Mo_wrong c c := Zfr.rf
  unfold f_Mo_wrong
  obtain ⟨w2, ew2⟩ := go_64 W t_a0
  refine wb ew2 ?_
  obtain ⟨q1, eq1, Wq1, fq1, pbZScq1, pbZkdq1⟩ := p_Mo_kind hn W  t_a0 (by omega) (by omega) (by omega) (by omega) eh_fv eh_tv
  refine wb eq1 ?_
  have e3 := (Zfr.gi fq1 t_a0 (by decide)).trans eh_tv
  have F4 := Zfr.tr F0 fq1 (by decide)
  obtain ⟨bf2q1, h0ZScq1, r0ZScq1, r1ZScq1, r2ZScq1, r3ZScq1⟩ := pbZScq1
  obtain ⟨bkkq1, h0Zkdq1, h1Zkdq1, tkkq1⟩ := pbZkdq1
  obtain ⟨v3, ev3, tv3⟩ := gf_64_16 Wq1 t_a0
  refine wb ev3 ?_
  refine wb e3 ?_
  obtain ⟨v5, ev5, _⟩ := ga_76 Wq1 tv3 (i := tv) (by omega) (by omega)
  refine wb ev5 ?_
  obtain ⟨w7, ew7⟩ := go_64 Wq1 t_a0
  refine wb ew7 ?_
  have := li_2
  obtain ⟨q6, eq6, Wq6, fq6, pbZSfq6⟩ := p_Mo_refuse hn Wq1 (a1 := 2) (a2 := v5) t_a0 (by omega) (by omega) (by omega) (by omega) h0ZScq1
  refine wb eq6 ?_
  have F6 := Zfr.tr F4 fq6 (by decide)
  obtain ⟨bf2q6, h0ZSfq6, r0ZSfq6, r1ZSfq6⟩ := pbZSfq6
  exact ⟨_, rfl, Wq6, F6, ⟨bf2q6, h0ZSfq6, by (try dsimp only); omega, by (try dsimp only); omega⟩⟩

abbrev M_Mo_stands : List (Nat × Nat) := [(64, 19), (64, 20)]
set_option maxRecDepth 100000 in
set_option maxHeartbeats 400000 in
theorem p_Mo_stands {nf : Nat} (hn : 8589934592 ≤ nf) {G : List Nat} {c : Zc} (W : Zwt zty G c) {a0 : Nat} {fv : Int32} {tv : Int32} (t_a0 : G[a0]? = some 64) (pl_fv : 0 ≤ fv.toInt) (pu_fv : fv.toInt ≤ 6) (pl_tv : 0 ≤ tv.toInt) (pu_tv : tv.toInt ≤ 200) (eh_fv : zgi c a0 12 19 = some fv) (eh_tv : zgi c a0 12 18 = some tv) : ∃ q, f_Mo_stands nf a0 c = some q ∧ Zwt zty G q ∧ Zfr G M_Mo_stands c q ∧ ZSt G q a0 fv tv := by
  have F0 : Zfr G M_Mo_stands c c := Zfr.rf
  unfold f_Mo_stands
  refine wb eh_tv ?_
  refine wi (fun hq1 => ?_) (fun hq1 => ?_)
  · have := li_200
    have hq1 := i_lt hq1
    unfold f_Mo_stands_24
    exact ⟨_, rfl, W, F0, ⟨fv, eh_fv, by (try dsimp only); omega, by (try dsimp only); omega, by (try dsimp only); omega⟩⟩
  · have := li_200
    have hq1 := i_nlt hq1
    obtain ⟨v3, ev3, tv3⟩ := gf_64_16 W t_a0
    refine wb ev3 ?_
    refine wb eh_tv ?_
    obtain ⟨v5, ev5, _⟩ := ga_76 W tv3 (i := tv) (by omega) (by omega)
    refine wb ev5 ?_
    obtain ⟨w7, ew7⟩ := go_64 W t_a0
    refine wb ew7 ?_
    have := li_3
    obtain ⟨q6, eq6, Wq6, fq6, pbZSfq6⟩ := p_Mo_refuse hn W (a1 := 3) (a2 := v5) t_a0 (by omega) (by omega) (by omega) (by omega) eh_fv
    refine wb eq6 ?_
    have F4 := Zfr.tr F0 fq6 (by decide)
    obtain ⟨bf2q6, h0ZSfq6, r0ZSfq6, r1ZSfq6⟩ := pbZSfq6
    unfold f_Mo_stands_24
    exact ⟨_, rfl, Wq6, F4, ⟨bf2q6, h0ZSfq6, by (try dsimp only); omega, by (try dsimp only); omega, by (try dsimp only); omega⟩⟩

abbrev M_Mo_pass : List (Nat × Nat) := [(64, 18), (64, 19), (64, 20)]
set_option maxRecDepth 100000 in
set_option maxHeartbeats 400000 in
theorem p_Mo_pass {nf : Nat} (hn : 8589934592 ≤ nf) {G : List Nat} {c : Zc} (W : Zwt zty G c) {a0 : Nat} {fv : Int32} {tv : Int32} (t_a0 : G[a0]? = some 64) (pl_fv : 0 ≤ fv.toInt) (pu_fv : fv.toInt ≤ 6) (pl_tv : 0 ≤ tv.toInt) (pu_tv : tv.toInt ≤ 200) (eh_fv : zgi c a0 12 19 = some fv) (eh_tv : zgi c a0 12 18 = some tv) : ∃ q, f_Mo_pass nf a0 c = some q ∧ Zwt zty G q ∧ Zfr G M_Mo_pass c q ∧ ZS G q a0 fv tv 1 := by
  have F0 : Zfr G M_Mo_pass c c := Zfr.rf
  unfold f_Mo_pass
  obtain ⟨w2, ew2⟩ := go_64 W t_a0
  refine wb ew2 ?_
  obtain ⟨q1, eq1, Wq1, fq1, pbZStq1⟩ := p_Mo_stands hn W  t_a0 (by omega) (by omega) (by omega) (by omega) eh_fv eh_tv
  refine wb eq1 ?_
  have e3 := (Zfr.gi fq1 t_a0 (by decide)).trans eh_tv
  have F4 := Zfr.tr F0 fq1 (by decide)
  obtain ⟨bf2q1, h0ZStq1, r0ZStq1, r1ZStq1, r2ZStq1⟩ := pbZStq1
  refine wb h0ZStq1 ?_
  refine wi (fun hq5 => ?_) (fun hq5 => ?_)
  · have := li_0
    have hq5 := i_eq hq5
    refine wb e3 ?_
    have := li_1
    have := i_add (a := tv) (b := 1) (by omega) (by omega)
    obtain ⟨c6, ec6, Wc6, fc6, gc6⟩ := pf_64_18 Wq1 t_a0 (x := (tv + 1)) (rgi (by omega) (by omega))
    refine wb ec6 ?_
    have e6 := (Zfr.gi fc6 t_a0 (by decide)).trans h0ZStq1
    have F7 := Zfr.tr F4 fc6 (by decide)
    unfold f_Mo_pass_21
    exact ⟨_, rfl, Wc6, F7, ⟨bf2q1, (tv + 1), e6, gc6, by (try dsimp only); omega, by (try dsimp only); omega, by (try dsimp only); omega, by (try dsimp only); omega, by (try dsimp only); omega, by (try dsimp only); omega⟩⟩
  · have := li_0
    have hq5 := i_ne hq5
    unfold f_Mo_pass_21
    have := li_1
    exact ⟨_, rfl, Wq1, F4, ⟨bf2q1, tv, h0ZStq1, e3, by (try dsimp only); omega, by (try dsimp only); omega, by (try dsimp only); omega, by (try dsimp only); omega, by (try dsimp only); omega, by (try dsimp only); omega⟩⟩

abbrev M_Mo_takes : List (Nat × Nat) := [(64, 18), (64, 19), (64, 20)]
set_option maxRecDepth 100000 in
set_option maxHeartbeats 400000 in
theorem p_Mo_takes {nf : Nat} (hn : 8589934592 ≤ nf) {G : List Nat} {c : Zc} (W : Zwt zty G c) {a0 : Nat} {a1 : Int32} {fv : Int32} {tv : Int32} (t_a0 : G[a0]? = some 64) (pl_fv : 0 ≤ fv.toInt) (pu_fv : fv.toInt ≤ 6) (pl_tv : 0 ≤ tv.toInt) (pu_tv : tv.toInt ≤ 200) (eh_fv : zgi c a0 12 19 = some fv) (eh_tv : zgi c a0 12 18 = some tv) : ∃ q, f_Mo_takes nf a0 a1 c = some q ∧ Zwt zty G q.2 ∧ Zfr G M_Mo_takes c q.2 ∧ 0 ≤ q.1.toInt ∧ q.1.toInt ≤ 1 ∧ ZSk G q.2 a0 fv tv q.1 := by
  have F0 : Zfr G M_Mo_takes c c := Zfr.rf
  unfold f_Mo_takes
  refine wb eh_fv ?_
  refine wi (fun hq1 => ?_) (fun hq1 => ?_)
  · have := li_0
    have hq1 := i_eq hq1
    obtain ⟨w4, ew4⟩ := go_64 W t_a0
    refine wb ew4 ?_
    obtain ⟨q3, eq3, Wq3, fq3, pbZScq3, pbZkdq3⟩ := p_Mo_kind hn W  t_a0 (by omega) (by omega) (by omega) (by omega) eh_fv eh_tv
    refine wb eq3 ?_
    have e4 := (Zfr.gi fq3 t_a0 (by decide)).trans eh_tv
    have F5 := Zfr.tr F0 fq3 (by decide)
    obtain ⟨bf2q3, h0ZScq3, r0ZScq3, r1ZScq3, r2ZScq3, r3ZScq3⟩ := pbZScq3
    obtain ⟨bkkq3, h0Zkdq3, h1Zkdq3, tkkq3⟩ := pbZkdq3
    refine wi (fun hq6 => ?_) (fun hq6 => ?_)
    · have := i_ge q3.1
      have := i_up q3.1
      have := i_ge a1
      have := i_up a1
      have hq6 := i_eq hq6
      obtain ⟨w7, ew7⟩ := go_64 Wq3 t_a0
      refine wb ew7 ?_
      obtain ⟨q6, eq6, Wq6, fq6, pbZSq6⟩ := p_Mo_pass hn Wq3  t_a0 (by omega) (by omega) (by omega) (by omega) h0ZScq3 e4
      refine wb eq6 ?_
      have F9 := Zfr.tr F5 fq6 (by decide)
      have := li_1
      obtain ⟨bf2q6, bt2q6, h0ZSq6, h1ZSq6, r0ZSq6, r1ZSq6, r2ZSq6, r3ZSq6, r4ZSq6, r5ZSq6⟩ := pbZSq6
      refine wb h0ZSq6 ?_
      refine wi (fun hq10 => ?_) (fun hq10 => ?_)
      · have hq10 := i_eq hq10
        unfold f_Mo_takes_33
        exact wz (rgi (by omega) (by omega)) ⟨Wq6, F9, by (try dsimp only); omega, by (try dsimp only); omega, ⟨bf2q6, bt2q6, h0ZSq6, h1ZSq6, by (try dsimp only); omega, by (try dsimp only); omega, by (try dsimp only); omega, by (try dsimp only); omega, by (try dsimp only); omega, by (try dsimp only); omega, by (try dsimp only); omega⟩⟩
      · have hq10 := i_ne hq10
        unfold f_Mo_takes_33
        exact wz (rgi (by omega) (by omega)) ⟨Wq6, F9, by (try dsimp only); omega, by (try dsimp only); omega, ⟨bf2q6, bt2q6, h0ZSq6, h1ZSq6, by (try dsimp only); omega, by (try dsimp only); omega, by (try dsimp only); omega, by (try dsimp only); omega, by (try dsimp only); omega, by (try dsimp only); omega, by (try dsimp only); omega⟩⟩
    · have := i_ge q3.1
      have := i_up q3.1
      have := i_ge a1
      have := i_up a1
      have hq6 := i_ne hq6
      unfold f_Mo_takes_15
      exact wz (rgi (by omega) (by omega)) ⟨Wq3, F5, by (try dsimp only); omega, by (try dsimp only); omega, ⟨bf2q3, tv, h0ZScq3, e4, by (try dsimp only); omega, by (try dsimp only); omega, by (try dsimp only); omega, by (try dsimp only); omega, by (try dsimp only); omega, by (try dsimp only); omega, by (try dsimp only); omega⟩⟩
  · have := li_0
    have hq1 := i_ne hq1
    unfold f_Mo_takes_15
    exact wz (rgi (by omega) (by omega)) ⟨W, F0, by (try dsimp only); omega, by (try dsimp only); omega, ⟨fv, tv, eh_fv, eh_tv, by (try dsimp only); omega, by (try dsimp only); omega, by (try dsimp only); omega, by (try dsimp only); omega, by (try dsimp only); omega, by (try dsimp only); omega, by (try dsimp only); omega⟩⟩

abbrev M_Mo_need : List (Nat × Nat) := [(64, 18), (64, 19), (64, 20)]
set_option maxRecDepth 100000 in
set_option maxHeartbeats 400000 in
theorem p_Mo_need {nf : Nat} (hn : 8589934592 ≤ nf) {G : List Nat} {c : Zc} (W : Zwt zty G c) {a0 : Nat} {a1 : Int32} {fv : Int32} {tv : Int32} (t_a0 : G[a0]? = some 64) (pl_fv : 0 ≤ fv.toInt) (pu_fv : fv.toInt ≤ 6) (pl_tv : 0 ≤ tv.toInt) (pu_tv : tv.toInt ≤ 200) (eh_fv : zgi c a0 12 19 = some fv) (eh_tv : zgi c a0 12 18 = some tv) : ∃ q, f_Mo_need nf a0 a1 c = some q ∧ Zwt zty G q ∧ Zfr G M_Mo_need c q ∧ ZS G q a0 fv tv 1 := by
  have F0 : Zfr G M_Mo_need c c := Zfr.rf
  unfold f_Mo_need
  refine wb eh_fv ?_
  refine wi (fun hq1 => ?_) (fun hq1 => ?_)
  · have := li_0
    have hq1 := i_eq hq1
    obtain ⟨w4, ew4⟩ := go_64 W t_a0
    refine wb ew4 ?_
    obtain ⟨q3, eq3, Wq3, fq3, pl0q3, pu0q3, pbZSkq3⟩ := p_Mo_takes hn W (a1 := a1) t_a0 (by omega) (by omega) (by omega) (by omega) eh_fv eh_tv
    refine wb eq3 ?_
    have F4 := Zfr.tr F0 fq3 (by decide)
    obtain ⟨bf2q3, bt2q3, h0ZSkq3, h1ZSkq3, r0ZSkq3, r1ZSkq3, r2ZSkq3, r3ZSkq3, r4ZSkq3, r5ZSkq3, r6ZSkq3⟩ := pbZSkq3
    refine wi (fun hq5 => ?_) (fun hq5 => ?_)
    · have hq5 := i_eq hq5
      obtain ⟨w7, ew7⟩ := go_64 Wq3 t_a0
      refine wb ew7 ?_
      obtain ⟨q6, eq6, Wq6, fq6, pbZSfq6⟩ := p_Mo_wrong hn Wq3  t_a0 (by omega) (by omega) (by omega) (by omega) h0ZSkq3 h1ZSkq3
      refine wb eq6 ?_
      have e8 := (Zfr.gi fq6 t_a0 (by decide)).trans h1ZSkq3
      have F9 := Zfr.tr F4 fq6 (by decide)
      obtain ⟨bf2q6, h0ZSfq6, r0ZSfq6, r1ZSfq6⟩ := pbZSfq6
      unfold f_Mo_need_19
      have := li_1
      exact ⟨_, rfl, Wq6, F9, ⟨bf2q6, bt2q3, h0ZSfq6, e8, by (try dsimp only); omega, by (try dsimp only); omega, by (try dsimp only); omega, by (try dsimp only); omega, by (try dsimp only); omega, by (try dsimp only); omega⟩⟩
    · have hq5 := i_ne hq5
      unfold f_Mo_need_19
      have := li_1
      exact ⟨_, rfl, Wq3, F4, ⟨bf2q3, bt2q3, h0ZSkq3, h1ZSkq3, by (try dsimp only); omega, by (try dsimp only); omega, by (try dsimp only); omega, by (try dsimp only); omega, by (try dsimp only); omega, by (try dsimp only); omega⟩⟩
  · have := li_0
    have hq1 := i_ne hq1
    unfold f_Mo_need_19
    have := li_1
    exact ⟨_, rfl, W, F0, ⟨fv, tv, eh_fv, eh_tv, by (try dsimp only); omega, by (try dsimp only); omega, by (try dsimp only); omega, by (try dsimp only); omega, by (try dsimp only); omega, by (try dsimp only); omega⟩⟩

abbrev M_Mo_within : List (Nat × Nat) := [(64, 19), (64, 20), (64, 53)]
set_option maxRecDepth 100000 in
set_option maxHeartbeats 400000 in
theorem p_Mo_within {nf : Nat} (hn : 8589934592 ≤ nf) {G : List Nat} {c : Zc} (W : Zwt zty G c) {a0 : Nat} {fv : Int32} {tv : Int32} {dv : Int32} (t_a0 : G[a0]? = some 64) (pl_fv : 0 ≤ fv.toInt) (pu_fv : fv.toInt ≤ 6) (pl_tv : 0 ≤ tv.toInt) (pu_tv : tv.toInt ≤ 200) (pl_dv : 0 ≤ dv.toInt) (pu_dv : dv.toInt ≤ 10) (eh_fv : zgi c a0 12 19 = some fv) (eh_tv : zgi c a0 12 18 = some tv) (eh_dv : zgi c a0 12 53 = some dv) : ∃ q, f_Mo_within nf a0 c = some q ∧ Zwt zty G q ∧ Zfr G M_Mo_within c q ∧ ZSw G q a0 fv dv := by
  have F0 : Zfr G M_Mo_within c c := Zfr.rf
  unfold f_Mo_within
  refine wb eh_dv ?_
  have := li_1
  have := i_add (a := dv) (b := 1) (by omega) (by omega)
  obtain ⟨c2, ec2, Wc2, fc2, gc2⟩ := pf_64_53 W t_a0 (x := (dv + 1)) (rgi (by omega) (by omega))
  refine wb ec2 ?_
  have e1 := (Zfr.gi fc2 t_a0 (by decide)).trans eh_fv
  have e2 := (Zfr.gi fc2 t_a0 (by decide)).trans eh_tv
  have F3 := Zfr.tr F0 fc2 (by decide)
  refine wb e1 ?_
  refine wi (fun hq4 => ?_) (fun hq4 => ?_)
  · have := li_0
    have hq4 := i_eq hq4
    refine wb gc2 ?_
    refine wi (fun hq5 => ?_) (fun hq5 => ?_)
    · have := li_10
      have hq5 := i_le hq5
      unfold f_Mo_within_45
      exact ⟨_, rfl, Wc2, F3, ⟨fv, (dv + 1), e1, gc2, by (try dsimp only); omega, by (try dsimp only); omega, by (try dsimp only); omega, by (try dsimp only); omega, by (try dsimp only); omega, by (try dsimp only); omega⟩⟩
    · have := li_10
      have hq5 := i_nle hq5
      obtain ⟨w8, ew8⟩ := go_64 Wc2 t_a0
      refine wb ew8 ?_
      obtain ⟨q7, eq7, Wq7, fq7, pbZScq7, pbZkdq7⟩ := p_Mo_kind hn Wc2  t_a0 (by omega) (by omega) (by omega) (by omega) e1 e2
      refine wb eq7 ?_
      have e10 := (Zfr.gi fq7 t_a0 (by decide)).trans e2
      have e11 := (Zfr.gi fq7 t_a0 (by decide)).trans gc2
      have F12 := Zfr.tr F3 fq7 (by decide)
      obtain ⟨bf2q7, h0ZScq7, r0ZScq7, r1ZScq7, r2ZScq7, r3ZScq7⟩ := pbZScq7
      obtain ⟨bkkq7, h0Zkdq7, h1Zkdq7, tkkq7⟩ := pbZkdq7
      obtain ⟨v9, ev9, tv9⟩ := gf_64_16 Wq7 t_a0
      refine wb ev9 ?_
      refine wb e10 ?_
      obtain ⟨v11, ev11, _⟩ := ga_76 Wq7 tv9 (i := tv) (by omega) (by omega)
      refine wb ev11 ?_
      obtain ⟨w13, ew13⟩ := go_64 Wq7 t_a0
      refine wb ew13 ?_
      have := li_3
      obtain ⟨q12, eq12, Wq12, fq12, pbZSfq12⟩ := p_Mo_refuse hn Wq7 (a1 := 3) (a2 := v11) t_a0 (by omega) (by omega) (by omega) (by omega) h0ZScq7
      refine wb eq12 ?_
      have e14 := (Zfr.gi fq12 t_a0 (by decide)).trans e11
      have F15 := Zfr.tr F12 fq12 (by decide)
      obtain ⟨bf2q12, h0ZSfq12, r0ZSfq12, r1ZSfq12⟩ := pbZSfq12
      unfold f_Mo_within_45
      exact ⟨_, rfl, Wq12, F15, ⟨bf2q12, (dv + 1), h0ZSfq12, e14, by (try dsimp only); omega, by (try dsimp only); omega, by (try dsimp only); omega, by (try dsimp only); omega, by (try dsimp only); omega, by (try dsimp only); omega⟩⟩
  · have := li_0
    have hq4 := i_ne hq4
    unfold f_Mo_within_45
    exact ⟨_, rfl, Wc2, F3, ⟨fv, (dv + 1), e1, gc2, by (try dsimp only); omega, by (try dsimp only); omega, by (try dsimp only); omega, by (try dsimp only); omega, by (try dsimp only); omega, by (try dsimp only); omega⟩⟩

abbrev M_Mo_meaning : List (Nat × Nat) := []
set_option maxRecDepth 100000 in
set_option maxHeartbeats 400000 in
theorem p_Mo_meaning {nf : Nat} (hn : 8589934592 ≤ nf) {G : List Nat} {c : Zc} (W : Zwt zty G c) {a0 : Nat} {a1 : Int32}  (t_a0 : G[a0]? = some 64) (pl_a1 : 0 ≤ a1.toInt) (pu_a1 : a1.toInt ≤ 65) : ∃ q, f_Mo_meaning nf a0 a1 c = some q ∧ Zwt zty G q.2 ∧ Zfr G M_Mo_meaning c q.2 ∧ (q.1.toInt = -1 ∨ (0 ≤ q.1.toInt ∧ q.1.toInt ≤ 7) ∨ (100 ≤ q.1.toInt ∧ q.1.toInt ≤ 107)) ∧ (-1) ≤ q.1.toInt ∧ q.1.toInt ≤ 107 := by
  have F0 : Zfr G M_Mo_meaning c c := Zfr.rf
  unfold f_Mo_meaning
  have J1 : ∃ q, f_Mo_meaning_26 nf a0 a1 c = some q ∧ Zwt zty G q.2 ∧ Zfr G M_Mo_meaning c q.2 ∧ (q.1.toInt = -1 ∨ (0 ≤ q.1.toInt ∧ q.1.toInt ≤ 7) ∨ (100 ≤ q.1.toInt ∧ q.1.toInt ≤ 107)) ∧ (-1) ≤ q.1.toInt ∧ q.1.toInt ≤ 107 := by
    unfold f_Mo_meaning_26
    obtain ⟨v3, ev3, tv3⟩ := gf_64_54 W t_a0
    refine wb ev3 ?_
    obtain ⟨v4, ev4, pv4⟩ := ga_105 W tv3 (i := a1) (by omega) (by omega)
    have pv4 : v4.toInt = -1 ∨ (0 ≤ v4.toInt ∧ v4.toInt ≤ 7) ∨ (100 ≤ v4.toInt ∧ v4.toInt ≤ 107) := pv4
    refine wb ev4 ?_
    unfold f_Mo_meaning_32
    exact ⟨_, rfl, W, F0, by (try dsimp only); omega, by (try dsimp only); omega, by (try dsimp only); omega⟩
  obtain ⟨v1, ev1, lv1, uv1⟩ := gf_64_56 W t_a0
  refine wb ev1 ?_
  refine wi (fun hq2 => ?_) (fun hq2 => ?_)
  · have := li_0
    have hq2 := i_le hq2
    exact J1
  · have := li_0
    have hq2 := i_nle hq2
    obtain ⟨v5, ev5, tv5⟩ := gf_64_55 W t_a0
    refine wb ev5 ?_
    obtain ⟨v6, ev6, pv6⟩ := ga_106 W tv5 (i := a1) (by omega) (by omega)
    have pv6 : v6.toInt = -1 ∨ (0 ≤ v6.toInt ∧ v6.toInt ≤ 7) ∨ (100 ≤ v6.toInt ∧ v6.toInt ≤ 107) := pv6
    refine wb ev6 ?_
    refine wi (fun hq3 => ?_) (fun hq3 => ?_)
    · have := li_m1
      have hq3 := i_eq hq3
      exact J1
    · have := li_m1
      have hq3 := i_ne hq3
      refine wb ev5 ?_
      refine wb ev6 ?_
      unfold f_Mo_meaning_32
      exact ⟨_, rfl, W, F0, by (try dsimp only); omega, by (try dsimp only); omega, by (try dsimp only); omega⟩

abbrev M_Mo_learn : List (Nat × Nat) := [(105, 0), (106, 0)]
set_option maxRecDepth 100000 in
set_option maxHeartbeats 400000 in
theorem p_Mo_learn {nf : Nat} (hn : 8589934592 ≤ nf) {G : List Nat} {c : Zc} (W : Zwt zty G c) {a0 : Nat} {a1 : Int32} {a2 : Int32}  (t_a0 : G[a0]? = some 64) (pl_a1 : 0 ≤ a1.toInt) (pu_a1 : a1.toInt ≤ 65) (pl_a2 : 0 ≤ a2.toInt) (pu_a2 : a2.toInt ≤ 107) (pp_2 : (a2.toInt ≤ 7 ∨ 100 ≤ a2.toInt)) : ∃ q, f_Mo_learn nf a0 a1 a2 c = some q ∧ Zwt zty G q ∧ Zfr G M_Mo_learn c q := by
  have F0 : Zfr G M_Mo_learn c c := Zfr.rf
  unfold f_Mo_learn
  obtain ⟨v1, ev1, lv1, uv1⟩ := gf_64_56 W t_a0
  refine wb ev1 ?_
  refine wi (fun hq1 => ?_) (fun hq1 => ?_)
  · have := li_0
    have hq1 := i_le hq1
    obtain ⟨v3, ev3, tv3⟩ := gf_64_54 W t_a0
    refine wb ev3 ?_
    obtain ⟨c4, ec4, Wc4, fc4, gc4⟩ := pa_105 W tv3 (i := a1) (by omega) (by omega) (x := a2) (kni (by omega))
    refine wb ec4 ?_
    have F2 := Zfr.tr F0 fc4 (by decide)
    unfold f_Mo_learn_24
    exact ⟨_, rfl, Wc4, F2⟩
  · have := li_0
    have hq1 := i_nle hq1
    obtain ⟨v5, ev5, tv5⟩ := gf_64_55 W t_a0
    refine wb ev5 ?_
    obtain ⟨c6, ec6, Wc6, fc6, gc6⟩ := pa_106 W tv5 (i := a1) (by omega) (by omega) (x := a2) (kni (by omega))
    refine wb ec6 ?_
    have F3 := Zfr.tr F0 fc6 (by decide)
    unfold f_Mo_learn_24
    exact ⟨_, rfl, Wc6, F3⟩

abbrev M_Mo_oneMore : List (Nat × Nat) := [(64, 19), (64, 20), (64, 57)]
set_option maxRecDepth 100000 in
set_option maxHeartbeats 400000 in
theorem p_Mo_oneMore {nf : Nat} (hn : 8589934592 ≤ nf) {G : List Nat} {c : Zc} (W : Zwt zty G c) {a0 : Nat} {a1 : Int32} {fv : Int32} {vn : Int32} (t_a0 : G[a0]? = some 64) (pl_fv : 0 ≤ fv.toInt) (pu_fv : fv.toInt ≤ 6) (pl_vn : 0 ≤ vn.toInt) (pu_vn : vn.toInt ≤ 8) (eh_fv : zgi c a0 12 19 = some fv) (eh_vn : zgi c a0 12 57 = some vn) : ∃ q, f_Mo_oneMore nf a0 a1 c = some q ∧ Zwt zty G q.2 ∧ Zfr G M_Mo_oneMore c q.2 ∧ 0 ≤ q.1.toInt ∧ q.1.toInt ≤ 1 ∧ Zom G q.2 a0 fv vn q.1 := by
  have F0 : Zfr G M_Mo_oneMore c c := Zfr.rf
  unfold f_Mo_oneMore
  refine wb eh_vn ?_
  refine wi (fun hq1 => ?_) (fun hq1 => ?_)
  · have := li_8
    have hq1 := i_eq hq1
    obtain ⟨w8, ew8⟩ := go_64 W t_a0
    refine wb ew8 ?_
    have := li_3
    obtain ⟨q7, eq7, Wq7, fq7, pbZSfq7⟩ := p_Mo_refuse hn W (a1 := 3) (a2 := a1) t_a0 (by omega) (by omega) (by omega) (by omega) eh_fv
    refine wb eq7 ?_
    have e3 := (Zfr.gi fq7 t_a0 (by decide)).trans eh_vn
    have F4 := Zfr.tr F0 fq7 (by decide)
    obtain ⟨bf2q7, h0ZSfq7, r0ZSfq7, r1ZSfq7⟩ := pbZSfq7
    unfold f_Mo_oneMore_15
    refine wb e3 ?_
    have := li_1
    have := i_add (a := vn) (b := 1) (by omega) (by omega)
    obtain ⟨c4, ec4, Wc4, fc4, gc4⟩ := pf_64_57 Wq7 t_a0 (x := (vn + 1)) (rgi (by omega) (by omega))
    refine wb ec4 ?_
    have e5 := (Zfr.gi fc4 t_a0 (by decide)).trans h0ZSfq7
    have F6 := Zfr.tr F4 fc4 (by decide)
    refine wb e5 ?_
    refine wi (fun hq7 => ?_) (fun hq7 => ?_)
    · have := li_0
      have hq7 := i_eq hq7
      exfalso
      omega
    · have := li_0
      have hq7 := i_ne hq7
      unfold f_Mo_oneMore_37
      exact wz (rgi (by omega) (by omega)) ⟨Wc4, F6, by (try dsimp only); omega, by (try dsimp only); omega, ⟨bf2q7, (vn + 1), e5, gc4, by (try dsimp only); omega, by (try dsimp only); omega, by (try dsimp only); omega, by (try dsimp only); omega, by (try dsimp only); omega, by (try dsimp only); omega, by (try dsimp only); omega⟩⟩
  · have := li_8
    have hq1 := i_ne hq1
    unfold f_Mo_oneMore_15
    refine wb eh_vn ?_
    have := li_1
    have := i_add (a := vn) (b := 1) (by omega) (by omega)
    obtain ⟨c4, ec4, Wc4, fc4, gc4⟩ := pf_64_57 W t_a0 (x := (vn + 1)) (rgi (by omega) (by omega))
    refine wb ec4 ?_
    have e10 := (Zfr.gi fc4 t_a0 (by decide)).trans eh_fv
    have F11 := Zfr.tr F0 fc4 (by decide)
    refine wb e10 ?_
    refine wi (fun hq12 => ?_) (fun hq12 => ?_)
    · have := li_0
      have hq12 := i_eq hq12
      unfold f_Mo_oneMore_37
      exact wz (rgi (by omega) (by omega)) ⟨Wc4, F11, by (try dsimp only); omega, by (try dsimp only); omega, ⟨fv, (vn + 1), e10, gc4, by (try dsimp only); omega, by (try dsimp only); omega, by (try dsimp only); omega, by (try dsimp only); omega, by (try dsimp only); omega, by (try dsimp only); omega, by (try dsimp only); omega⟩⟩
    · have := li_0
      have hq12 := i_ne hq12
      unfold f_Mo_oneMore_37
      exact wz (rgi (by omega) (by omega)) ⟨Wc4, F11, by (try dsimp only); omega, by (try dsimp only); omega, ⟨fv, (vn + 1), e10, gc4, by (try dsimp only); omega, by (try dsimp only); omega, by (try dsimp only); omega, by (try dsimp only); omega, by (try dsimp only); omega, by (try dsimp only); omega, by (try dsimp only); omega⟩⟩

abbrev M_Mo_newSlot : List (Nat × Nat) := [(79, 0), (82, 0)]
set_option maxRecDepth 100000 in
set_option maxHeartbeats 400000 in
theorem p_Mo_newSlot {nf : Nat} (hn : 8589934592 ≤ nf) {G : List Nat} {c : Zc} (W : Zwt zty G c) {a0 : Nat} {pv : Int32} {ks : Nat} {na : Int32} (t_a0 : G[a0]? = some 64) (pl_pv : 0 ≤ pv.toInt) (pu_pv : pv.toInt ≤ 8) (pl_na : 0 ≤ na.toInt) (pu_na : na.toInt ≤ 7) (eh_pv : zgi c a0 12 25 = some pv) (eh_ks : zgr c a0 12 26 = some ks) (eh_na : zai c ks 0 pv = some na) : ∃ q, f_Mo_newSlot nf a0 c = some q ∧ Zwt zty G q.2 ∧ Zfr G M_Mo_newSlot c q.2 ∧ 0 ≤ q.1.toInt ∧ q.1.toInt ≤ 7 ∧ Zns G q.2 a0 pv na := by
  have F0 : Zfr G M_Mo_newSlot c c := Zfr.rf
  unfold f_Mo_newSlot
  obtain ⟨xq, xe, tqw_1⟩ := gf_64_26 W t_a0
  rw [eh_ks] at xe; cases xe
  refine wb eh_ks ?_
  refine wb eh_pv ?_
  refine wb eh_na ?_
  obtain ⟨v4, ev4, tv4⟩ := gf_64_29 W t_a0
  refine wb ev4 ?_
  refine wb eh_pv ?_
  obtain ⟨v6, ev6, lv6, uv6⟩ := gf_64_56 W t_a0
  refine wb ev6 ?_
  have := li_8
  have := i_mull (a := 8) (b := pv) (n := 8) li_8 (by omega) (by omega)
  have := i_add (a := (8 * pv)) (b := na) (by omega) (by omega)
  obtain ⟨c7, ec7, Wc7, fc7, gc7⟩ := pa_82 W tv4 (i := ((8 * pv) + na)) (by omega) (by omega) (x := v6) (trivial)
  refine wb ec7 ?_
  have e2 := (Zfr.gi fc7 t_a0 (by decide)).trans eh_pv
  have e3 := (Zfr.gr fc7 t_a0 (by decide)).trans eh_ks
  have e4 := (Zfr.ai fc7 tqw_1 (by decide)).trans eh_na
  have F5 := Zfr.tr F0 fc7 (by decide)
  refine wb e3 ?_
  refine wb e2 ?_
  refine wb e4 ?_
  have := li_1
  have := i_add (a := na) (b := 1) (by omega) (by omega)
  obtain ⟨c11, ec11, Wc11, fc11, gc11⟩ := pa_79 Wc7 tqw_1 (i := pv) (by omega) (by omega) (x := (na + 1)) (rgi (by omega) (by omega))
  refine wb ec11 ?_
  have e6 := (Zfr.gi fc11 t_a0 (by decide)).trans e2
  have e7 := (Zfr.gr fc11 t_a0 (by decide)).trans e3
  have e8 := (Zfr.ai fc11 tv4 (by decide)).trans gc7
  have F9 := Zfr.tr F5 fc11 (by decide)
  exact ⟨_, rfl, Wc11, F9, by (try dsimp only); omega, by (try dsimp only); omega, ⟨ks, (na + 1), e6, e7, gc11, tqw_1, by (try dsimp only); omega⟩⟩

end ZzT
