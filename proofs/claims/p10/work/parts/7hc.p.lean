section ZzT
abbrev M_Mo_open : List (Nat × Nat) := [(64, 65), (107, 0), (108, 0), (109, 0), (110, 0), (111, 0), (112, 0), (113, 0)]
set_option maxRecDepth 100000 in
set_option maxHeartbeats 400000 in
theorem p_Mo_open {nf : Nat} (hn : 8589934592 ≤ nf) {G : List Nat} {c : Zc} (W : Zwt zty G c) {a0 : Nat} {op : Int32} (t_a0 : G[a0]? = some 64) (pl_op : 0 ≤ op.toInt) (pu_op : op.toInt ≤ 11) (eh_op : zgi c a0 12 65 = some op) : ∃ q, f_Mo_open nf a0 c = some q ∧ Zwt zty G q ∧ Zfr G M_Mo_open c q ∧ Zop G q a0 op := by
  have F0 : Zfr G M_Mo_open c c := Zfr.rf
  unfold f_Mo_open
  obtain ⟨v1, ev1, tv1⟩ := gf_64_58 W t_a0
  refine wb ev1 ?_
  refine wb eh_op ?_
  have := nb_0
  obtain ⟨c3, ec3, Wc3, fc3, gc3⟩ := pa_107 W tv1 (i := op) (by omega) (by omega) (x := (vp_nar .boolean 0)) (rgi (by omega) (by omega))
  refine wb ec3 ?_
  have e1 := (Zfr.gi fc3 t_a0 (by decide)).trans eh_op
  have F2 := Zfr.tr F0 fc3 (by decide)
  obtain ⟨v4, ev4, tv4⟩ := gf_64_59 Wc3 t_a0
  refine wb ev4 ?_
  refine wb e1 ?_
  obtain ⟨c6, ec6, Wc6, fc6, gc6⟩ := pa_108 Wc3 tv4 (i := op) (by omega) (by omega) (x := 0) (trivial)
  refine wb ec6 ?_
  have e3 := (Zfr.gi fc6 t_a0 (by decide)).trans e1
  have F4 := Zfr.tr F2 fc6 (by decide)
  obtain ⟨v7, ev7, tv7⟩ := gf_64_60 Wc6 t_a0
  refine wb ev7 ?_
  refine wb e3 ?_
  obtain ⟨c9, ec9, Wc9, fc9, gc9⟩ := pa_109 Wc6 tv7 (i := op) (by omega) (by omega) (x := 0) (trivial)
  refine wb ec9 ?_
  have e5 := (Zfr.gi fc9 t_a0 (by decide)).trans e3
  have F6 := Zfr.tr F4 fc9 (by decide)
  refine wb e5 ?_
  obtain ⟨w12, ew12⟩ := go_64 Wc9 t_a0
  refine wb ew12 ?_
  obtain ⟨q11, eq11, Wq11, fq11⟩ := p_Mo_beginRow hn Wc9 (a1 := op) t_a0 (by omega) (by omega)
  refine wb eq11 ?_
  have e7 := (Zfr.gi fq11 t_a0 (by decide)).trans e5
  have F8 := Zfr.tr F6 fq11 (by decide)
  refine wb e7 ?_
  have := li_1
  have := i_add (a := op) (b := 1) (by omega) (by omega)
  obtain ⟨c14, ec14, Wc14, fc14, gc14⟩ := pf_64_65 Wq11 t_a0 (x := (op + 1)) (rgi (by omega) (by omega))
  refine wb ec14 ?_
  have F9 := Zfr.tr F8 fc14 (by decide)
  exact ⟨_, rfl, Wc14, F9, ⟨(op + 1), gc14, by (try dsimp only); omega⟩⟩

abbrev M_Mo_step_58 : List (Nat × Nat) := [(95, 0), (110, 0), (111, 0), (112, 0), (113, 0)]
set_option maxRecDepth 100000 in
set_option maxHeartbeats 400000 in
theorem p_Mo_step_58 {nf : Nat} (hn : 8589934592 ≤ nf) {G : List Nat} {c : Zc} (W : Zwt zty G c) {x0 : Nat} {x1 : Int32} {x3 : Int32} {x4 : Int32} {x5 : Int32} {op : Int32} (t_x0 : G[x0]? = some 64) (pl_x1 : 0 ≤ x1.toInt) (pu_x1 : x1.toInt ≤ 98) (pl_x5 : 0 ≤ x5.toInt) (pu_x5 : x5.toInt ≤ 1) (pl_op : 1 ≤ op.toInt) (pu_op : op.toInt ≤ 12) (eh_op : zgi c x0 12 65 = some op) : ∃ q, f_Mo_step_58 nf x0 x1 x3 x4 x5 c = some q ∧ Zwt zty G q ∧ Zfr G M_Mo_step_58 c q := by
  have F0 : Zfr G M_Mo_step_58 c c := Zfr.rf
  unfold f_Mo_step_58
  refine wb eh_op ?_
  obtain ⟨v11, ev11, tv11⟩ := gf_64_63 W t_x0
  refine wb ev11 ?_
  have := li_1
  have := i_sub (a := op) (b := 1) (by omega) (by omega)
  obtain ⟨v12, ev12, _⟩ := ga_112 W tv11 (i := (op - 1)) (by omega) (by omega)
  refine wb ev12 ?_
  obtain ⟨w14, ew14⟩ := go_64 W t_x0
  refine wb ew14 ?_
  obtain ⟨q13, eq13, Wq13, fq13⟩ := p_Mo_link hn W (a1 := x1) (a2 := v12) (a3 := x3) t_x0 (by omega) (by omega)
  refine wb eq13 ?_
  have e1 := (Zfr.gr fq13 t_x0 (by decide)).trans ev11
  have e2 := (Zfr.ai fq13 tv11 (by decide)).trans ev12
  have F3 := Zfr.tr F0 fq13 (by decide)
  obtain ⟨v15, ev15, tv15⟩ := gf_64_62 Wq13 t_x0
  refine wb ev15 ?_
  obtain ⟨v16, ev16, _⟩ := ga_111 Wq13 tv15 (i := (op - 1)) (by omega) (by omega)
  refine wb ev16 ?_
  obtain ⟨v17, ev17, tv17⟩ := gf_64_61 Wq13 t_x0
  refine wb ev17 ?_
  obtain ⟨v18, ev18, lv18, uv18⟩ := ga_110 Wq13 tv17 (i := (op - 1)) (by omega) (by omega)
  refine wb ev18 ?_
  refine wi (fun hq4 => ?_) (fun hq4 => ?_)
  · have := li_0
    have hq4 := i_eq hq4
    unfold f_Mo_step_102
    obtain ⟨c20, ec20, Wc20, fc20, gc20⟩ := pa_111 Wq13 tv15 (i := (op - 1)) (by omega) (by omega) (x := (v16 ||| 0)) (trivial)
    refine wb ec20 ?_
    have e5 := (Zfr.gr fc20 t_x0 (by decide)).trans e1
    have e6 := (Zfr.ai fc20 tv11 (by decide)).trans e2
    have e7 := (Zfr.gr fc20 t_x0 (by decide)).trans ev17
    have e8 := (Zfr.ai fc20 tv17 (by decide)).trans ev18
    have F9 := Zfr.tr F3 fc20 (by decide)
    refine wb e5 ?_
    refine wi (fun hq10 => ?_) (fun hq10 => ?_)
    · have hq10 := i_eq hq10
      unfold f_Mo_step_128
      obtain ⟨c23, ec23, Wc23, fc23, gc23⟩ := pa_112 Wc20 tv11 (i := (op - 1)) (by omega) (by omega) (x := (x4 ||| 0)) (trivial)
      refine wb ec23 ?_
      have e11 := (Zfr.gr fc23 t_x0 (by decide)).trans e7
      have e12 := (Zfr.ai fc23 tv17 (by decide)).trans e8
      have e13 := (Zfr.ai fc23 tv15 (by decide)).trans gc20
      have F14 := Zfr.tr F9 fc23 (by decide)
      refine wb e11 ?_
      refine wb e12 ?_
      have := i_andr (a := v18) (b := x5) (by omega)
      have := i_andl (a := v18) (b := x5) (by omega)
      have := nb_id (x := (v18 &&& x5)) (by omega) (by omega)
      obtain ⟨c26, ec26, Wc26, fc26, gc26⟩ := pa_110 Wc23 tv17 (i := (op - 1)) (by omega) (by omega) (x := (vp_nar .boolean (v18 &&& x5))) (rgi (by omega) (by omega))
      refine wb ec26 ?_
      have F15 := Zfr.tr F14 fc26 (by decide)
      obtain ⟨v27, ev27, tv27⟩ := gf_64_64 Wc26 t_x0
      refine wb ev27 ?_
      have := nb_1
      obtain ⟨c28, ec28, Wc28, fc28, gc28⟩ := pa_113 Wc26 tv27 (i := (op - 1)) (by omega) (by omega) (x := (vp_nar .boolean 1)) (rgi (by omega) (by omega))
      refine wb ec28 ?_
      have F16 := Zfr.tr F15 fc28 (by decide)
      exact ⟨_, rfl, Wc28, F16⟩
    · have hq10 := i_ne hq10
      refine wb e5 ?_
      refine wb e6 ?_
      unfold f_Mo_step_128
      obtain ⟨c23, ec23, Wc23, fc23, gc23⟩ := pa_112 Wc20 tv11 (i := (op - 1)) (by omega) (by omega) (x := (x4 ||| v12)) (trivial)
      refine wb ec23 ?_
      have e17 := (Zfr.gr fc23 t_x0 (by decide)).trans e7
      have e18 := (Zfr.ai fc23 tv17 (by decide)).trans e8
      have e19 := (Zfr.ai fc23 tv15 (by decide)).trans gc20
      have F20 := Zfr.tr F9 fc23 (by decide)
      refine wb e17 ?_
      refine wb e18 ?_
      have := i_andr (a := v18) (b := x5) (by omega)
      have := i_andl (a := v18) (b := x5) (by omega)
      have := nb_id (x := (v18 &&& x5)) (by omega) (by omega)
      obtain ⟨c26, ec26, Wc26, fc26, gc26⟩ := pa_110 Wc23 tv17 (i := (op - 1)) (by omega) (by omega) (x := (vp_nar .boolean (v18 &&& x5))) (rgi (by omega) (by omega))
      refine wb ec26 ?_
      have F21 := Zfr.tr F20 fc26 (by decide)
      obtain ⟨v27, ev27, tv27⟩ := gf_64_64 Wc26 t_x0
      refine wb ev27 ?_
      have := nb_1
      obtain ⟨c28, ec28, Wc28, fc28, gc28⟩ := pa_113 Wc26 tv27 (i := (op - 1)) (by omega) (by omega) (x := (vp_nar .boolean 1)) (rgi (by omega) (by omega))
      refine wb ec28 ?_
      have F22 := Zfr.tr F21 fc28 (by decide)
      exact ⟨_, rfl, Wc28, F22⟩
  · have := li_0
    have hq4 := i_ne hq4
    unfold f_Mo_step_102
    obtain ⟨c20, ec20, Wc20, fc20, gc20⟩ := pa_111 Wq13 tv15 (i := (op - 1)) (by omega) (by omega) (x := (v16 ||| x3)) (trivial)
    refine wb ec20 ?_
    have e23 := (Zfr.gr fc20 t_x0 (by decide)).trans e1
    have e24 := (Zfr.ai fc20 tv11 (by decide)).trans e2
    have e25 := (Zfr.gr fc20 t_x0 (by decide)).trans ev17
    have e26 := (Zfr.ai fc20 tv17 (by decide)).trans ev18
    have F27 := Zfr.tr F3 fc20 (by decide)
    refine wb e23 ?_
    refine wi (fun hq28 => ?_) (fun hq28 => ?_)
    · have hq28 := i_eq hq28
      unfold f_Mo_step_128
      obtain ⟨c23, ec23, Wc23, fc23, gc23⟩ := pa_112 Wc20 tv11 (i := (op - 1)) (by omega) (by omega) (x := (x4 ||| 0)) (trivial)
      refine wb ec23 ?_
      have e29 := (Zfr.gr fc23 t_x0 (by decide)).trans e25
      have e30 := (Zfr.ai fc23 tv17 (by decide)).trans e26
      have e31 := (Zfr.ai fc23 tv15 (by decide)).trans gc20
      have F32 := Zfr.tr F27 fc23 (by decide)
      refine wb e29 ?_
      refine wb e30 ?_
      have := i_andr (a := v18) (b := x5) (by omega)
      have := i_andl (a := v18) (b := x5) (by omega)
      have := nb_id (x := (v18 &&& x5)) (by omega) (by omega)
      obtain ⟨c26, ec26, Wc26, fc26, gc26⟩ := pa_110 Wc23 tv17 (i := (op - 1)) (by omega) (by omega) (x := (vp_nar .boolean (v18 &&& x5))) (rgi (by omega) (by omega))
      refine wb ec26 ?_
      have F33 := Zfr.tr F32 fc26 (by decide)
      obtain ⟨v27, ev27, tv27⟩ := gf_64_64 Wc26 t_x0
      refine wb ev27 ?_
      have := nb_1
      obtain ⟨c28, ec28, Wc28, fc28, gc28⟩ := pa_113 Wc26 tv27 (i := (op - 1)) (by omega) (by omega) (x := (vp_nar .boolean 1)) (rgi (by omega) (by omega))
      refine wb ec28 ?_
      have F34 := Zfr.tr F33 fc28 (by decide)
      exact ⟨_, rfl, Wc28, F34⟩
    · have hq28 := i_ne hq28
      refine wb e23 ?_
      refine wb e24 ?_
      unfold f_Mo_step_128
      obtain ⟨c23, ec23, Wc23, fc23, gc23⟩ := pa_112 Wc20 tv11 (i := (op - 1)) (by omega) (by omega) (x := (x4 ||| v12)) (trivial)
      refine wb ec23 ?_
      have e35 := (Zfr.gr fc23 t_x0 (by decide)).trans e25
      have e36 := (Zfr.ai fc23 tv17 (by decide)).trans e26
      have e37 := (Zfr.ai fc23 tv15 (by decide)).trans gc20
      have F38 := Zfr.tr F27 fc23 (by decide)
      refine wb e35 ?_
      refine wb e36 ?_
      have := i_andr (a := v18) (b := x5) (by omega)
      have := i_andl (a := v18) (b := x5) (by omega)
      have := nb_id (x := (v18 &&& x5)) (by omega) (by omega)
      obtain ⟨c26, ec26, Wc26, fc26, gc26⟩ := pa_110 Wc23 tv17 (i := (op - 1)) (by omega) (by omega) (x := (vp_nar .boolean (v18 &&& x5))) (rgi (by omega) (by omega))
      refine wb ec26 ?_
      have F39 := Zfr.tr F38 fc26 (by decide)
      obtain ⟨v27, ev27, tv27⟩ := gf_64_64 Wc26 t_x0
      refine wb ev27 ?_
      have := nb_1
      obtain ⟨c28, ec28, Wc28, fc28, gc28⟩ := pa_113 Wc26 tv27 (i := (op - 1)) (by omega) (by omega) (x := (vp_nar .boolean 1)) (rgi (by omega) (by omega))
      refine wb ec28 ?_
      have F40 := Zfr.tr F39 fc28 (by decide)
      exact ⟨_, rfl, Wc28, F40⟩

abbrev M_Mo_step : List (Nat × Nat) := [(64, 18), (64, 19), (64, 20), (95, 0), (110, 0), (111, 0), (112, 0), (113, 0)]
set_option maxRecDepth 100000 in
set_option maxHeartbeats 400000 in
theorem p_Mo_step {nf : Nat} (hn : 8589934592 ≤ nf) {G : List Nat} {c : Zc} (W : Zwt zty G c) {a0 : Nat} {a1 : Int32} {a2 : Int32} {a3 : Int32} {a4 : Int32} {fv : Int32} {tv : Int32} {op : Int32} (t_a0 : G[a0]? = some 64) (pl_fv : 0 ≤ fv.toInt) (pu_fv : fv.toInt ≤ 6) (pl_tv : 0 ≤ tv.toInt) (pu_tv : tv.toInt ≤ 200) (pl_a1 : 0 ≤ a1.toInt) (pu_a1 : a1.toInt ≤ 98) (pl_a2 : 0 ≤ a2.toInt) (pu_a2 : a2.toInt ≤ 1) (pl_op : 1 ≤ op.toInt) (pu_op : op.toInt ≤ 12) (eh_fv : zgi c a0 12 19 = some fv) (eh_tv : zgi c a0 12 18 = some tv) (eh_op : zgi c a0 12 65 = some op) : ∃ q, f_Mo_step nf a0 a1 a2 a3 a4 c = some q ∧ Zwt zty G q ∧ Zfr G M_Mo_step c q ∧ ZSz G q a0 fv tv := by
  have F0 : Zfr G M_Mo_step c c := Zfr.rf
  unfold f_Mo_step
  obtain ⟨w2, ew2⟩ := go_64 W t_a0
  refine wb ew2 ?_
  have := li_42
  obtain ⟨q1, eq1, Wq1, fq1, pl0q1, pu0q1, pbZSkq1⟩ := p_Mo_takes hn W (a1 := 42) t_a0 (by omega) (by omega) (by omega) (by omega) eh_fv eh_tv
  refine wb eq1 ?_
  have e3 := (Zfr.gi fq1 t_a0 (by decide)).trans eh_op
  have F4 := Zfr.tr F0 fq1 (by decide)
  obtain ⟨bf2q1, bt2q1, h0ZSkq1, h1ZSkq1, r0ZSkq1, r1ZSkq1, r2ZSkq1, r3ZSkq1, r4ZSkq1, r5ZSkq1, r6ZSkq1⟩ := pbZSkq1
  refine wi (fun hq5 => ?_) (fun hq5 => ?_)
  · have := li_0
    have hq5 := i_eq hq5
    obtain ⟨w5, ew5⟩ := go_64 Wq1 t_a0
    refine wb ew5 ?_
    have := li_43
    obtain ⟨q4, eq4, Wq4, fq4, pl0q4, pu0q4, pbZSkq4⟩ := p_Mo_takes hn Wq1 (a1 := 43) t_a0 (by omega) (by omega) (by omega) (by omega) h0ZSkq1 h1ZSkq1
    refine wb eq4 ?_
    have e8 := (Zfr.gi fq4 t_a0 (by decide)).trans e3
    have F9 := Zfr.tr F4 fq4 (by decide)
    obtain ⟨bf2q4, bt2q4, h0ZSkq4, h1ZSkq4, r0ZSkq4, r1ZSkq4, r2ZSkq4, r3ZSkq4, r4ZSkq4, r5ZSkq4, r6ZSkq4⟩ := pbZSkq4
    refine wi (fun hq10 => ?_) (fun hq10 => ?_)
    · have hq10 := i_eq hq10
      obtain ⟨w8, ew8⟩ := go_64 Wq4 t_a0
      refine wb ew8 ?_
      have := li_63
      obtain ⟨q7, eq7, Wq7, fq7, pl0q7, pu0q7, pbZSkq7⟩ := p_Mo_takes hn Wq4 (a1 := 63) t_a0 (by omega) (by omega) (by omega) (by omega) h0ZSkq4 h1ZSkq4
      refine wb eq7 ?_
      have e13 := (Zfr.gi fq7 t_a0 (by decide)).trans e8
      have F14 := Zfr.tr F9 fq7 (by decide)
      obtain ⟨bf2q7, bt2q7, h0ZSkq7, h1ZSkq7, r0ZSkq7, r1ZSkq7, r2ZSkq7, r3ZSkq7, r4ZSkq7, r5ZSkq7, r6ZSkq7⟩ := pbZSkq7
      refine wi (fun hq15 => ?_) (fun hq15 => ?_)
      · have hq15 := i_eq hq15
        obtain ⟨qt16, eqt16, Wqt16, fqt16⟩ := p_Mo_step_58 hn Wq7 (x1 := a1) (x3 := a3) (x4 := a4) (x5 := a2) t_a0 (by omega) (by omega) (by omega) (by omega) (by omega) (by omega) e13
        have e18 := (Zfr.gi fqt16 t_a0 (by decide)).trans h0ZSkq7
        have e19 := (Zfr.gi fqt16 t_a0 (by decide)).trans h1ZSkq7
        have F20 := Zfr.tr F14 fqt16 (by decide)
        exact ⟨_, eqt16, Wqt16, F20, ⟨bf2q7, bt2q7, e18, e19, by (try dsimp only); omega, by (try dsimp only); omega, by (try dsimp only); omega, by (try dsimp only); omega, by (try dsimp only); omega, by (try dsimp only); omega⟩⟩
      · have hq15 := i_ne hq15
        have := li_1
        obtain ⟨qt23, eqt23, Wqt23, fqt23⟩ := p_Mo_step_58 hn Wq7 (x1 := a1) (x3 := a3) (x4 := a4) (x5 := 1) t_a0 (by omega) (by omega) (by omega) (by omega) (by omega) (by omega) e13
        have e25 := (Zfr.gi fqt23 t_a0 (by decide)).trans h0ZSkq7
        have e26 := (Zfr.gi fqt23 t_a0 (by decide)).trans h1ZSkq7
        have F27 := Zfr.tr F14 fqt23 (by decide)
        exact ⟨_, eqt23, Wqt23, F27, ⟨bf2q7, bt2q7, e25, e26, by (try dsimp only); omega, by (try dsimp only); omega, by (try dsimp only); omega, by (try dsimp only); omega, by (try dsimp only); omega, by (try dsimp only); omega⟩⟩
    · have hq10 := i_ne hq10
      obtain ⟨w32, ew32⟩ := go_64 Wq4 t_a0
      refine wb ew32 ?_
      obtain ⟨q31, eq31, Wq31, fq31⟩ := p_Mo_link hn Wq4 (a1 := a1) (a2 := a4) (a3 := a3) t_a0 (by omega) (by omega)
      refine wb eq31 ?_
      have e30 := (Zfr.gi fq31 t_a0 (by decide)).trans e8
      have e31 := (Zfr.gi fq31 t_a0 (by decide)).trans h0ZSkq4
      have e32 := (Zfr.gi fq31 t_a0 (by decide)).trans h1ZSkq4
      have F33 := Zfr.tr F9 fq31 (by decide)
      obtain ⟨qt34, eqt34, Wqt34, fqt34⟩ := p_Mo_step_58 hn Wq31 (x1 := a1) (x3 := a3) (x4 := a4) (x5 := a2) t_a0 (by omega) (by omega) (by omega) (by omega) (by omega) (by omega) e30
      have e36 := (Zfr.gi fqt34 t_a0 (by decide)).trans e31
      have e37 := (Zfr.gi fqt34 t_a0 (by decide)).trans e32
      have F38 := Zfr.tr F33 fqt34 (by decide)
      exact ⟨_, eqt34, Wqt34, F38, ⟨bf2q4, bt2q4, e36, e37, by (try dsimp only); omega, by (try dsimp only); omega, by (try dsimp only); omega, by (try dsimp only); omega, by (try dsimp only); omega, by (try dsimp only); omega⟩⟩
  · have := li_0
    have hq5 := i_ne hq5
    obtain ⟨w34, ew34⟩ := go_64 Wq1 t_a0
    refine wb ew34 ?_
    obtain ⟨q33, eq33, Wq33, fq33⟩ := p_Mo_link hn Wq1 (a1 := a1) (a2 := a4) (a3 := a3) t_a0 (by omega) (by omega)
    refine wb eq33 ?_
    have e41 := (Zfr.gi fq33 t_a0 (by decide)).trans e3
    have e42 := (Zfr.gi fq33 t_a0 (by decide)).trans h0ZSkq1
    have e43 := (Zfr.gi fq33 t_a0 (by decide)).trans h1ZSkq1
    have F44 := Zfr.tr F4 fq33 (by decide)
    have := li_1
    obtain ⟨qt45, eqt45, Wqt45, fqt45⟩ := p_Mo_step_58 hn Wq33 (x1 := a1) (x3 := a3) (x4 := a4) (x5 := 1) t_a0 (by omega) (by omega) (by omega) (by omega) (by omega) (by omega) e41
    have e47 := (Zfr.gi fqt45 t_a0 (by decide)).trans e42
    have e48 := (Zfr.gi fqt45 t_a0 (by decide)).trans e43
    have F49 := Zfr.tr F44 fqt45 (by decide)
    exact ⟨_, eqt45, Wqt45, F49, ⟨bf2q1, bt2q1, e47, e48, by (try dsimp only); omega, by (try dsimp only); omega, by (try dsimp only); omega, by (try dsimp only); omega, by (try dsimp only); omega, by (try dsimp only); omega⟩⟩

abbrev M_Mo_single : List (Nat × Nat) := [(64, 18), (64, 19), (64, 20), (92, 0), (93, 0), (94, 0), (95, 0), (110, 0), (111, 0), (112, 0), (113, 0)]
set_option maxRecDepth 100000 in
set_option maxHeartbeats 400000 in
theorem p_Mo_single {nf : Nat} (hn : 8589934592 ≤ nf) {G : List Nat} {c : Zc} (W : Zwt zty G c) {a0 : Nat} {a1 : Int32} {fv : Int32} {tv : Int32} {op : Int32} (t_a0 : G[a0]? = some 64) (pl_fv : 0 ≤ fv.toInt) (pu_fv : fv.toInt ≤ 6) (pl_tv : 0 ≤ tv.toInt) (pu_tv : tv.toInt ≤ 200) (pl_a1 : 0 ≤ a1.toInt) (pu_a1 : a1.toInt ≤ 98) (pl_op : 1 ≤ op.toInt) (pu_op : op.toInt ≤ 12) (eh_fv : zgi c a0 12 19 = some fv) (eh_tv : zgi c a0 12 18 = some tv) (eh_op : zgi c a0 12 65 = some op) (hb_Ztk : Ztk G c a0) : ∃ q, f_Mo_single nf a0 a1 c = some q ∧ Zwt zty G q ∧ Zfr G M_Mo_single c q ∧ ZS G q a0 fv tv 1 := by
  have F0 : Zfr G M_Mo_single c c := Zfr.rf
  unfold f_Mo_single
  have k0Ztk0 := hb_Ztk
  obtain ⟨v1, ev1, tv1⟩ := gf_64_39 W t_a0
  refine wb ev1 ?_
  obtain ⟨v2, ev2, lv2, uv2⟩ := ga_92 W tv1 (i := a1) (by omega) (by omega)
  refine wb ev2 ?_
  obtain ⟨w4, ew4⟩ := go_64 W t_a0
  refine wb ew4 ?_
  obtain ⟨q3, eq3, Wq3, fq3, pbZStq3⟩ := p_Mo_stands hn W  t_a0 (by omega) (by omega) (by omega) (by omega) eh_fv eh_tv
  refine wb eq3 ?_
  have e3 := (Zfr.gi fq3 t_a0 (by decide)).trans eh_tv
  have e4 := (Zfr.gi fq3 t_a0 (by decide)).trans eh_op
  have e5 := (Zfr.gr fq3 t_a0 (by decide)).trans ev1
  have e6 := (Zfr.ai fq3 tv1 (by decide)).trans ev2
  have k7 := TkN_fr k0Ztk0 fq3 t_a0 W (by decide)
  have F8 := Zfr.tr F0 fq3 (by decide)
  obtain ⟨bf2q3, h0ZStq3, r0ZStq3, r1ZStq3, r2ZStq3⟩ := pbZStq3
  refine wi (fun hq9 => ?_) (fun hq9 => ?_)
  · have := li_16
    have hq9 := i_eq hq9
    obtain ⟨v45, ev45, tv45⟩ := gf_64_16 Wq3 t_a0
    refine wb ev45 ?_
    refine wb e3 ?_
    obtain ⟨v47, ev47, _⟩ := ga_76 Wq3 tv45 (i := tv) (by omega) (by omega)
    refine wb ev47 ?_
    obtain ⟨w49, ew49⟩ := go_64 Wq3 t_a0
    refine wb ew49 ?_
    have := li_3
    obtain ⟨q48, eq48, Wq48, fq48, pbZSfq48⟩ := p_Mo_refuse hn Wq3 (a1 := 3) (a2 := v47) t_a0 (by omega) (by omega) (by omega) (by omega) h0ZStq3
    refine wb eq48 ?_
    have e11 := (Zfr.gi fq48 t_a0 (by decide)).trans e3
    have e12 := (Zfr.gi fq48 t_a0 (by decide)).trans e4
    have e13 := (Zfr.gr fq48 t_a0 (by decide)).trans e5
    have e14 := (Zfr.ai fq48 tv1 (by decide)).trans e6
    have e15 := (Zfr.gr fq48 t_a0 (by decide)).trans ev45
    have e16 := (Zfr.ai fq48 tv45 (by decide)).trans ev47
    have k17 := TkN_fr k7 fq48 t_a0 Wq3 (by decide)
    have F18 := Zfr.tr F8 fq48 (by decide)
    obtain ⟨bf2q48, h0ZSfq48, r0ZSfq48, r1ZSfq48⟩ := pbZSfq48
    unfold f_Mo_single_31
    obtain ⟨w7, ew7⟩ := go_64 Wq48 t_a0
    refine wb ew7 ?_
    have := li_94
    obtain ⟨q6, eq6, Wq6, fq6, pl0q6, pu0q6, pbZSkq6⟩ := p_Mo_takes hn Wq48 (a1 := 94) t_a0 (by omega) (by omega) (by omega) (by omega) h0ZSfq48 e11
    refine wb eq6 ?_
    have e21 := (Zfr.gi fq6 t_a0 (by decide)).trans e12
    have e22 := (Zfr.gr fq6 t_a0 (by decide)).trans e13
    have e23 := (Zfr.ai fq6 tv1 (by decide)).trans e14
    have e24 := (Zfr.gr fq6 t_a0 (by decide)).trans e15
    have e25 := (Zfr.ai fq6 tv45 (by decide)).trans e16
    have k26 := TkN_fr k17 fq6 t_a0 Wq48 (by decide)
    have F27 := Zfr.tr F18 fq6 (by decide)
    obtain ⟨bf2q6, bt2q6, h0ZSkq6, h1ZSkq6, r0ZSkq6, r1ZSkq6, r2ZSkq6, r3ZSkq6, r4ZSkq6, r5ZSkq6, r6ZSkq6⟩ := pbZSkq6
    refine wb h0ZSkq6 ?_
    refine wi (fun hq28 => ?_) (fun hq28 => ?_)
    · have := li_0
      have hq28 := i_eq hq28
      obtain ⟨w11, ew11⟩ := go_64 Wq6 t_a0
      refine wb ew11 ?_
      obtain ⟨q10, eq10, Wq10, fq10, pbZScq10, pbZkdq10⟩ := p_Mo_kind hn Wq6  t_a0 (by omega) (by omega) (by omega) (by omega) h0ZSkq6 h1ZSkq6
      refine wb eq10 ?_
      have e31 := (Zfr.gi fq10 t_a0 (by decide)).trans e21
      have e32 := (Zfr.gr fq10 t_a0 (by decide)).trans e22
      have e33 := (Zfr.ai fq10 tv1 (by decide)).trans e23
      have e34 := (Zfr.gr fq10 t_a0 (by decide)).trans e24
      have e35 := (Zfr.ai fq10 tv45 (by decide)).trans e25
      have e36 := (Zfr.gi fq10 t_a0 (by decide)).trans h1ZSkq6
      have k37 := TkN_fr k26 fq10 t_a0 Wq6 (by decide)
      have F38 := Zfr.tr F27 fq10 (by decide)
      obtain ⟨bf2q10, h0ZScq10, r0ZScq10, r1ZScq10, r2ZScq10, r3ZScq10⟩ := pbZScq10
      obtain ⟨bkkq10, h0Zkdq10, h1Zkdq10, tkkq10⟩ := pbZkdq10
      refine wi (fun hq39 => ?_) (fun hq39 => ?_)
      · have := li_5
        have := i_ge q10.1
        have := i_up q10.1
        have hq39 := i_eq hq39
        obtain ⟨w33, ew33⟩ := go_64 Wq10 t_a0
        refine wb ew33 ?_
        obtain ⟨q32, eq32, Wq32, fq32, pbZStq32⟩ := p_Mo_stands hn Wq10  t_a0 (by omega) (by omega) (by omega) (by omega) h0ZScq10 e36
        refine wb eq32 ?_
        have e42 := (Zfr.gi fq32 t_a0 (by decide)).trans e31
        have e43 := (Zfr.gr fq32 t_a0 (by decide)).trans e32
        have e44 := (Zfr.ai fq32 tv1 (by decide)).trans e33
        have e45 := (Zfr.gr fq32 t_a0 (by decide)).trans e34
        have e46 := (Zfr.ai fq32 tv45 (by decide)).trans e35
        have e47 := (Zfr.gi fq32 t_a0 (by decide)).trans e36
        have e48 := (Zfr.gr fq32 t_a0 (by decide)).trans h0Zkdq10
        have e49 := (Zfr.ai fq32 tkkq10 (by decide)).trans h1Zkdq10
        have k50 := TkN_fr k37 fq32 t_a0 Wq10 (by decide)
        have F51 := Zfr.tr F38 fq32 (by decide)
        obtain ⟨bf2q32, h0ZStq32, r0ZStq32, r1ZStq32, r2ZStq32⟩ := pbZStq32
        obtain ⟨v34, ev34, tv34⟩ := gf_64_15 Wq32 t_a0
        refine wb ev34 ?_
        refine wb e47 ?_
        obtain ⟨v36, ev36, _⟩ := ga_75 Wq32 tv34 (i := bt2q6) (by omega) (by omega)
        have ht52 := TkM_at (k50 _ _ e48 ev34) e49 ev36
        have := tkr5 ht52 (by omega)
        refine wb ev36 ?_
        obtain ⟨v37, ev37, lv37, uv37⟩ := gf_64_56 Wq32 t_a0
        refine wb ev37 ?_
        refine wi (fun hq53 => ?_) (fun hq53 => ?_)
        · have hq53 := i_le hq53
          unfold f_Mo_single_123
          obtain ⟨w18, ew18⟩ := go_64 Wq32 t_a0
          refine wb ew18 ?_
          obtain ⟨q17, eq17, Wq17, fq17, pbZSq17⟩ := p_Mo_pass hn Wq32  t_a0 (by omega) (by omega) (by omega) (by omega) h0ZStq32 e47
          refine wb eq17 ?_
          have e56 := (Zfr.gi fq17 t_a0 (by decide)).trans e42
          have e57 := (Zfr.gr fq17 t_a0 (by decide)).trans e43
          have e58 := (Zfr.ai fq17 tv1 (by decide)).trans e44
          have e59 := (Zfr.ai fq17 tv45 (by decide)).trans e46
          have e60 := (Zfr.gr fq17 t_a0 (by decide)).trans e48
          have e61 := (Zfr.ai fq17 tkkq10 (by decide)).trans e49
          have e62 := (Zfr.gr fq17 t_a0 (by decide)).trans ev34
          have e63 := (Zfr.ai fq17 tv34 (by decide)).trans ev36
          have k64 := TkN_fr k50 fq17 t_a0 Wq32 (by decide)
          have F65 := Zfr.tr F51 fq17 (by decide)
          have := li_1
          obtain ⟨bf2q17, bt2q17, h0ZSq17, h1ZSq17, r0ZSq17, r1ZSq17, r2ZSq17, r3ZSq17, r4ZSq17, r5ZSq17⟩ := pbZSq17
          refine wb h0ZSq17 ?_
          refine wi (fun hq66 => ?_) (fun hq66 => ?_)
          · have hq66 := i_eq hq66
            obtain ⟨v21, ev21, tv21⟩ := gf_64_40 Wq17 t_a0
            refine wb ev21 ?_
            have := i_mull (a := 16) (b := a1) (n := 16) li_16 (by omega) (by omega)
            have := i_add (a := (16 * a1)) (b := v2) (by omega) (by omega)
            obtain ⟨c22, ec22, Wc22, fc22, gc22⟩ := pa_93 Wq17 tv21 (i := ((16 * a1) + v2)) (by omega) (by omega) (x := v36) (rgi (by omega) (by omega))
            refine wb ec22 ?_
            have e67 := (Zfr.gi fc22 t_a0 (by decide)).trans e56
            have e68 := (Zfr.gr fc22 t_a0 (by decide)).trans e57
            have e69 := (Zfr.ai fc22 tv1 (by decide)).trans e58
            have e70 := (Zfr.ai fc22 tv45 (by decide)).trans e59
            have e71 := (Zfr.gr fc22 t_a0 (by decide)).trans e60
            have e72 := (Zfr.ai fc22 tkkq10 (by decide)).trans e61
            have e73 := (Zfr.gr fc22 t_a0 (by decide)).trans e62
            have e74 := (Zfr.ai fc22 tv34 (by decide)).trans e63
            have e75 := (Zfr.gi fc22 t_a0 (by decide)).trans h0ZSq17
            have e76 := (Zfr.gi fc22 t_a0 (by decide)).trans h1ZSq17
            have k77 := TkN_fr k64 fc22 t_a0 Wq17 (by decide)
            have F78 := Zfr.tr F65 fc22 (by decide)
            obtain ⟨v23, ev23, tv23⟩ := gf_64_41 Wc22 t_a0
            refine wb ev23 ?_
            have := nb_id (x := q6.1) (by omega) (by omega)
            obtain ⟨c24, ec24, Wc24, fc24, gc24⟩ := pa_94 Wc22 tv23 (i := ((16 * a1) + v2)) (by omega) (by omega) (x := (vp_nar .boolean q6.1)) (rgi (by omega) (by omega))
            refine wb ec24 ?_
            have e79 := (Zfr.gi fc24 t_a0 (by decide)).trans e67
            have e80 := (Zfr.gr fc24 t_a0 (by decide)).trans e68
            have e81 := (Zfr.ai fc24 tv1 (by decide)).trans e69
            have e82 := (Zfr.ai fc24 tv45 (by decide)).trans e70
            have e83 := (Zfr.gr fc24 t_a0 (by decide)).trans e71
            have e84 := (Zfr.ai fc24 tkkq10 (by decide)).trans e72
            have e85 := (Zfr.gr fc24 t_a0 (by decide)).trans e73
            have e86 := (Zfr.ai fc24 tv34 (by decide)).trans e74
            have e87 := (Zfr.gi fc24 t_a0 (by decide)).trans e75
            have e88 := (Zfr.gi fc24 t_a0 (by decide)).trans e76
            have e89 := (Zfr.ai fc24 tv21 (by decide)).trans gc22
            have k90 := TkN_fr k77 fc24 t_a0 Wc22 (by decide)
            have F91 := Zfr.tr F78 fc24 (by decide)
            refine wb e80 ?_
            refine wb e81 ?_
            have := i_add (a := v2) (b := 1) (by omega) (by omega)
            obtain ⟨c27, ec27, Wc27, fc27, gc27⟩ := pa_92 Wc24 tv1 (i := a1) (by omega) (by omega) (x := (v2 + 1)) (rgi (by omega) (by omega))
            refine wb ec27 ?_
            have e92 := (Zfr.gi fc27 t_a0 (by decide)).trans e79
            have e93 := (Zfr.gr fc27 t_a0 (by decide)).trans e80
            have e94 := (Zfr.ai fc27 tv45 (by decide)).trans e82
            have e95 := (Zfr.gr fc27 t_a0 (by decide)).trans e83
            have e96 := (Zfr.ai fc27 tkkq10 (by decide)).trans e84
            have e97 := (Zfr.gr fc27 t_a0 (by decide)).trans e85
            have e98 := (Zfr.ai fc27 tv34 (by decide)).trans e86
            have e99 := (Zfr.gi fc27 t_a0 (by decide)).trans e87
            have e100 := (Zfr.gi fc27 t_a0 (by decide)).trans e88
            have e101 := (Zfr.ai fc27 tv21 (by decide)).trans e89
            have e102 := (Zfr.ai fc27 tv23 (by decide)).trans gc24
            have k103 := TkN_fr k90 fc27 t_a0 Wc24 (by decide)
            have F104 := Zfr.tr F91 fc27 (by decide)
            obtain ⟨w29, ew29⟩ := go_64 Wc27 t_a0
            refine wb ew29 ?_
            have := i_shl16 (b := v2) (by omega) (by omega)
            obtain ⟨q28, eq28, Wq28, fq28, pbZSzq28⟩ := p_Mo_step hn Wc27 (a1 := a1) (a2 := 0) (a3 := ((1 : Int32) <<< (v2 &&& 31))) (a4 := ((1 : Int32) <<< (v2 &&& 31))) t_a0 (by omega) (by omega) (by omega) (by omega) (by omega) (by omega) (by omega) (by omega) (by omega) (by omega) e99 e100 e92
            refine wb eq28 ?_
            have e108 := (Zfr.gi fq28 t_a0 (by decide)).trans e92
            have e109 := (Zfr.gr fq28 t_a0 (by decide)).trans e93
            have e110 := (Zfr.ai fq28 tv45 (by decide)).trans e94
            have e111 := (Zfr.gr fq28 t_a0 (by decide)).trans e95
            have e112 := (Zfr.ai fq28 tkkq10 (by decide)).trans e96
            have e113 := (Zfr.gr fq28 t_a0 (by decide)).trans e97
            have e114 := (Zfr.ai fq28 tv34 (by decide)).trans e98
            have e115 := (Zfr.ai fq28 tv21 (by decide)).trans e101
            have e116 := (Zfr.ai fq28 tv23 (by decide)).trans e102
            have e117 := (Zfr.ai fq28 tv1 (by decide)).trans gc27
            have k118 := TkN_fr k103 fq28 t_a0 Wc27 (by decide)
            have F119 := Zfr.tr F104 fq28 (by decide)
            obtain ⟨bf2q28, bt2q28, h0ZSzq28, h1ZSzq28, r0ZSzq28, r1ZSzq28, r2ZSzq28, r3ZSzq28, r4ZSzq28, r5ZSzq28⟩ := pbZSzq28
            unfold f_Mo_single_181
            exact ⟨_, rfl, Wq28, F119, ⟨bf2q28, bt2q28, h0ZSzq28, h1ZSzq28, by (try dsimp only); omega, by (try dsimp only); omega, by (try dsimp only); omega, by (try dsimp only); omega, by (try dsimp only); omega, by (try dsimp only); omega⟩⟩
          · have hq66 := i_ne hq66
            unfold f_Mo_single_181
            exact ⟨_, rfl, Wq17, F65, ⟨bf2q17, bt2q17, h0ZSq17, h1ZSq17, by (try dsimp only); omega, by (try dsimp only); omega, by (try dsimp only); omega, by (try dsimp only); omega, by (try dsimp only); omega, by (try dsimp only); omega⟩⟩
        · have hq53 := i_nle hq53
          refine wi (fun hq124 => ?_) (fun hq124 => ?_)
          · have := li_8
            have hq124 := i_lt hq124
            unfold f_Mo_single_123
            obtain ⟨w18, ew18⟩ := go_64 Wq32 t_a0
            refine wb ew18 ?_
            obtain ⟨q17, eq17, Wq17, fq17, pbZSq17⟩ := p_Mo_pass hn Wq32  t_a0 (by omega) (by omega) (by omega) (by omega) h0ZStq32 e47
            refine wb eq17 ?_
            have e127 := (Zfr.gi fq17 t_a0 (by decide)).trans e42
            have e128 := (Zfr.gr fq17 t_a0 (by decide)).trans e43
            have e129 := (Zfr.ai fq17 tv1 (by decide)).trans e44
            have e130 := (Zfr.ai fq17 tv45 (by decide)).trans e46
            have e131 := (Zfr.gr fq17 t_a0 (by decide)).trans e48
            have e132 := (Zfr.ai fq17 tkkq10 (by decide)).trans e49
            have e133 := (Zfr.gr fq17 t_a0 (by decide)).trans ev34
            have e134 := (Zfr.ai fq17 tv34 (by decide)).trans ev36
            have k135 := TkN_fr k50 fq17 t_a0 Wq32 (by decide)
            have F136 := Zfr.tr F51 fq17 (by decide)
            have := li_1
            obtain ⟨bf2q17, bt2q17, h0ZSq17, h1ZSq17, r0ZSq17, r1ZSq17, r2ZSq17, r3ZSq17, r4ZSq17, r5ZSq17⟩ := pbZSq17
            refine wb h0ZSq17 ?_
            refine wi (fun hq137 => ?_) (fun hq137 => ?_)
            · have hq137 := i_eq hq137
              obtain ⟨v21, ev21, tv21⟩ := gf_64_40 Wq17 t_a0
              refine wb ev21 ?_
              have := i_mull (a := 16) (b := a1) (n := 16) li_16 (by omega) (by omega)
              have := i_add (a := (16 * a1)) (b := v2) (by omega) (by omega)
              obtain ⟨c22, ec22, Wc22, fc22, gc22⟩ := pa_93 Wq17 tv21 (i := ((16 * a1) + v2)) (by omega) (by omega) (x := v36) (rgi (by omega) (by omega))
              refine wb ec22 ?_
              have e138 := (Zfr.gi fc22 t_a0 (by decide)).trans e127
              have e139 := (Zfr.gr fc22 t_a0 (by decide)).trans e128
              have e140 := (Zfr.ai fc22 tv1 (by decide)).trans e129
              have e141 := (Zfr.ai fc22 tv45 (by decide)).trans e130
              have e142 := (Zfr.gr fc22 t_a0 (by decide)).trans e131
              have e143 := (Zfr.ai fc22 tkkq10 (by decide)).trans e132
              have e144 := (Zfr.gr fc22 t_a0 (by decide)).trans e133
              have e145 := (Zfr.ai fc22 tv34 (by decide)).trans e134
              have e146 := (Zfr.gi fc22 t_a0 (by decide)).trans h0ZSq17
              have e147 := (Zfr.gi fc22 t_a0 (by decide)).trans h1ZSq17
              have k148 := TkN_fr k135 fc22 t_a0 Wq17 (by decide)
              have F149 := Zfr.tr F136 fc22 (by decide)
              obtain ⟨v23, ev23, tv23⟩ := gf_64_41 Wc22 t_a0
              refine wb ev23 ?_
              have := nb_id (x := q6.1) (by omega) (by omega)
              obtain ⟨c24, ec24, Wc24, fc24, gc24⟩ := pa_94 Wc22 tv23 (i := ((16 * a1) + v2)) (by omega) (by omega) (x := (vp_nar .boolean q6.1)) (rgi (by omega) (by omega))
              refine wb ec24 ?_
              have e150 := (Zfr.gi fc24 t_a0 (by decide)).trans e138
              have e151 := (Zfr.gr fc24 t_a0 (by decide)).trans e139
              have e152 := (Zfr.ai fc24 tv1 (by decide)).trans e140
              have e153 := (Zfr.ai fc24 tv45 (by decide)).trans e141
              have e154 := (Zfr.gr fc24 t_a0 (by decide)).trans e142
              have e155 := (Zfr.ai fc24 tkkq10 (by decide)).trans e143
              have e156 := (Zfr.gr fc24 t_a0 (by decide)).trans e144
              have e157 := (Zfr.ai fc24 tv34 (by decide)).trans e145
              have e158 := (Zfr.gi fc24 t_a0 (by decide)).trans e146
              have e159 := (Zfr.gi fc24 t_a0 (by decide)).trans e147
              have e160 := (Zfr.ai fc24 tv21 (by decide)).trans gc22
              have k161 := TkN_fr k148 fc24 t_a0 Wc22 (by decide)
              have F162 := Zfr.tr F149 fc24 (by decide)
              refine wb e151 ?_
              refine wb e152 ?_
              have := i_add (a := v2) (b := 1) (by omega) (by omega)
              obtain ⟨c27, ec27, Wc27, fc27, gc27⟩ := pa_92 Wc24 tv1 (i := a1) (by omega) (by omega) (x := (v2 + 1)) (rgi (by omega) (by omega))
              refine wb ec27 ?_
              have e163 := (Zfr.gi fc27 t_a0 (by decide)).trans e150
              have e164 := (Zfr.gr fc27 t_a0 (by decide)).trans e151
              have e165 := (Zfr.ai fc27 tv45 (by decide)).trans e153
              have e166 := (Zfr.gr fc27 t_a0 (by decide)).trans e154
              have e167 := (Zfr.ai fc27 tkkq10 (by decide)).trans e155
              have e168 := (Zfr.gr fc27 t_a0 (by decide)).trans e156
              have e169 := (Zfr.ai fc27 tv34 (by decide)).trans e157
              have e170 := (Zfr.gi fc27 t_a0 (by decide)).trans e158
              have e171 := (Zfr.gi fc27 t_a0 (by decide)).trans e159
              have e172 := (Zfr.ai fc27 tv21 (by decide)).trans e160
              have e173 := (Zfr.ai fc27 tv23 (by decide)).trans gc24
              have k174 := TkN_fr k161 fc27 t_a0 Wc24 (by decide)
              have F175 := Zfr.tr F162 fc27 (by decide)
              obtain ⟨w29, ew29⟩ := go_64 Wc27 t_a0
              refine wb ew29 ?_
              have := i_shl16 (b := v2) (by omega) (by omega)
              obtain ⟨q28, eq28, Wq28, fq28, pbZSzq28⟩ := p_Mo_step hn Wc27 (a1 := a1) (a2 := 0) (a3 := ((1 : Int32) <<< (v2 &&& 31))) (a4 := ((1 : Int32) <<< (v2 &&& 31))) t_a0 (by omega) (by omega) (by omega) (by omega) (by omega) (by omega) (by omega) (by omega) (by omega) (by omega) e170 e171 e163
              refine wb eq28 ?_
              have e179 := (Zfr.gi fq28 t_a0 (by decide)).trans e163
              have e180 := (Zfr.gr fq28 t_a0 (by decide)).trans e164
              have e181 := (Zfr.ai fq28 tv45 (by decide)).trans e165
              have e182 := (Zfr.gr fq28 t_a0 (by decide)).trans e166
              have e183 := (Zfr.ai fq28 tkkq10 (by decide)).trans e167
              have e184 := (Zfr.gr fq28 t_a0 (by decide)).trans e168
              have e185 := (Zfr.ai fq28 tv34 (by decide)).trans e169
              have e186 := (Zfr.ai fq28 tv21 (by decide)).trans e172
              have e187 := (Zfr.ai fq28 tv23 (by decide)).trans e173
              have e188 := (Zfr.ai fq28 tv1 (by decide)).trans gc27
              have k189 := TkN_fr k174 fq28 t_a0 Wc27 (by decide)
              have F190 := Zfr.tr F175 fq28 (by decide)
              obtain ⟨bf2q28, bt2q28, h0ZSzq28, h1ZSzq28, r0ZSzq28, r1ZSzq28, r2ZSzq28, r3ZSzq28, r4ZSzq28, r5ZSzq28⟩ := pbZSzq28
              unfold f_Mo_single_181
              exact ⟨_, rfl, Wq28, F190, ⟨bf2q28, bt2q28, h0ZSzq28, h1ZSzq28, by (try dsimp only); omega, by (try dsimp only); omega, by (try dsimp only); omega, by (try dsimp only); omega, by (try dsimp only); omega, by (try dsimp only); omega⟩⟩
            · have hq137 := i_ne hq137
              unfold f_Mo_single_181
              exact ⟨_, rfl, Wq17, F136, ⟨bf2q17, bt2q17, h0ZSq17, h1ZSq17, by (try dsimp only); omega, by (try dsimp only); omega, by (try dsimp only); omega, by (try dsimp only); omega, by (try dsimp only); omega, by (try dsimp only); omega⟩⟩
          · have := li_8
            have hq124 := i_nlt hq124
            refine wb e45 ?_
            refine wb e47 ?_
            obtain ⟨v42, ev42, _⟩ := ga_76 Wq32 tv45 (i := bt2q6) (by omega) (by omega)
            refine wb ev42 ?_
            obtain ⟨w44, ew44⟩ := go_64 Wq32 t_a0
            refine wb ew44 ?_
            have := li_6
            obtain ⟨q43, eq43, Wq43, fq43, pbZSfq43⟩ := p_Mo_refuse hn Wq32 (a1 := 6) (a2 := v42) t_a0 (by omega) (by omega) (by omega) (by omega) h0ZStq32
            refine wb eq43 ?_
            have e196 := (Zfr.gi fq43 t_a0 (by decide)).trans e42
            have e197 := (Zfr.gr fq43 t_a0 (by decide)).trans e43
            have e198 := (Zfr.ai fq43 tv1 (by decide)).trans e44
            have e199 := (Zfr.ai fq43 tv45 (by decide)).trans e46
            have e200 := (Zfr.gi fq43 t_a0 (by decide)).trans e47
            have e201 := (Zfr.gr fq43 t_a0 (by decide)).trans e48
            have e202 := (Zfr.ai fq43 tkkq10 (by decide)).trans e49
            have e203 := (Zfr.gr fq43 t_a0 (by decide)).trans ev34
            have e204 := (Zfr.ai fq43 tv34 (by decide)).trans ev36
            have e205 := (Zfr.ai fq43 tv45 (by decide)).trans ev42
            have k206 := TkN_fr k50 fq43 t_a0 Wq32 (by decide)
            have F207 := Zfr.tr F51 fq43 (by decide)
            obtain ⟨bf2q43, h0ZSfq43, r0ZSfq43, r1ZSfq43⟩ := pbZSfq43
            unfold f_Mo_single_123
            obtain ⟨w18, ew18⟩ := go_64 Wq43 t_a0
            refine wb ew18 ?_
            obtain ⟨q17, eq17, Wq17, fq17, pbZSq17⟩ := p_Mo_pass hn Wq43  t_a0 (by omega) (by omega) (by omega) (by omega) h0ZSfq43 e200
            refine wb eq17 ?_
            have e210 := (Zfr.gi fq17 t_a0 (by decide)).trans e196
            have e211 := (Zfr.gr fq17 t_a0 (by decide)).trans e197
            have e212 := (Zfr.ai fq17 tv1 (by decide)).trans e198
            have e213 := (Zfr.ai fq17 tv45 (by decide)).trans e199
            have e214 := (Zfr.gr fq17 t_a0 (by decide)).trans e201
            have e215 := (Zfr.ai fq17 tkkq10 (by decide)).trans e202
            have e216 := (Zfr.gr fq17 t_a0 (by decide)).trans e203
            have e217 := (Zfr.ai fq17 tv34 (by decide)).trans e204
            have e218 := (Zfr.ai fq17 tv45 (by decide)).trans e205
            have k219 := TkN_fr k206 fq17 t_a0 Wq43 (by decide)
            have F220 := Zfr.tr F207 fq17 (by decide)
            have := li_1
            obtain ⟨bf2q17, bt2q17, h0ZSq17, h1ZSq17, r0ZSq17, r1ZSq17, r2ZSq17, r3ZSq17, r4ZSq17, r5ZSq17⟩ := pbZSq17
            refine wb h0ZSq17 ?_
            refine wi (fun hq221 => ?_) (fun hq221 => ?_)
            · have hq221 := i_eq hq221
              obtain ⟨v21, ev21, tv21⟩ := gf_64_40 Wq17 t_a0
              refine wb ev21 ?_
              have := i_mull (a := 16) (b := a1) (n := 16) li_16 (by omega) (by omega)
              have := i_add (a := (16 * a1)) (b := v2) (by omega) (by omega)
              obtain ⟨c22, ec22, Wc22, fc22, gc22⟩ := pa_93 Wq17 tv21 (i := ((16 * a1) + v2)) (by omega) (by omega) (x := v36) (rgi (by omega) (by omega))
              refine wb ec22 ?_
              have e222 := (Zfr.gi fc22 t_a0 (by decide)).trans e210
              have e223 := (Zfr.gr fc22 t_a0 (by decide)).trans e211
              have e224 := (Zfr.ai fc22 tv1 (by decide)).trans e212
              have e225 := (Zfr.ai fc22 tv45 (by decide)).trans e213
              have e226 := (Zfr.gr fc22 t_a0 (by decide)).trans e214
              have e227 := (Zfr.ai fc22 tkkq10 (by decide)).trans e215
              have e228 := (Zfr.gr fc22 t_a0 (by decide)).trans e216
              have e229 := (Zfr.ai fc22 tv34 (by decide)).trans e217
              have e230 := (Zfr.ai fc22 tv45 (by decide)).trans e218
              have e231 := (Zfr.gi fc22 t_a0 (by decide)).trans h0ZSq17
              have e232 := (Zfr.gi fc22 t_a0 (by decide)).trans h1ZSq17
              have k233 := TkN_fr k219 fc22 t_a0 Wq17 (by decide)
              have F234 := Zfr.tr F220 fc22 (by decide)
              obtain ⟨v23, ev23, tv23⟩ := gf_64_41 Wc22 t_a0
              refine wb ev23 ?_
              have := nb_id (x := q6.1) (by omega) (by omega)
              obtain ⟨c24, ec24, Wc24, fc24, gc24⟩ := pa_94 Wc22 tv23 (i := ((16 * a1) + v2)) (by omega) (by omega) (x := (vp_nar .boolean q6.1)) (rgi (by omega) (by omega))
              refine wb ec24 ?_
              have e235 := (Zfr.gi fc24 t_a0 (by decide)).trans e222
              have e236 := (Zfr.gr fc24 t_a0 (by decide)).trans e223
              have e237 := (Zfr.ai fc24 tv1 (by decide)).trans e224
              have e238 := (Zfr.ai fc24 tv45 (by decide)).trans e225
              have e239 := (Zfr.gr fc24 t_a0 (by decide)).trans e226
              have e240 := (Zfr.ai fc24 tkkq10 (by decide)).trans e227
              have e241 := (Zfr.gr fc24 t_a0 (by decide)).trans e228
              have e242 := (Zfr.ai fc24 tv34 (by decide)).trans e229
              have e243 := (Zfr.ai fc24 tv45 (by decide)).trans e230
              have e244 := (Zfr.gi fc24 t_a0 (by decide)).trans e231
              have e245 := (Zfr.gi fc24 t_a0 (by decide)).trans e232
              have e246 := (Zfr.ai fc24 tv21 (by decide)).trans gc22
              have k247 := TkN_fr k233 fc24 t_a0 Wc22 (by decide)
              have F248 := Zfr.tr F234 fc24 (by decide)
              refine wb e236 ?_
              refine wb e237 ?_
              have := i_add (a := v2) (b := 1) (by omega) (by omega)
              obtain ⟨c27, ec27, Wc27, fc27, gc27⟩ := pa_92 Wc24 tv1 (i := a1) (by omega) (by omega) (x := (v2 + 1)) (rgi (by omega) (by omega))
              refine wb ec27 ?_
              have e249 := (Zfr.gi fc27 t_a0 (by decide)).trans e235
              have e250 := (Zfr.gr fc27 t_a0 (by decide)).trans e236
              have e251 := (Zfr.ai fc27 tv45 (by decide)).trans e238
              have e252 := (Zfr.gr fc27 t_a0 (by decide)).trans e239
              have e253 := (Zfr.ai fc27 tkkq10 (by decide)).trans e240
              have e254 := (Zfr.gr fc27 t_a0 (by decide)).trans e241
              have e255 := (Zfr.ai fc27 tv34 (by decide)).trans e242
              have e256 := (Zfr.ai fc27 tv45 (by decide)).trans e243
              have e257 := (Zfr.gi fc27 t_a0 (by decide)).trans e244
              have e258 := (Zfr.gi fc27 t_a0 (by decide)).trans e245
              have e259 := (Zfr.ai fc27 tv21 (by decide)).trans e246
              have e260 := (Zfr.ai fc27 tv23 (by decide)).trans gc24
              have k261 := TkN_fr k247 fc27 t_a0 Wc24 (by decide)
              have F262 := Zfr.tr F248 fc27 (by decide)
              obtain ⟨w29, ew29⟩ := go_64 Wc27 t_a0
              refine wb ew29 ?_
              have := i_shl16 (b := v2) (by omega) (by omega)
              obtain ⟨q28, eq28, Wq28, fq28, pbZSzq28⟩ := p_Mo_step hn Wc27 (a1 := a1) (a2 := 0) (a3 := ((1 : Int32) <<< (v2 &&& 31))) (a4 := ((1 : Int32) <<< (v2 &&& 31))) t_a0 (by omega) (by omega) (by omega) (by omega) (by omega) (by omega) (by omega) (by omega) (by omega) (by omega) e257 e258 e249
              refine wb eq28 ?_
              have e266 := (Zfr.gi fq28 t_a0 (by decide)).trans e249
              have e267 := (Zfr.gr fq28 t_a0 (by decide)).trans e250
              have e268 := (Zfr.ai fq28 tv45 (by decide)).trans e251
              have e269 := (Zfr.gr fq28 t_a0 (by decide)).trans e252
              have e270 := (Zfr.ai fq28 tkkq10 (by decide)).trans e253
              have e271 := (Zfr.gr fq28 t_a0 (by decide)).trans e254
              have e272 := (Zfr.ai fq28 tv34 (by decide)).trans e255
              have e273 := (Zfr.ai fq28 tv45 (by decide)).trans e256
              have e274 := (Zfr.ai fq28 tv21 (by decide)).trans e259
              have e275 := (Zfr.ai fq28 tv23 (by decide)).trans e260
              have e276 := (Zfr.ai fq28 tv1 (by decide)).trans gc27
              have k277 := TkN_fr k261 fq28 t_a0 Wc27 (by decide)
              have F278 := Zfr.tr F262 fq28 (by decide)
              obtain ⟨bf2q28, bt2q28, h0ZSzq28, h1ZSzq28, r0ZSzq28, r1ZSzq28, r2ZSzq28, r3ZSzq28, r4ZSzq28, r5ZSzq28⟩ := pbZSzq28
              unfold f_Mo_single_181
              exact ⟨_, rfl, Wq28, F278, ⟨bf2q28, bt2q28, h0ZSzq28, h1ZSzq28, by (try dsimp only); omega, by (try dsimp only); omega, by (try dsimp only); omega, by (try dsimp only); omega, by (try dsimp only); omega, by (try dsimp only); omega⟩⟩
            · have hq221 := i_ne hq221
              unfold f_Mo_single_181
              exact ⟨_, rfl, Wq17, F220, ⟨bf2q17, bt2q17, h0ZSq17, h1ZSq17, by (try dsimp only); omega, by (try dsimp only); omega, by (try dsimp only); omega, by (try dsimp only); omega, by (try dsimp only); omega, by (try dsimp only); omega⟩⟩
      · have := li_5
        have := i_ge q10.1
        have := i_up q10.1
        have hq39 := i_ne hq39
        refine wb h0Zkdq10 ?_
        refine wb e36 ?_
        refine wb h1Zkdq10 ?_
        refine wi (fun hq283 => ?_) (fun hq283 => ?_)
        · have := li_95
          have hq283 := i_eq hq283
          unfold f_Mo_single_123
          obtain ⟨w18, ew18⟩ := go_64 Wq10 t_a0
          refine wb ew18 ?_
          obtain ⟨q17, eq17, Wq17, fq17, pbZSq17⟩ := p_Mo_pass hn Wq10  t_a0 (by omega) (by omega) (by omega) (by omega) h0ZScq10 e36
          refine wb eq17 ?_
          have e286 := (Zfr.gi fq17 t_a0 (by decide)).trans e31
          have e287 := (Zfr.gr fq17 t_a0 (by decide)).trans e32
          have e288 := (Zfr.ai fq17 tv1 (by decide)).trans e33
          have e289 := (Zfr.ai fq17 tv45 (by decide)).trans e35
          have e290 := (Zfr.gr fq17 t_a0 (by decide)).trans h0Zkdq10
          have e291 := (Zfr.ai fq17 tkkq10 (by decide)).trans h1Zkdq10
          have k292 := TkN_fr k37 fq17 t_a0 Wq10 (by decide)
          have F293 := Zfr.tr F38 fq17 (by decide)
          have := li_1
          obtain ⟨bf2q17, bt2q17, h0ZSq17, h1ZSq17, r0ZSq17, r1ZSq17, r2ZSq17, r3ZSq17, r4ZSq17, r5ZSq17⟩ := pbZSq17
          refine wb h0ZSq17 ?_
          refine wi (fun hq294 => ?_) (fun hq294 => ?_)
          · have hq294 := i_eq hq294
            obtain ⟨v21, ev21, tv21⟩ := gf_64_40 Wq17 t_a0
            refine wb ev21 ?_
            have := i_mull (a := 16) (b := a1) (n := 16) li_16 (by omega) (by omega)
            have := i_add (a := (16 * a1)) (b := v2) (by omega) (by omega)
            have := li_12
            obtain ⟨c22, ec22, Wc22, fc22, gc22⟩ := pa_93 Wq17 tv21 (i := ((16 * a1) + v2)) (by omega) (by omega) (x := 12) (rgi (by omega) (by omega))
            refine wb ec22 ?_
            have e295 := (Zfr.gi fc22 t_a0 (by decide)).trans e286
            have e296 := (Zfr.gr fc22 t_a0 (by decide)).trans e287
            have e297 := (Zfr.ai fc22 tv1 (by decide)).trans e288
            have e298 := (Zfr.ai fc22 tv45 (by decide)).trans e289
            have e299 := (Zfr.gr fc22 t_a0 (by decide)).trans e290
            have e300 := (Zfr.ai fc22 tkkq10 (by decide)).trans e291
            have e301 := (Zfr.gi fc22 t_a0 (by decide)).trans h0ZSq17
            have e302 := (Zfr.gi fc22 t_a0 (by decide)).trans h1ZSq17
            have k303 := TkN_fr k292 fc22 t_a0 Wq17 (by decide)
            have F304 := Zfr.tr F293 fc22 (by decide)
            obtain ⟨v23, ev23, tv23⟩ := gf_64_41 Wc22 t_a0
            refine wb ev23 ?_
            have := nb_id (x := q6.1) (by omega) (by omega)
            obtain ⟨c24, ec24, Wc24, fc24, gc24⟩ := pa_94 Wc22 tv23 (i := ((16 * a1) + v2)) (by omega) (by omega) (x := (vp_nar .boolean q6.1)) (rgi (by omega) (by omega))
            refine wb ec24 ?_
            have e305 := (Zfr.gi fc24 t_a0 (by decide)).trans e295
            have e306 := (Zfr.gr fc24 t_a0 (by decide)).trans e296
            have e307 := (Zfr.ai fc24 tv1 (by decide)).trans e297
            have e308 := (Zfr.ai fc24 tv45 (by decide)).trans e298
            have e309 := (Zfr.gr fc24 t_a0 (by decide)).trans e299
            have e310 := (Zfr.ai fc24 tkkq10 (by decide)).trans e300
            have e311 := (Zfr.gi fc24 t_a0 (by decide)).trans e301
            have e312 := (Zfr.gi fc24 t_a0 (by decide)).trans e302
            have e313 := (Zfr.ai fc24 tv21 (by decide)).trans gc22
            have k314 := TkN_fr k303 fc24 t_a0 Wc22 (by decide)
            have F315 := Zfr.tr F304 fc24 (by decide)
            refine wb e306 ?_
            refine wb e307 ?_
            have := i_add (a := v2) (b := 1) (by omega) (by omega)
            obtain ⟨c27, ec27, Wc27, fc27, gc27⟩ := pa_92 Wc24 tv1 (i := a1) (by omega) (by omega) (x := (v2 + 1)) (rgi (by omega) (by omega))
            refine wb ec27 ?_
            have e316 := (Zfr.gi fc27 t_a0 (by decide)).trans e305
            have e317 := (Zfr.gr fc27 t_a0 (by decide)).trans e306
            have e318 := (Zfr.ai fc27 tv45 (by decide)).trans e308
            have e319 := (Zfr.gr fc27 t_a0 (by decide)).trans e309
            have e320 := (Zfr.ai fc27 tkkq10 (by decide)).trans e310
            have e321 := (Zfr.gi fc27 t_a0 (by decide)).trans e311
            have e322 := (Zfr.gi fc27 t_a0 (by decide)).trans e312
            have e323 := (Zfr.ai fc27 tv21 (by decide)).trans e313
            have e324 := (Zfr.ai fc27 tv23 (by decide)).trans gc24
            have k325 := TkN_fr k314 fc27 t_a0 Wc24 (by decide)
            have F326 := Zfr.tr F315 fc27 (by decide)
            obtain ⟨w29, ew29⟩ := go_64 Wc27 t_a0
            refine wb ew29 ?_
            have := i_shl16 (b := v2) (by omega) (by omega)
            obtain ⟨q28, eq28, Wq28, fq28, pbZSzq28⟩ := p_Mo_step hn Wc27 (a1 := a1) (a2 := 0) (a3 := ((1 : Int32) <<< (v2 &&& 31))) (a4 := ((1 : Int32) <<< (v2 &&& 31))) t_a0 (by omega) (by omega) (by omega) (by omega) (by omega) (by omega) (by omega) (by omega) (by omega) (by omega) e321 e322 e316
            refine wb eq28 ?_
            have e330 := (Zfr.gi fq28 t_a0 (by decide)).trans e316
            have e331 := (Zfr.gr fq28 t_a0 (by decide)).trans e317
            have e332 := (Zfr.ai fq28 tv45 (by decide)).trans e318
            have e333 := (Zfr.gr fq28 t_a0 (by decide)).trans e319
            have e334 := (Zfr.ai fq28 tkkq10 (by decide)).trans e320
            have e335 := (Zfr.ai fq28 tv21 (by decide)).trans e323
            have e336 := (Zfr.ai fq28 tv23 (by decide)).trans e324
            have e337 := (Zfr.ai fq28 tv1 (by decide)).trans gc27
            have k338 := TkN_fr k325 fq28 t_a0 Wc27 (by decide)
            have F339 := Zfr.tr F326 fq28 (by decide)
            obtain ⟨bf2q28, bt2q28, h0ZSzq28, h1ZSzq28, r0ZSzq28, r1ZSzq28, r2ZSzq28, r3ZSzq28, r4ZSzq28, r5ZSzq28⟩ := pbZSzq28
            unfold f_Mo_single_181
            exact ⟨_, rfl, Wq28, F339, ⟨bf2q28, bt2q28, h0ZSzq28, h1ZSzq28, by (try dsimp only); omega, by (try dsimp only); omega, by (try dsimp only); omega, by (try dsimp only); omega, by (try dsimp only); omega, by (try dsimp only); omega⟩⟩
          · have hq294 := i_ne hq294
            unfold f_Mo_single_181
            exact ⟨_, rfl, Wq17, F293, ⟨bf2q17, bt2q17, h0ZSq17, h1ZSq17, by (try dsimp only); omega, by (try dsimp only); omega, by (try dsimp only); omega, by (try dsimp only); omega, by (try dsimp only); omega, by (try dsimp only); omega⟩⟩
        · have := li_95
          have hq283 := i_ne hq283
          obtain ⟨w31, ew31⟩ := go_64 Wq10 t_a0
          refine wb ew31 ?_
          obtain ⟨q30, eq30, Wq30, fq30, pbZSfq30⟩ := p_Mo_wrong hn Wq10  t_a0 (by omega) (by omega) (by omega) (by omega) h0ZScq10 e36
          refine wb eq30 ?_
          have e346 := (Zfr.gi fq30 t_a0 (by decide)).trans e31
          have e347 := (Zfr.gr fq30 t_a0 (by decide)).trans e32
          have e348 := (Zfr.ai fq30 tv1 (by decide)).trans e33
          have e349 := (Zfr.ai fq30 tv45 (by decide)).trans e35
          have e350 := (Zfr.gi fq30 t_a0 (by decide)).trans e36
          have e351 := (Zfr.gr fq30 t_a0 (by decide)).trans h0Zkdq10
          have e352 := (Zfr.ai fq30 tkkq10 (by decide)).trans h1Zkdq10
          have k353 := TkN_fr k37 fq30 t_a0 Wq10 (by decide)
          have F354 := Zfr.tr F38 fq30 (by decide)
          obtain ⟨bf2q30, h0ZSfq30, r0ZSfq30, r1ZSfq30⟩ := pbZSfq30
          unfold f_Mo_single_123
          obtain ⟨w18, ew18⟩ := go_64 Wq30 t_a0
          refine wb ew18 ?_
          obtain ⟨q17, eq17, Wq17, fq17, pbZSq17⟩ := p_Mo_pass hn Wq30  t_a0 (by omega) (by omega) (by omega) (by omega) h0ZSfq30 e350
          refine wb eq17 ?_
          have e357 := (Zfr.gi fq17 t_a0 (by decide)).trans e346
          have e358 := (Zfr.gr fq17 t_a0 (by decide)).trans e347
          have e359 := (Zfr.ai fq17 tv1 (by decide)).trans e348
          have e360 := (Zfr.ai fq17 tv45 (by decide)).trans e349
          have e361 := (Zfr.gr fq17 t_a0 (by decide)).trans e351
          have e362 := (Zfr.ai fq17 tkkq10 (by decide)).trans e352
          have k363 := TkN_fr k353 fq17 t_a0 Wq30 (by decide)
          have F364 := Zfr.tr F354 fq17 (by decide)
          have := li_1
          obtain ⟨bf2q17, bt2q17, h0ZSq17, h1ZSq17, r0ZSq17, r1ZSq17, r2ZSq17, r3ZSq17, r4ZSq17, r5ZSq17⟩ := pbZSq17
          refine wb h0ZSq17 ?_
          refine wi (fun hq365 => ?_) (fun hq365 => ?_)
          · have hq365 := i_eq hq365
            obtain ⟨v21, ev21, tv21⟩ := gf_64_40 Wq17 t_a0
            refine wb ev21 ?_
            have := i_mull (a := 16) (b := a1) (n := 16) li_16 (by omega) (by omega)
            have := i_add (a := (16 * a1)) (b := v2) (by omega) (by omega)
            have := li_12
            obtain ⟨c22, ec22, Wc22, fc22, gc22⟩ := pa_93 Wq17 tv21 (i := ((16 * a1) + v2)) (by omega) (by omega) (x := 12) (rgi (by omega) (by omega))
            refine wb ec22 ?_
            have e366 := (Zfr.gi fc22 t_a0 (by decide)).trans e357
            have e367 := (Zfr.gr fc22 t_a0 (by decide)).trans e358
            have e368 := (Zfr.ai fc22 tv1 (by decide)).trans e359
            have e369 := (Zfr.ai fc22 tv45 (by decide)).trans e360
            have e370 := (Zfr.gr fc22 t_a0 (by decide)).trans e361
            have e371 := (Zfr.ai fc22 tkkq10 (by decide)).trans e362
            have e372 := (Zfr.gi fc22 t_a0 (by decide)).trans h0ZSq17
            have e373 := (Zfr.gi fc22 t_a0 (by decide)).trans h1ZSq17
            have k374 := TkN_fr k363 fc22 t_a0 Wq17 (by decide)
            have F375 := Zfr.tr F364 fc22 (by decide)
            obtain ⟨v23, ev23, tv23⟩ := gf_64_41 Wc22 t_a0
            refine wb ev23 ?_
            have := nb_id (x := q6.1) (by omega) (by omega)
            obtain ⟨c24, ec24, Wc24, fc24, gc24⟩ := pa_94 Wc22 tv23 (i := ((16 * a1) + v2)) (by omega) (by omega) (x := (vp_nar .boolean q6.1)) (rgi (by omega) (by omega))
            refine wb ec24 ?_
            have e376 := (Zfr.gi fc24 t_a0 (by decide)).trans e366
            have e377 := (Zfr.gr fc24 t_a0 (by decide)).trans e367
            have e378 := (Zfr.ai fc24 tv1 (by decide)).trans e368
            have e379 := (Zfr.ai fc24 tv45 (by decide)).trans e369
            have e380 := (Zfr.gr fc24 t_a0 (by decide)).trans e370
            have e381 := (Zfr.ai fc24 tkkq10 (by decide)).trans e371
            have e382 := (Zfr.gi fc24 t_a0 (by decide)).trans e372
            have e383 := (Zfr.gi fc24 t_a0 (by decide)).trans e373
            have e384 := (Zfr.ai fc24 tv21 (by decide)).trans gc22
            have k385 := TkN_fr k374 fc24 t_a0 Wc22 (by decide)
            have F386 := Zfr.tr F375 fc24 (by decide)
            refine wb e377 ?_
            refine wb e378 ?_
            have := i_add (a := v2) (b := 1) (by omega) (by omega)
            obtain ⟨c27, ec27, Wc27, fc27, gc27⟩ := pa_92 Wc24 tv1 (i := a1) (by omega) (by omega) (x := (v2 + 1)) (rgi (by omega) (by omega))
            refine wb ec27 ?_
            have e387 := (Zfr.gi fc27 t_a0 (by decide)).trans e376
            have e388 := (Zfr.gr fc27 t_a0 (by decide)).trans e377
            have e389 := (Zfr.ai fc27 tv45 (by decide)).trans e379
            have e390 := (Zfr.gr fc27 t_a0 (by decide)).trans e380
            have e391 := (Zfr.ai fc27 tkkq10 (by decide)).trans e381
            have e392 := (Zfr.gi fc27 t_a0 (by decide)).trans e382
            have e393 := (Zfr.gi fc27 t_a0 (by decide)).trans e383
            have e394 := (Zfr.ai fc27 tv21 (by decide)).trans e384
            have e395 := (Zfr.ai fc27 tv23 (by decide)).trans gc24
            have k396 := TkN_fr k385 fc27 t_a0 Wc24 (by decide)
            have F397 := Zfr.tr F386 fc27 (by decide)
            obtain ⟨w29, ew29⟩ := go_64 Wc27 t_a0
            refine wb ew29 ?_
            have := i_shl16 (b := v2) (by omega) (by omega)
            obtain ⟨q28, eq28, Wq28, fq28, pbZSzq28⟩ := p_Mo_step hn Wc27 (a1 := a1) (a2 := 0) (a3 := ((1 : Int32) <<< (v2 &&& 31))) (a4 := ((1 : Int32) <<< (v2 &&& 31))) t_a0 (by omega) (by omega) (by omega) (by omega) (by omega) (by omega) (by omega) (by omega) (by omega) (by omega) e392 e393 e387
            refine wb eq28 ?_
            have e401 := (Zfr.gi fq28 t_a0 (by decide)).trans e387
            have e402 := (Zfr.gr fq28 t_a0 (by decide)).trans e388
            have e403 := (Zfr.ai fq28 tv45 (by decide)).trans e389
            have e404 := (Zfr.gr fq28 t_a0 (by decide)).trans e390
            have e405 := (Zfr.ai fq28 tkkq10 (by decide)).trans e391
            have e406 := (Zfr.ai fq28 tv21 (by decide)).trans e394
            have e407 := (Zfr.ai fq28 tv23 (by decide)).trans e395
            have e408 := (Zfr.ai fq28 tv1 (by decide)).trans gc27
            have k409 := TkN_fr k396 fq28 t_a0 Wc27 (by decide)
            have F410 := Zfr.tr F397 fq28 (by decide)
            obtain ⟨bf2q28, bt2q28, h0ZSzq28, h1ZSzq28, r0ZSzq28, r1ZSzq28, r2ZSzq28, r3ZSzq28, r4ZSzq28, r5ZSzq28⟩ := pbZSzq28
            unfold f_Mo_single_181
            exact ⟨_, rfl, Wq28, F410, ⟨bf2q28, bt2q28, h0ZSzq28, h1ZSzq28, by (try dsimp only); omega, by (try dsimp only); omega, by (try dsimp only); omega, by (try dsimp only); omega, by (try dsimp only); omega, by (try dsimp only); omega⟩⟩
          · have hq365 := i_ne hq365
            unfold f_Mo_single_181
            exact ⟨_, rfl, Wq17, F364, ⟨bf2q17, bt2q17, h0ZSq17, h1ZSq17, by (try dsimp only); omega, by (try dsimp only); omega, by (try dsimp only); omega, by (try dsimp only); omega, by (try dsimp only); omega, by (try dsimp only); omega⟩⟩
    · have := li_0
      have hq28 := i_ne hq28
      have := li_1
      exact ⟨_, rfl, Wq6, F27, ⟨bf2q6, bt2q6, h0ZSkq6, h1ZSkq6, by (try dsimp only); omega, by (try dsimp only); omega, by (try dsimp only); omega, by (try dsimp only); omega, by (try dsimp only); omega, by (try dsimp only); omega⟩⟩
  · have := li_16
    have hq9 := i_ne hq9
    unfold f_Mo_single_31
    obtain ⟨w7, ew7⟩ := go_64 Wq3 t_a0
    refine wb ew7 ?_
    have := li_94
    obtain ⟨q6, eq6, Wq6, fq6, pl0q6, pu0q6, pbZSkq6⟩ := p_Mo_takes hn Wq3 (a1 := 94) t_a0 (by omega) (by omega) (by omega) (by omega) h0ZStq3 e3
    refine wb eq6 ?_
    have e419 := (Zfr.gi fq6 t_a0 (by decide)).trans e4
    have e420 := (Zfr.gr fq6 t_a0 (by decide)).trans e5
    have e421 := (Zfr.ai fq6 tv1 (by decide)).trans e6
    have k422 := TkN_fr k7 fq6 t_a0 Wq3 (by decide)
    have F423 := Zfr.tr F8 fq6 (by decide)
    obtain ⟨bf2q6, bt2q6, h0ZSkq6, h1ZSkq6, r0ZSkq6, r1ZSkq6, r2ZSkq6, r3ZSkq6, r4ZSkq6, r5ZSkq6, r6ZSkq6⟩ := pbZSkq6
    refine wb h0ZSkq6 ?_
    refine wi (fun hq424 => ?_) (fun hq424 => ?_)
    · have := li_0
      have hq424 := i_eq hq424
      obtain ⟨w11, ew11⟩ := go_64 Wq6 t_a0
      refine wb ew11 ?_
      obtain ⟨q10, eq10, Wq10, fq10, pbZScq10, pbZkdq10⟩ := p_Mo_kind hn Wq6  t_a0 (by omega) (by omega) (by omega) (by omega) h0ZSkq6 h1ZSkq6
      refine wb eq10 ?_
      have e427 := (Zfr.gi fq10 t_a0 (by decide)).trans e419
      have e428 := (Zfr.gr fq10 t_a0 (by decide)).trans e420
      have e429 := (Zfr.ai fq10 tv1 (by decide)).trans e421
      have e430 := (Zfr.gi fq10 t_a0 (by decide)).trans h1ZSkq6
      have k431 := TkN_fr k422 fq10 t_a0 Wq6 (by decide)
      have F432 := Zfr.tr F423 fq10 (by decide)
      obtain ⟨bf2q10, h0ZScq10, r0ZScq10, r1ZScq10, r2ZScq10, r3ZScq10⟩ := pbZScq10
      obtain ⟨bkkq10, h0Zkdq10, h1Zkdq10, tkkq10⟩ := pbZkdq10
      refine wi (fun hq433 => ?_) (fun hq433 => ?_)
      · have := li_5
        have := i_ge q10.1
        have := i_up q10.1
        have hq433 := i_eq hq433
        obtain ⟨w33, ew33⟩ := go_64 Wq10 t_a0
        refine wb ew33 ?_
        obtain ⟨q32, eq32, Wq32, fq32, pbZStq32⟩ := p_Mo_stands hn Wq10  t_a0 (by omega) (by omega) (by omega) (by omega) h0ZScq10 e430
        refine wb eq32 ?_
        have e436 := (Zfr.gi fq32 t_a0 (by decide)).trans e427
        have e437 := (Zfr.gr fq32 t_a0 (by decide)).trans e428
        have e438 := (Zfr.ai fq32 tv1 (by decide)).trans e429
        have e439 := (Zfr.gi fq32 t_a0 (by decide)).trans e430
        have e440 := (Zfr.gr fq32 t_a0 (by decide)).trans h0Zkdq10
        have e441 := (Zfr.ai fq32 tkkq10 (by decide)).trans h1Zkdq10
        have k442 := TkN_fr k431 fq32 t_a0 Wq10 (by decide)
        have F443 := Zfr.tr F432 fq32 (by decide)
        obtain ⟨bf2q32, h0ZStq32, r0ZStq32, r1ZStq32, r2ZStq32⟩ := pbZStq32
        obtain ⟨v34, ev34, tv34⟩ := gf_64_15 Wq32 t_a0
        refine wb ev34 ?_
        refine wb e439 ?_
        obtain ⟨v36, ev36, _⟩ := ga_75 Wq32 tv34 (i := bt2q6) (by omega) (by omega)
        have ht444 := TkM_at (k442 _ _ e440 ev34) e441 ev36
        have := tkr5 ht444 (by omega)
        refine wb ev36 ?_
        obtain ⟨v37, ev37, lv37, uv37⟩ := gf_64_56 Wq32 t_a0
        refine wb ev37 ?_
        refine wi (fun hq445 => ?_) (fun hq445 => ?_)
        · have hq445 := i_le hq445
          unfold f_Mo_single_123
          obtain ⟨w18, ew18⟩ := go_64 Wq32 t_a0
          refine wb ew18 ?_
          obtain ⟨q17, eq17, Wq17, fq17, pbZSq17⟩ := p_Mo_pass hn Wq32  t_a0 (by omega) (by omega) (by omega) (by omega) h0ZStq32 e439
          refine wb eq17 ?_
          have e448 := (Zfr.gi fq17 t_a0 (by decide)).trans e436
          have e449 := (Zfr.gr fq17 t_a0 (by decide)).trans e437
          have e450 := (Zfr.ai fq17 tv1 (by decide)).trans e438
          have e451 := (Zfr.gr fq17 t_a0 (by decide)).trans e440
          have e452 := (Zfr.ai fq17 tkkq10 (by decide)).trans e441
          have e453 := (Zfr.gr fq17 t_a0 (by decide)).trans ev34
          have e454 := (Zfr.ai fq17 tv34 (by decide)).trans ev36
          have k455 := TkN_fr k442 fq17 t_a0 Wq32 (by decide)
          have F456 := Zfr.tr F443 fq17 (by decide)
          have := li_1
          obtain ⟨bf2q17, bt2q17, h0ZSq17, h1ZSq17, r0ZSq17, r1ZSq17, r2ZSq17, r3ZSq17, r4ZSq17, r5ZSq17⟩ := pbZSq17
          refine wb h0ZSq17 ?_
          refine wi (fun hq457 => ?_) (fun hq457 => ?_)
          · have hq457 := i_eq hq457
            obtain ⟨v21, ev21, tv21⟩ := gf_64_40 Wq17 t_a0
            refine wb ev21 ?_
            have := i_mull (a := 16) (b := a1) (n := 16) li_16 (by omega) (by omega)
            have := i_add (a := (16 * a1)) (b := v2) (by omega) (by omega)
            obtain ⟨c22, ec22, Wc22, fc22, gc22⟩ := pa_93 Wq17 tv21 (i := ((16 * a1) + v2)) (by omega) (by omega) (x := v36) (rgi (by omega) (by omega))
            refine wb ec22 ?_
            have e458 := (Zfr.gi fc22 t_a0 (by decide)).trans e448
            have e459 := (Zfr.gr fc22 t_a0 (by decide)).trans e449
            have e460 := (Zfr.ai fc22 tv1 (by decide)).trans e450
            have e461 := (Zfr.gr fc22 t_a0 (by decide)).trans e451
            have e462 := (Zfr.ai fc22 tkkq10 (by decide)).trans e452
            have e463 := (Zfr.gr fc22 t_a0 (by decide)).trans e453
            have e464 := (Zfr.ai fc22 tv34 (by decide)).trans e454
            have e465 := (Zfr.gi fc22 t_a0 (by decide)).trans h0ZSq17
            have e466 := (Zfr.gi fc22 t_a0 (by decide)).trans h1ZSq17
            have k467 := TkN_fr k455 fc22 t_a0 Wq17 (by decide)
            have F468 := Zfr.tr F456 fc22 (by decide)
            obtain ⟨v23, ev23, tv23⟩ := gf_64_41 Wc22 t_a0
            refine wb ev23 ?_
            have := nb_id (x := q6.1) (by omega) (by omega)
            obtain ⟨c24, ec24, Wc24, fc24, gc24⟩ := pa_94 Wc22 tv23 (i := ((16 * a1) + v2)) (by omega) (by omega) (x := (vp_nar .boolean q6.1)) (rgi (by omega) (by omega))
            refine wb ec24 ?_
            have e469 := (Zfr.gi fc24 t_a0 (by decide)).trans e458
            have e470 := (Zfr.gr fc24 t_a0 (by decide)).trans e459
            have e471 := (Zfr.ai fc24 tv1 (by decide)).trans e460
            have e472 := (Zfr.gr fc24 t_a0 (by decide)).trans e461
            have e473 := (Zfr.ai fc24 tkkq10 (by decide)).trans e462
            have e474 := (Zfr.gr fc24 t_a0 (by decide)).trans e463
            have e475 := (Zfr.ai fc24 tv34 (by decide)).trans e464
            have e476 := (Zfr.gi fc24 t_a0 (by decide)).trans e465
            have e477 := (Zfr.gi fc24 t_a0 (by decide)).trans e466
            have e478 := (Zfr.ai fc24 tv21 (by decide)).trans gc22
            have k479 := TkN_fr k467 fc24 t_a0 Wc22 (by decide)
            have F480 := Zfr.tr F468 fc24 (by decide)
            refine wb e470 ?_
            refine wb e471 ?_
            have := i_add (a := v2) (b := 1) (by omega) (by omega)
            obtain ⟨c27, ec27, Wc27, fc27, gc27⟩ := pa_92 Wc24 tv1 (i := a1) (by omega) (by omega) (x := (v2 + 1)) (rgi (by omega) (by omega))
            refine wb ec27 ?_
            have e481 := (Zfr.gi fc27 t_a0 (by decide)).trans e469
            have e482 := (Zfr.gr fc27 t_a0 (by decide)).trans e470
            have e483 := (Zfr.gr fc27 t_a0 (by decide)).trans e472
            have e484 := (Zfr.ai fc27 tkkq10 (by decide)).trans e473
            have e485 := (Zfr.gr fc27 t_a0 (by decide)).trans e474
            have e486 := (Zfr.ai fc27 tv34 (by decide)).trans e475
            have e487 := (Zfr.gi fc27 t_a0 (by decide)).trans e476
            have e488 := (Zfr.gi fc27 t_a0 (by decide)).trans e477
            have e489 := (Zfr.ai fc27 tv21 (by decide)).trans e478
            have e490 := (Zfr.ai fc27 tv23 (by decide)).trans gc24
            have k491 := TkN_fr k479 fc27 t_a0 Wc24 (by decide)
            have F492 := Zfr.tr F480 fc27 (by decide)
            obtain ⟨w29, ew29⟩ := go_64 Wc27 t_a0
            refine wb ew29 ?_
            have := i_shl16 (b := v2) (by omega) (by omega)
            obtain ⟨q28, eq28, Wq28, fq28, pbZSzq28⟩ := p_Mo_step hn Wc27 (a1 := a1) (a2 := 0) (a3 := ((1 : Int32) <<< (v2 &&& 31))) (a4 := ((1 : Int32) <<< (v2 &&& 31))) t_a0 (by omega) (by omega) (by omega) (by omega) (by omega) (by omega) (by omega) (by omega) (by omega) (by omega) e487 e488 e481
            refine wb eq28 ?_
            have e496 := (Zfr.gi fq28 t_a0 (by decide)).trans e481
            have e497 := (Zfr.gr fq28 t_a0 (by decide)).trans e482
            have e498 := (Zfr.gr fq28 t_a0 (by decide)).trans e483
            have e499 := (Zfr.ai fq28 tkkq10 (by decide)).trans e484
            have e500 := (Zfr.gr fq28 t_a0 (by decide)).trans e485
            have e501 := (Zfr.ai fq28 tv34 (by decide)).trans e486
            have e502 := (Zfr.ai fq28 tv21 (by decide)).trans e489
            have e503 := (Zfr.ai fq28 tv23 (by decide)).trans e490
            have e504 := (Zfr.ai fq28 tv1 (by decide)).trans gc27
            have k505 := TkN_fr k491 fq28 t_a0 Wc27 (by decide)
            have F506 := Zfr.tr F492 fq28 (by decide)
            obtain ⟨bf2q28, bt2q28, h0ZSzq28, h1ZSzq28, r0ZSzq28, r1ZSzq28, r2ZSzq28, r3ZSzq28, r4ZSzq28, r5ZSzq28⟩ := pbZSzq28
            unfold f_Mo_single_181
            exact ⟨_, rfl, Wq28, F506, ⟨bf2q28, bt2q28, h0ZSzq28, h1ZSzq28, by (try dsimp only); omega, by (try dsimp only); omega, by (try dsimp only); omega, by (try dsimp only); omega, by (try dsimp only); omega, by (try dsimp only); omega⟩⟩
          · have hq457 := i_ne hq457
            unfold f_Mo_single_181
            exact ⟨_, rfl, Wq17, F456, ⟨bf2q17, bt2q17, h0ZSq17, h1ZSq17, by (try dsimp only); omega, by (try dsimp only); omega, by (try dsimp only); omega, by (try dsimp only); omega, by (try dsimp only); omega, by (try dsimp only); omega⟩⟩
        · have hq445 := i_nle hq445
          refine wi (fun hq511 => ?_) (fun hq511 => ?_)
          · have := li_8
            have hq511 := i_lt hq511
            unfold f_Mo_single_123
            obtain ⟨w18, ew18⟩ := go_64 Wq32 t_a0
            refine wb ew18 ?_
            obtain ⟨q17, eq17, Wq17, fq17, pbZSq17⟩ := p_Mo_pass hn Wq32  t_a0 (by omega) (by omega) (by omega) (by omega) h0ZStq32 e439
            refine wb eq17 ?_
            have e514 := (Zfr.gi fq17 t_a0 (by decide)).trans e436
            have e515 := (Zfr.gr fq17 t_a0 (by decide)).trans e437
            have e516 := (Zfr.ai fq17 tv1 (by decide)).trans e438
            have e517 := (Zfr.gr fq17 t_a0 (by decide)).trans e440
            have e518 := (Zfr.ai fq17 tkkq10 (by decide)).trans e441
            have e519 := (Zfr.gr fq17 t_a0 (by decide)).trans ev34
            have e520 := (Zfr.ai fq17 tv34 (by decide)).trans ev36
            have k521 := TkN_fr k442 fq17 t_a0 Wq32 (by decide)
            have F522 := Zfr.tr F443 fq17 (by decide)
            have := li_1
            obtain ⟨bf2q17, bt2q17, h0ZSq17, h1ZSq17, r0ZSq17, r1ZSq17, r2ZSq17, r3ZSq17, r4ZSq17, r5ZSq17⟩ := pbZSq17
            refine wb h0ZSq17 ?_
            refine wi (fun hq523 => ?_) (fun hq523 => ?_)
            · have hq523 := i_eq hq523
              obtain ⟨v21, ev21, tv21⟩ := gf_64_40 Wq17 t_a0
              refine wb ev21 ?_
              have := i_mull (a := 16) (b := a1) (n := 16) li_16 (by omega) (by omega)
              have := i_add (a := (16 * a1)) (b := v2) (by omega) (by omega)
              obtain ⟨c22, ec22, Wc22, fc22, gc22⟩ := pa_93 Wq17 tv21 (i := ((16 * a1) + v2)) (by omega) (by omega) (x := v36) (rgi (by omega) (by omega))
              refine wb ec22 ?_
              have e524 := (Zfr.gi fc22 t_a0 (by decide)).trans e514
              have e525 := (Zfr.gr fc22 t_a0 (by decide)).trans e515
              have e526 := (Zfr.ai fc22 tv1 (by decide)).trans e516
              have e527 := (Zfr.gr fc22 t_a0 (by decide)).trans e517
              have e528 := (Zfr.ai fc22 tkkq10 (by decide)).trans e518
              have e529 := (Zfr.gr fc22 t_a0 (by decide)).trans e519
              have e530 := (Zfr.ai fc22 tv34 (by decide)).trans e520
              have e531 := (Zfr.gi fc22 t_a0 (by decide)).trans h0ZSq17
              have e532 := (Zfr.gi fc22 t_a0 (by decide)).trans h1ZSq17
              have k533 := TkN_fr k521 fc22 t_a0 Wq17 (by decide)
              have F534 := Zfr.tr F522 fc22 (by decide)
              obtain ⟨v23, ev23, tv23⟩ := gf_64_41 Wc22 t_a0
              refine wb ev23 ?_
              have := nb_id (x := q6.1) (by omega) (by omega)
              obtain ⟨c24, ec24, Wc24, fc24, gc24⟩ := pa_94 Wc22 tv23 (i := ((16 * a1) + v2)) (by omega) (by omega) (x := (vp_nar .boolean q6.1)) (rgi (by omega) (by omega))
              refine wb ec24 ?_
              have e535 := (Zfr.gi fc24 t_a0 (by decide)).trans e524
              have e536 := (Zfr.gr fc24 t_a0 (by decide)).trans e525
              have e537 := (Zfr.ai fc24 tv1 (by decide)).trans e526
              have e538 := (Zfr.gr fc24 t_a0 (by decide)).trans e527
              have e539 := (Zfr.ai fc24 tkkq10 (by decide)).trans e528
              have e540 := (Zfr.gr fc24 t_a0 (by decide)).trans e529
              have e541 := (Zfr.ai fc24 tv34 (by decide)).trans e530
              have e542 := (Zfr.gi fc24 t_a0 (by decide)).trans e531
              have e543 := (Zfr.gi fc24 t_a0 (by decide)).trans e532
              have e544 := (Zfr.ai fc24 tv21 (by decide)).trans gc22
              have k545 := TkN_fr k533 fc24 t_a0 Wc22 (by decide)
              have F546 := Zfr.tr F534 fc24 (by decide)
              refine wb e536 ?_
              refine wb e537 ?_
              have := i_add (a := v2) (b := 1) (by omega) (by omega)
              obtain ⟨c27, ec27, Wc27, fc27, gc27⟩ := pa_92 Wc24 tv1 (i := a1) (by omega) (by omega) (x := (v2 + 1)) (rgi (by omega) (by omega))
              refine wb ec27 ?_
              have e547 := (Zfr.gi fc27 t_a0 (by decide)).trans e535
              have e548 := (Zfr.gr fc27 t_a0 (by decide)).trans e536
              have e549 := (Zfr.gr fc27 t_a0 (by decide)).trans e538
              have e550 := (Zfr.ai fc27 tkkq10 (by decide)).trans e539
              have e551 := (Zfr.gr fc27 t_a0 (by decide)).trans e540
              have e552 := (Zfr.ai fc27 tv34 (by decide)).trans e541
              have e553 := (Zfr.gi fc27 t_a0 (by decide)).trans e542
              have e554 := (Zfr.gi fc27 t_a0 (by decide)).trans e543
              have e555 := (Zfr.ai fc27 tv21 (by decide)).trans e544
              have e556 := (Zfr.ai fc27 tv23 (by decide)).trans gc24
              have k557 := TkN_fr k545 fc27 t_a0 Wc24 (by decide)
              have F558 := Zfr.tr F546 fc27 (by decide)
              obtain ⟨w29, ew29⟩ := go_64 Wc27 t_a0
              refine wb ew29 ?_
              have := i_shl16 (b := v2) (by omega) (by omega)
              obtain ⟨q28, eq28, Wq28, fq28, pbZSzq28⟩ := p_Mo_step hn Wc27 (a1 := a1) (a2 := 0) (a3 := ((1 : Int32) <<< (v2 &&& 31))) (a4 := ((1 : Int32) <<< (v2 &&& 31))) t_a0 (by omega) (by omega) (by omega) (by omega) (by omega) (by omega) (by omega) (by omega) (by omega) (by omega) e553 e554 e547
              refine wb eq28 ?_
              have e562 := (Zfr.gi fq28 t_a0 (by decide)).trans e547
              have e563 := (Zfr.gr fq28 t_a0 (by decide)).trans e548
              have e564 := (Zfr.gr fq28 t_a0 (by decide)).trans e549
              have e565 := (Zfr.ai fq28 tkkq10 (by decide)).trans e550
              have e566 := (Zfr.gr fq28 t_a0 (by decide)).trans e551
              have e567 := (Zfr.ai fq28 tv34 (by decide)).trans e552
              have e568 := (Zfr.ai fq28 tv21 (by decide)).trans e555
              have e569 := (Zfr.ai fq28 tv23 (by decide)).trans e556
              have e570 := (Zfr.ai fq28 tv1 (by decide)).trans gc27
              have k571 := TkN_fr k557 fq28 t_a0 Wc27 (by decide)
              have F572 := Zfr.tr F558 fq28 (by decide)
              obtain ⟨bf2q28, bt2q28, h0ZSzq28, h1ZSzq28, r0ZSzq28, r1ZSzq28, r2ZSzq28, r3ZSzq28, r4ZSzq28, r5ZSzq28⟩ := pbZSzq28
              unfold f_Mo_single_181
              exact ⟨_, rfl, Wq28, F572, ⟨bf2q28, bt2q28, h0ZSzq28, h1ZSzq28, by (try dsimp only); omega, by (try dsimp only); omega, by (try dsimp only); omega, by (try dsimp only); omega, by (try dsimp only); omega, by (try dsimp only); omega⟩⟩
            · have hq523 := i_ne hq523
              unfold f_Mo_single_181
              exact ⟨_, rfl, Wq17, F522, ⟨bf2q17, bt2q17, h0ZSq17, h1ZSq17, by (try dsimp only); omega, by (try dsimp only); omega, by (try dsimp only); omega, by (try dsimp only); omega, by (try dsimp only); omega, by (try dsimp only); omega⟩⟩
          · have := li_8
            have hq511 := i_nlt hq511
            obtain ⟨v40, ev40, tv40⟩ := gf_64_16 Wq32 t_a0
            refine wb ev40 ?_
            refine wb e439 ?_
            obtain ⟨v42, ev42, _⟩ := ga_76 Wq32 tv40 (i := bt2q6) (by omega) (by omega)
            refine wb ev42 ?_
            obtain ⟨w44, ew44⟩ := go_64 Wq32 t_a0
            refine wb ew44 ?_
            have := li_6
            obtain ⟨q43, eq43, Wq43, fq43, pbZSfq43⟩ := p_Mo_refuse hn Wq32 (a1 := 6) (a2 := v42) t_a0 (by omega) (by omega) (by omega) (by omega) h0ZStq32
            refine wb eq43 ?_
            have e578 := (Zfr.gi fq43 t_a0 (by decide)).trans e436
            have e579 := (Zfr.gr fq43 t_a0 (by decide)).trans e437
            have e580 := (Zfr.ai fq43 tv1 (by decide)).trans e438
            have e581 := (Zfr.gi fq43 t_a0 (by decide)).trans e439
            have e582 := (Zfr.gr fq43 t_a0 (by decide)).trans e440
            have e583 := (Zfr.ai fq43 tkkq10 (by decide)).trans e441
            have e584 := (Zfr.gr fq43 t_a0 (by decide)).trans ev34
            have e585 := (Zfr.ai fq43 tv34 (by decide)).trans ev36
            have e586 := (Zfr.ai fq43 tv40 (by decide)).trans ev42
            have k587 := TkN_fr k442 fq43 t_a0 Wq32 (by decide)
            have F588 := Zfr.tr F443 fq43 (by decide)
            obtain ⟨bf2q43, h0ZSfq43, r0ZSfq43, r1ZSfq43⟩ := pbZSfq43
            unfold f_Mo_single_123
            obtain ⟨w18, ew18⟩ := go_64 Wq43 t_a0
            refine wb ew18 ?_
            obtain ⟨q17, eq17, Wq17, fq17, pbZSq17⟩ := p_Mo_pass hn Wq43  t_a0 (by omega) (by omega) (by omega) (by omega) h0ZSfq43 e581
            refine wb eq17 ?_
            have e591 := (Zfr.gi fq17 t_a0 (by decide)).trans e578
            have e592 := (Zfr.gr fq17 t_a0 (by decide)).trans e579
            have e593 := (Zfr.ai fq17 tv1 (by decide)).trans e580
            have e594 := (Zfr.gr fq17 t_a0 (by decide)).trans e582
            have e595 := (Zfr.ai fq17 tkkq10 (by decide)).trans e583
            have e596 := (Zfr.gr fq17 t_a0 (by decide)).trans e584
            have e597 := (Zfr.ai fq17 tv34 (by decide)).trans e585
            have e598 := (Zfr.ai fq17 tv40 (by decide)).trans e586
            have k599 := TkN_fr k587 fq17 t_a0 Wq43 (by decide)
            have F600 := Zfr.tr F588 fq17 (by decide)
            have := li_1
            obtain ⟨bf2q17, bt2q17, h0ZSq17, h1ZSq17, r0ZSq17, r1ZSq17, r2ZSq17, r3ZSq17, r4ZSq17, r5ZSq17⟩ := pbZSq17
            refine wb h0ZSq17 ?_
            refine wi (fun hq601 => ?_) (fun hq601 => ?_)
            · have hq601 := i_eq hq601
              obtain ⟨v21, ev21, tv21⟩ := gf_64_40 Wq17 t_a0
              refine wb ev21 ?_
              have := i_mull (a := 16) (b := a1) (n := 16) li_16 (by omega) (by omega)
              have := i_add (a := (16 * a1)) (b := v2) (by omega) (by omega)
              obtain ⟨c22, ec22, Wc22, fc22, gc22⟩ := pa_93 Wq17 tv21 (i := ((16 * a1) + v2)) (by omega) (by omega) (x := v36) (rgi (by omega) (by omega))
              refine wb ec22 ?_
              have e602 := (Zfr.gi fc22 t_a0 (by decide)).trans e591
              have e603 := (Zfr.gr fc22 t_a0 (by decide)).trans e592
              have e604 := (Zfr.ai fc22 tv1 (by decide)).trans e593
              have e605 := (Zfr.gr fc22 t_a0 (by decide)).trans e594
              have e606 := (Zfr.ai fc22 tkkq10 (by decide)).trans e595
              have e607 := (Zfr.gr fc22 t_a0 (by decide)).trans e596
              have e608 := (Zfr.ai fc22 tv34 (by decide)).trans e597
              have e609 := (Zfr.ai fc22 tv40 (by decide)).trans e598
              have e610 := (Zfr.gi fc22 t_a0 (by decide)).trans h0ZSq17
              have e611 := (Zfr.gi fc22 t_a0 (by decide)).trans h1ZSq17
              have k612 := TkN_fr k599 fc22 t_a0 Wq17 (by decide)
              have F613 := Zfr.tr F600 fc22 (by decide)
              obtain ⟨v23, ev23, tv23⟩ := gf_64_41 Wc22 t_a0
              refine wb ev23 ?_
              have := nb_id (x := q6.1) (by omega) (by omega)
              obtain ⟨c24, ec24, Wc24, fc24, gc24⟩ := pa_94 Wc22 tv23 (i := ((16 * a1) + v2)) (by omega) (by omega) (x := (vp_nar .boolean q6.1)) (rgi (by omega) (by omega))
              refine wb ec24 ?_
              have e614 := (Zfr.gi fc24 t_a0 (by decide)).trans e602
              have e615 := (Zfr.gr fc24 t_a0 (by decide)).trans e603
              have e616 := (Zfr.ai fc24 tv1 (by decide)).trans e604
              have e617 := (Zfr.gr fc24 t_a0 (by decide)).trans e605
              have e618 := (Zfr.ai fc24 tkkq10 (by decide)).trans e606
              have e619 := (Zfr.gr fc24 t_a0 (by decide)).trans e607
              have e620 := (Zfr.ai fc24 tv34 (by decide)).trans e608
              have e621 := (Zfr.ai fc24 tv40 (by decide)).trans e609
              have e622 := (Zfr.gi fc24 t_a0 (by decide)).trans e610
              have e623 := (Zfr.gi fc24 t_a0 (by decide)).trans e611
              have e624 := (Zfr.ai fc24 tv21 (by decide)).trans gc22
              have k625 := TkN_fr k612 fc24 t_a0 Wc22 (by decide)
              have F626 := Zfr.tr F613 fc24 (by decide)
              refine wb e615 ?_
              refine wb e616 ?_
              have := i_add (a := v2) (b := 1) (by omega) (by omega)
              obtain ⟨c27, ec27, Wc27, fc27, gc27⟩ := pa_92 Wc24 tv1 (i := a1) (by omega) (by omega) (x := (v2 + 1)) (rgi (by omega) (by omega))
              refine wb ec27 ?_
              have e627 := (Zfr.gi fc27 t_a0 (by decide)).trans e614
              have e628 := (Zfr.gr fc27 t_a0 (by decide)).trans e615
              have e629 := (Zfr.gr fc27 t_a0 (by decide)).trans e617
              have e630 := (Zfr.ai fc27 tkkq10 (by decide)).trans e618
              have e631 := (Zfr.gr fc27 t_a0 (by decide)).trans e619
              have e632 := (Zfr.ai fc27 tv34 (by decide)).trans e620
              have e633 := (Zfr.ai fc27 tv40 (by decide)).trans e621
              have e634 := (Zfr.gi fc27 t_a0 (by decide)).trans e622
              have e635 := (Zfr.gi fc27 t_a0 (by decide)).trans e623
              have e636 := (Zfr.ai fc27 tv21 (by decide)).trans e624
              have e637 := (Zfr.ai fc27 tv23 (by decide)).trans gc24
              have k638 := TkN_fr k625 fc27 t_a0 Wc24 (by decide)
              have F639 := Zfr.tr F626 fc27 (by decide)
              obtain ⟨w29, ew29⟩ := go_64 Wc27 t_a0
              refine wb ew29 ?_
              have := i_shl16 (b := v2) (by omega) (by omega)
              obtain ⟨q28, eq28, Wq28, fq28, pbZSzq28⟩ := p_Mo_step hn Wc27 (a1 := a1) (a2 := 0) (a3 := ((1 : Int32) <<< (v2 &&& 31))) (a4 := ((1 : Int32) <<< (v2 &&& 31))) t_a0 (by omega) (by omega) (by omega) (by omega) (by omega) (by omega) (by omega) (by omega) (by omega) (by omega) e634 e635 e627
              refine wb eq28 ?_
              have e643 := (Zfr.gi fq28 t_a0 (by decide)).trans e627
              have e644 := (Zfr.gr fq28 t_a0 (by decide)).trans e628
              have e645 := (Zfr.gr fq28 t_a0 (by decide)).trans e629
              have e646 := (Zfr.ai fq28 tkkq10 (by decide)).trans e630
              have e647 := (Zfr.gr fq28 t_a0 (by decide)).trans e631
              have e648 := (Zfr.ai fq28 tv34 (by decide)).trans e632
              have e649 := (Zfr.ai fq28 tv40 (by decide)).trans e633
              have e650 := (Zfr.ai fq28 tv21 (by decide)).trans e636
              have e651 := (Zfr.ai fq28 tv23 (by decide)).trans e637
              have e652 := (Zfr.ai fq28 tv1 (by decide)).trans gc27
              have k653 := TkN_fr k638 fq28 t_a0 Wc27 (by decide)
              have F654 := Zfr.tr F639 fq28 (by decide)
              obtain ⟨bf2q28, bt2q28, h0ZSzq28, h1ZSzq28, r0ZSzq28, r1ZSzq28, r2ZSzq28, r3ZSzq28, r4ZSzq28, r5ZSzq28⟩ := pbZSzq28
              unfold f_Mo_single_181
              exact ⟨_, rfl, Wq28, F654, ⟨bf2q28, bt2q28, h0ZSzq28, h1ZSzq28, by (try dsimp only); omega, by (try dsimp only); omega, by (try dsimp only); omega, by (try dsimp only); omega, by (try dsimp only); omega, by (try dsimp only); omega⟩⟩
            · have hq601 := i_ne hq601
              unfold f_Mo_single_181
              exact ⟨_, rfl, Wq17, F600, ⟨bf2q17, bt2q17, h0ZSq17, h1ZSq17, by (try dsimp only); omega, by (try dsimp only); omega, by (try dsimp only); omega, by (try dsimp only); omega, by (try dsimp only); omega, by (try dsimp only); omega⟩⟩
      · have := li_5
        have := i_ge q10.1
        have := i_up q10.1
        have hq433 := i_ne hq433
        refine wb h0Zkdq10 ?_
        refine wb e430 ?_
        refine wb h1Zkdq10 ?_
        refine wi (fun hq659 => ?_) (fun hq659 => ?_)
        · have := li_95
          have hq659 := i_eq hq659
          unfold f_Mo_single_123
          obtain ⟨w18, ew18⟩ := go_64 Wq10 t_a0
          refine wb ew18 ?_
          obtain ⟨q17, eq17, Wq17, fq17, pbZSq17⟩ := p_Mo_pass hn Wq10  t_a0 (by omega) (by omega) (by omega) (by omega) h0ZScq10 e430
          refine wb eq17 ?_
          have e662 := (Zfr.gi fq17 t_a0 (by decide)).trans e427
          have e663 := (Zfr.gr fq17 t_a0 (by decide)).trans e428
          have e664 := (Zfr.ai fq17 tv1 (by decide)).trans e429
          have e665 := (Zfr.gr fq17 t_a0 (by decide)).trans h0Zkdq10
          have e666 := (Zfr.ai fq17 tkkq10 (by decide)).trans h1Zkdq10
          have k667 := TkN_fr k431 fq17 t_a0 Wq10 (by decide)
          have F668 := Zfr.tr F432 fq17 (by decide)
          have := li_1
          obtain ⟨bf2q17, bt2q17, h0ZSq17, h1ZSq17, r0ZSq17, r1ZSq17, r2ZSq17, r3ZSq17, r4ZSq17, r5ZSq17⟩ := pbZSq17
          refine wb h0ZSq17 ?_
          refine wi (fun hq669 => ?_) (fun hq669 => ?_)
          · have hq669 := i_eq hq669
            obtain ⟨v21, ev21, tv21⟩ := gf_64_40 Wq17 t_a0
            refine wb ev21 ?_
            have := i_mull (a := 16) (b := a1) (n := 16) li_16 (by omega) (by omega)
            have := i_add (a := (16 * a1)) (b := v2) (by omega) (by omega)
            have := li_12
            obtain ⟨c22, ec22, Wc22, fc22, gc22⟩ := pa_93 Wq17 tv21 (i := ((16 * a1) + v2)) (by omega) (by omega) (x := 12) (rgi (by omega) (by omega))
            refine wb ec22 ?_
            have e670 := (Zfr.gi fc22 t_a0 (by decide)).trans e662
            have e671 := (Zfr.gr fc22 t_a0 (by decide)).trans e663
            have e672 := (Zfr.ai fc22 tv1 (by decide)).trans e664
            have e673 := (Zfr.gr fc22 t_a0 (by decide)).trans e665
            have e674 := (Zfr.ai fc22 tkkq10 (by decide)).trans e666
            have e675 := (Zfr.gi fc22 t_a0 (by decide)).trans h0ZSq17
            have e676 := (Zfr.gi fc22 t_a0 (by decide)).trans h1ZSq17
            have k677 := TkN_fr k667 fc22 t_a0 Wq17 (by decide)
            have F678 := Zfr.tr F668 fc22 (by decide)
            obtain ⟨v23, ev23, tv23⟩ := gf_64_41 Wc22 t_a0
            refine wb ev23 ?_
            have := nb_id (x := q6.1) (by omega) (by omega)
            obtain ⟨c24, ec24, Wc24, fc24, gc24⟩ := pa_94 Wc22 tv23 (i := ((16 * a1) + v2)) (by omega) (by omega) (x := (vp_nar .boolean q6.1)) (rgi (by omega) (by omega))
            refine wb ec24 ?_
            have e679 := (Zfr.gi fc24 t_a0 (by decide)).trans e670
            have e680 := (Zfr.gr fc24 t_a0 (by decide)).trans e671
            have e681 := (Zfr.ai fc24 tv1 (by decide)).trans e672
            have e682 := (Zfr.gr fc24 t_a0 (by decide)).trans e673
            have e683 := (Zfr.ai fc24 tkkq10 (by decide)).trans e674
            have e684 := (Zfr.gi fc24 t_a0 (by decide)).trans e675
            have e685 := (Zfr.gi fc24 t_a0 (by decide)).trans e676
            have e686 := (Zfr.ai fc24 tv21 (by decide)).trans gc22
            have k687 := TkN_fr k677 fc24 t_a0 Wc22 (by decide)
            have F688 := Zfr.tr F678 fc24 (by decide)
            refine wb e680 ?_
            refine wb e681 ?_
            have := i_add (a := v2) (b := 1) (by omega) (by omega)
            obtain ⟨c27, ec27, Wc27, fc27, gc27⟩ := pa_92 Wc24 tv1 (i := a1) (by omega) (by omega) (x := (v2 + 1)) (rgi (by omega) (by omega))
            refine wb ec27 ?_
            have e689 := (Zfr.gi fc27 t_a0 (by decide)).trans e679
            have e690 := (Zfr.gr fc27 t_a0 (by decide)).trans e680
            have e691 := (Zfr.gr fc27 t_a0 (by decide)).trans e682
            have e692 := (Zfr.ai fc27 tkkq10 (by decide)).trans e683
            have e693 := (Zfr.gi fc27 t_a0 (by decide)).trans e684
            have e694 := (Zfr.gi fc27 t_a0 (by decide)).trans e685
            have e695 := (Zfr.ai fc27 tv21 (by decide)).trans e686
            have e696 := (Zfr.ai fc27 tv23 (by decide)).trans gc24
            have k697 := TkN_fr k687 fc27 t_a0 Wc24 (by decide)
            have F698 := Zfr.tr F688 fc27 (by decide)
            obtain ⟨w29, ew29⟩ := go_64 Wc27 t_a0
            refine wb ew29 ?_
            have := i_shl16 (b := v2) (by omega) (by omega)
            obtain ⟨q28, eq28, Wq28, fq28, pbZSzq28⟩ := p_Mo_step hn Wc27 (a1 := a1) (a2 := 0) (a3 := ((1 : Int32) <<< (v2 &&& 31))) (a4 := ((1 : Int32) <<< (v2 &&& 31))) t_a0 (by omega) (by omega) (by omega) (by omega) (by omega) (by omega) (by omega) (by omega) (by omega) (by omega) e693 e694 e689
            refine wb eq28 ?_
            have e702 := (Zfr.gi fq28 t_a0 (by decide)).trans e689
            have e703 := (Zfr.gr fq28 t_a0 (by decide)).trans e690
            have e704 := (Zfr.gr fq28 t_a0 (by decide)).trans e691
            have e705 := (Zfr.ai fq28 tkkq10 (by decide)).trans e692
            have e706 := (Zfr.ai fq28 tv21 (by decide)).trans e695
            have e707 := (Zfr.ai fq28 tv23 (by decide)).trans e696
            have e708 := (Zfr.ai fq28 tv1 (by decide)).trans gc27
            have k709 := TkN_fr k697 fq28 t_a0 Wc27 (by decide)
            have F710 := Zfr.tr F698 fq28 (by decide)
            obtain ⟨bf2q28, bt2q28, h0ZSzq28, h1ZSzq28, r0ZSzq28, r1ZSzq28, r2ZSzq28, r3ZSzq28, r4ZSzq28, r5ZSzq28⟩ := pbZSzq28
            unfold f_Mo_single_181
            exact ⟨_, rfl, Wq28, F710, ⟨bf2q28, bt2q28, h0ZSzq28, h1ZSzq28, by (try dsimp only); omega, by (try dsimp only); omega, by (try dsimp only); omega, by (try dsimp only); omega, by (try dsimp only); omega, by (try dsimp only); omega⟩⟩
          · have hq669 := i_ne hq669
            unfold f_Mo_single_181
            exact ⟨_, rfl, Wq17, F668, ⟨bf2q17, bt2q17, h0ZSq17, h1ZSq17, by (try dsimp only); omega, by (try dsimp only); omega, by (try dsimp only); omega, by (try dsimp only); omega, by (try dsimp only); omega, by (try dsimp only); omega⟩⟩
        · have := li_95
          have hq659 := i_ne hq659
          obtain ⟨w31, ew31⟩ := go_64 Wq10 t_a0
          refine wb ew31 ?_
          obtain ⟨q30, eq30, Wq30, fq30, pbZSfq30⟩ := p_Mo_wrong hn Wq10  t_a0 (by omega) (by omega) (by omega) (by omega) h0ZScq10 e430
          refine wb eq30 ?_
          have e717 := (Zfr.gi fq30 t_a0 (by decide)).trans e427
          have e718 := (Zfr.gr fq30 t_a0 (by decide)).trans e428
          have e719 := (Zfr.ai fq30 tv1 (by decide)).trans e429
          have e720 := (Zfr.gi fq30 t_a0 (by decide)).trans e430
          have e721 := (Zfr.gr fq30 t_a0 (by decide)).trans h0Zkdq10
          have e722 := (Zfr.ai fq30 tkkq10 (by decide)).trans h1Zkdq10
          have k723 := TkN_fr k431 fq30 t_a0 Wq10 (by decide)
          have F724 := Zfr.tr F432 fq30 (by decide)
          obtain ⟨bf2q30, h0ZSfq30, r0ZSfq30, r1ZSfq30⟩ := pbZSfq30
          unfold f_Mo_single_123
          obtain ⟨w18, ew18⟩ := go_64 Wq30 t_a0
          refine wb ew18 ?_
          obtain ⟨q17, eq17, Wq17, fq17, pbZSq17⟩ := p_Mo_pass hn Wq30  t_a0 (by omega) (by omega) (by omega) (by omega) h0ZSfq30 e720
          refine wb eq17 ?_
          have e727 := (Zfr.gi fq17 t_a0 (by decide)).trans e717
          have e728 := (Zfr.gr fq17 t_a0 (by decide)).trans e718
          have e729 := (Zfr.ai fq17 tv1 (by decide)).trans e719
          have e730 := (Zfr.gr fq17 t_a0 (by decide)).trans e721
          have e731 := (Zfr.ai fq17 tkkq10 (by decide)).trans e722
          have k732 := TkN_fr k723 fq17 t_a0 Wq30 (by decide)
          have F733 := Zfr.tr F724 fq17 (by decide)
          have := li_1
          obtain ⟨bf2q17, bt2q17, h0ZSq17, h1ZSq17, r0ZSq17, r1ZSq17, r2ZSq17, r3ZSq17, r4ZSq17, r5ZSq17⟩ := pbZSq17
          refine wb h0ZSq17 ?_
          refine wi (fun hq734 => ?_) (fun hq734 => ?_)
          · have hq734 := i_eq hq734
            obtain ⟨v21, ev21, tv21⟩ := gf_64_40 Wq17 t_a0
            refine wb ev21 ?_
            have := i_mull (a := 16) (b := a1) (n := 16) li_16 (by omega) (by omega)
            have := i_add (a := (16 * a1)) (b := v2) (by omega) (by omega)
            have := li_12
            obtain ⟨c22, ec22, Wc22, fc22, gc22⟩ := pa_93 Wq17 tv21 (i := ((16 * a1) + v2)) (by omega) (by omega) (x := 12) (rgi (by omega) (by omega))
            refine wb ec22 ?_
            have e735 := (Zfr.gi fc22 t_a0 (by decide)).trans e727
            have e736 := (Zfr.gr fc22 t_a0 (by decide)).trans e728
            have e737 := (Zfr.ai fc22 tv1 (by decide)).trans e729
            have e738 := (Zfr.gr fc22 t_a0 (by decide)).trans e730
            have e739 := (Zfr.ai fc22 tkkq10 (by decide)).trans e731
            have e740 := (Zfr.gi fc22 t_a0 (by decide)).trans h0ZSq17
            have e741 := (Zfr.gi fc22 t_a0 (by decide)).trans h1ZSq17
            have k742 := TkN_fr k732 fc22 t_a0 Wq17 (by decide)
            have F743 := Zfr.tr F733 fc22 (by decide)
            obtain ⟨v23, ev23, tv23⟩ := gf_64_41 Wc22 t_a0
            refine wb ev23 ?_
            have := nb_id (x := q6.1) (by omega) (by omega)
            obtain ⟨c24, ec24, Wc24, fc24, gc24⟩ := pa_94 Wc22 tv23 (i := ((16 * a1) + v2)) (by omega) (by omega) (x := (vp_nar .boolean q6.1)) (rgi (by omega) (by omega))
            refine wb ec24 ?_
            have e744 := (Zfr.gi fc24 t_a0 (by decide)).trans e735
            have e745 := (Zfr.gr fc24 t_a0 (by decide)).trans e736
            have e746 := (Zfr.ai fc24 tv1 (by decide)).trans e737
            have e747 := (Zfr.gr fc24 t_a0 (by decide)).trans e738
            have e748 := (Zfr.ai fc24 tkkq10 (by decide)).trans e739
            have e749 := (Zfr.gi fc24 t_a0 (by decide)).trans e740
            have e750 := (Zfr.gi fc24 t_a0 (by decide)).trans e741
            have e751 := (Zfr.ai fc24 tv21 (by decide)).trans gc22
            have k752 := TkN_fr k742 fc24 t_a0 Wc22 (by decide)
            have F753 := Zfr.tr F743 fc24 (by decide)
            refine wb e745 ?_
            refine wb e746 ?_
            have := i_add (a := v2) (b := 1) (by omega) (by omega)
            obtain ⟨c27, ec27, Wc27, fc27, gc27⟩ := pa_92 Wc24 tv1 (i := a1) (by omega) (by omega) (x := (v2 + 1)) (rgi (by omega) (by omega))
            refine wb ec27 ?_
            have e754 := (Zfr.gi fc27 t_a0 (by decide)).trans e744
            have e755 := (Zfr.gr fc27 t_a0 (by decide)).trans e745
            have e756 := (Zfr.gr fc27 t_a0 (by decide)).trans e747
            have e757 := (Zfr.ai fc27 tkkq10 (by decide)).trans e748
            have e758 := (Zfr.gi fc27 t_a0 (by decide)).trans e749
            have e759 := (Zfr.gi fc27 t_a0 (by decide)).trans e750
            have e760 := (Zfr.ai fc27 tv21 (by decide)).trans e751
            have e761 := (Zfr.ai fc27 tv23 (by decide)).trans gc24
            have k762 := TkN_fr k752 fc27 t_a0 Wc24 (by decide)
            have F763 := Zfr.tr F753 fc27 (by decide)
            obtain ⟨w29, ew29⟩ := go_64 Wc27 t_a0
            refine wb ew29 ?_
            have := i_shl16 (b := v2) (by omega) (by omega)
            obtain ⟨q28, eq28, Wq28, fq28, pbZSzq28⟩ := p_Mo_step hn Wc27 (a1 := a1) (a2 := 0) (a3 := ((1 : Int32) <<< (v2 &&& 31))) (a4 := ((1 : Int32) <<< (v2 &&& 31))) t_a0 (by omega) (by omega) (by omega) (by omega) (by omega) (by omega) (by omega) (by omega) (by omega) (by omega) e758 e759 e754
            refine wb eq28 ?_
            have e767 := (Zfr.gi fq28 t_a0 (by decide)).trans e754
            have e768 := (Zfr.gr fq28 t_a0 (by decide)).trans e755
            have e769 := (Zfr.gr fq28 t_a0 (by decide)).trans e756
            have e770 := (Zfr.ai fq28 tkkq10 (by decide)).trans e757
            have e771 := (Zfr.ai fq28 tv21 (by decide)).trans e760
            have e772 := (Zfr.ai fq28 tv23 (by decide)).trans e761
            have e773 := (Zfr.ai fq28 tv1 (by decide)).trans gc27
            have k774 := TkN_fr k762 fq28 t_a0 Wc27 (by decide)
            have F775 := Zfr.tr F763 fq28 (by decide)
            obtain ⟨bf2q28, bt2q28, h0ZSzq28, h1ZSzq28, r0ZSzq28, r1ZSzq28, r2ZSzq28, r3ZSzq28, r4ZSzq28, r5ZSzq28⟩ := pbZSzq28
            unfold f_Mo_single_181
            exact ⟨_, rfl, Wq28, F775, ⟨bf2q28, bt2q28, h0ZSzq28, h1ZSzq28, by (try dsimp only); omega, by (try dsimp only); omega, by (try dsimp only); omega, by (try dsimp only); omega, by (try dsimp only); omega, by (try dsimp only); omega⟩⟩
          · have hq734 := i_ne hq734
            unfold f_Mo_single_181
            exact ⟨_, rfl, Wq17, F733, ⟨bf2q17, bt2q17, h0ZSq17, h1ZSq17, by (try dsimp only); omega, by (try dsimp only); omega, by (try dsimp only); omega, by (try dsimp only); omega, by (try dsimp only); omega, by (try dsimp only); omega⟩⟩
    · have := li_0
      have hq424 := i_ne hq424
      have := li_1
      exact ⟨_, rfl, Wq6, F423, ⟨bf2q6, bt2q6, h0ZSkq6, h1ZSkq6, by (try dsimp only); omega, by (try dsimp only); omega, by (try dsimp only); omega, by (try dsimp only); omega, by (try dsimp only); omega, by (try dsimp only); omega⟩⟩

abbrev M_Mo_rows : List (Nat × Nat) := [(64, 18), (64, 19), (64, 20), (64, 53), (64, 65), (89, 0), (90, 0), (91, 0), (92, 0), (93, 0), (94, 0), (95, 0), (107, 0), (108, 0), (109, 0), (110, 0), (111, 0), (112, 0), (113, 0)]
set_option maxRecDepth 100000 in
set_option maxHeartbeats 400000 in
theorem p_Mo_rows {nf : Nat} (hn : 8589934592 ≤ nf) {G : List Nat} {c : Zc} (W : Zwt zty G c) {a0 : Nat} {a1 : Int32} {fv : Int32} {tv : Int32} {dv : Int32} (t_a0 : G[a0]? = some 64) (pl_fv : 0 ≤ fv.toInt) (pu_fv : fv.toInt ≤ 0) (pl_tv : 0 ≤ tv.toInt) (pu_tv : tv.toInt ≤ 200) (pl_dv : 0 ≤ dv.toInt) (pu_dv : dv.toInt ≤ 10) (pl_a1 : 0 ≤ a1.toInt) (pu_a1 : a1.toInt ≤ 98) (eh_fv : zgi c a0 12 19 = some fv) (eh_tv : zgi c a0 12 18 = some tv) (eh_dv : zgi c a0 12 53 = some dv) (hb_Ztk : Ztk G c a0) : ∃ q, f_Mo_rows nf a0 a1 c = some q ∧ Zwt zty G q ∧ Zfr G M_Mo_rows c q ∧ ZSd G q a0 fv tv dv := by
  have F0 : Zfr G M_Mo_rows c c := Zfr.rf
  unfold f_Mo_rows
  have k0Ztk0 := hb_Ztk
  obtain ⟨v1, ev1, tv1⟩ := gf_64_39 W t_a0
  refine wb ev1 ?_
  have := li_0
  obtain ⟨c2, ec2, Wc2, fc2, gc2⟩ := pa_92 W tv1 (i := a1) (by omega) (by omega) (x := 0) (rgi (by omega) (by omega))
  refine wb ec2 ?_
  have e1 := (Zfr.gi fc2 t_a0 (by decide)).trans eh_fv
  have e2 := (Zfr.gi fc2 t_a0 (by decide)).trans eh_tv
  have e3 := (Zfr.gi fc2 t_a0 (by decide)).trans eh_dv
  have k4 := TkN_fr k0Ztk0 fc2 t_a0 W (by decide)
  have F5 := Zfr.tr F0 fc2 (by decide)
  unfold f_Mo_rows_9
  have L6 : ∃ b, zlp (fun a : Nat × Int32 × Int32 × Zc => g_Mo_rows_9 nf a.1 a.2.1 a.2.2.1 a.2.2.2) nf (a0, a1, 0, c2) = some b ∧ (fun b : (Nat × Int32 × Zc) => a0 = b.1 ∧ a1 = b.2.1 ∧ Zwt zty G b.2.2 ∧ Zfr G ([(95, 0)] : List (Nat × Nat)) c2 b.2.2) b := by
    refine wlp (fun a : Nat × Int32 × Int32 × Zc => a0 = a.1 ∧ a1 = a.2.1 ∧ Zwt zty G a.2.2.2 ∧ Zfr G ([(95, 0)] : List (Nat × Nat)) c2 a.2.2.2 ∧ 0 ≤ a.2.2.1.toInt ∧ a.2.2.1.toInt ≤ 16) (fun a => (16 - a.2.2.1.toInt).toNat) (fun b : (Nat × Int32 × Zc) => a0 = b.1 ∧ a1 = b.2.1 ∧ Zwt zty G b.2.2 ∧ Zfr G ([(95, 0)] : List (Nat × Nat)) c2 b.2.2) ?_ ?_ ?_
    · rintro ⟨x0_7, x1_7, x2_7, c_7⟩ hI
      try dsimp only at hI ⊢
      obtain ⟨rfl, rfl, WLc_7, FLc_7, j8, j9⟩ := hI
      have e10 := (Zfr.gi FLc_7 t_a0 (by decide)).trans e1
      have e11 := (Zfr.gi FLc_7 t_a0 (by decide)).trans e2
      have e12 := (Zfr.gi FLc_7 t_a0 (by decide)).trans e3
      have k13 := TkN_fr k4 FLc_7 t_a0 Wc2 (by decide)
      unfold g_Mo_rows_9
      refine wi (fun hq14 => ?_) (fun hq14 => ?_)
      · have := li_16
        have hq14 := i_le hq14
        exact lInr ⟨rfl, rfl, WLc_7, FLc_7⟩
      · have := li_16
        have hq14 := i_nle hq14
        obtain ⟨v4, ev4, tv4⟩ := gf_64_42 WLc_7 t_a0
        refine wb ev4 ?_
        have := i_mull (a := 16) (b := a1) (n := 16) li_16 (by omega) (by omega)
        have := i_add (a := (16 * a1)) (b := x2_7) (by omega) (by omega)
        obtain ⟨c5, ec5, Wc5, fc5, gc5⟩ := pa_95 WLc_7 tv4 (i := ((16 * a1) + x2_7)) (by omega) (by omega) (x := 0) (trivial)
        refine wb ec5 ?_
        have e15 := (Zfr.gi fc5 t_a0 (by decide)).trans e10
        have e16 := (Zfr.gi fc5 t_a0 (by decide)).trans e11
        have e17 := (Zfr.gi fc5 t_a0 (by decide)).trans e12
        have k18 := TkN_fr k13 fc5 t_a0 WLc_7 (by decide)
        have F19 := Zfr.tr FLc_7 fc5 (by decide)
        have := li_1
        have := i_add (a := x2_7) (b := 1) (by omega) (by omega)
        exact lInl ⟨rfl, rfl, Wc5, F19, by (try dsimp only); omega, by (try dsimp only); omega⟩ (by (try dsimp only); omega)
    · exact ⟨rfl, rfl, Wc2, Zfr.rf, by (try dsimp only); omega, by (try dsimp only); omega⟩
    · (try dsimp only); omega
  obtain ⟨b, eb, hb⟩ := L6
  refine wb eb ?_
  clear eb
  obtain ⟨z0_20, z1_20, c_20⟩ := b
  try dsimp only at hb ⊢
  obtain ⟨rfl, rfl, WXc_20, FXc_20⟩ := hb
  have e21 := (Zfr.gi FXc_20 t_a0 (by decide)).trans e1
  have e22 := (Zfr.gi FXc_20 t_a0 (by decide)).trans e2
  have e23 := (Zfr.gi FXc_20 t_a0 (by decide)).trans e3
  have e24 := (Zfr.ai FXc_20 tv1 (by decide)).trans gc2
  have k25 := TkN_fr k4 FXc_20 t_a0 Wc2 (by decide)
  have F26 := Zfr.tr F5 FXc_20 (by decide)
  obtain ⟨c6, ec6, Wc6, fc6, gc6⟩ := pf_64_65 WXc_20 t_a0 (x := 0) (rgi (by omega) (by omega))
  refine wb ec6 ?_
  have e27 := (Zfr.gi fc6 t_a0 (by decide)).trans e21
  have e28 := (Zfr.gi fc6 t_a0 (by decide)).trans e22
  have e29 := (Zfr.gi fc6 t_a0 (by decide)).trans e23
  have e30 := (Zfr.ai fc6 tv1 (by decide)).trans e24
  have k31 := TkN_fr k25 fc6 t_a0 WXc_20 (by decide)
  have F32 := Zfr.tr F26 fc6 (by decide)
  obtain ⟨w8, ew8⟩ := go_64 Wc6 t_a0
  refine wb ew8 ?_
  obtain ⟨q7, eq7, Wq7, fq7, pbZopq7⟩ := p_Mo_open hn Wc6  t_a0 (by omega) (by omega) gc6
  refine wb eq7 ?_
  have e34 := (Zfr.gi fq7 t_a0 (by decide)).trans e27
  have e35 := (Zfr.gi fq7 t_a0 (by decide)).trans e28
  have e36 := (Zfr.gi fq7 t_a0 (by decide)).trans e29
  have e37 := (Zfr.ai fq7 tv1 (by decide)).trans e30
  have k38 := TkN_fr k31 fq7 t_a0 Wc6 (by decide)
  have F39 := Zfr.tr F32 fq7 (by decide)
  obtain ⟨bo2q7, h0Zopq7, r0Zopq7⟩ := pbZopq7
  unfold f_Mo_rows_44
  have := vfi_e e35
  have := vfi_e e34
  have := li_1
  have L48 : ∃ b, zlp (fun a : Nat × Int32 × Int32 × Zc => g_Mo_rows_44 nf a.1 a.2.1 a.2.2.1 a.2.2.2) nf (a0, a1, 1, q7) = some b ∧ (fun b : (Nat × Int32 × Zc) => a0 = b.1 ∧ a1 = b.2.1 ∧ Zwt zty G b.2.2 ∧ Zfr G ([(64, 18), (64, 19), (64, 20), (64, 53), (64, 65), (92, 0), (93, 0), (94, 0), (95, 0), (107, 0), (108, 0), (109, 0), (110, 0), (111, 0), (112, 0), (113, 0)] : List (Nat × Nat)) q7 b.2.2 ∧ ZSd G b.2.2 a0 fv tv dv) b := by
    refine wlp (fun a : Nat × Int32 × Int32 × Zc => a0 = a.1 ∧ a1 = a.2.1 ∧ Zwt zty G a.2.2.2 ∧ Zfr G ([(64, 18), (64, 19), (64, 20), (64, 53), (64, 65), (92, 0), (93, 0), (94, 0), (95, 0), (107, 0), (108, 0), (109, 0), (110, 0), (111, 0), (112, 0), (113, 0)] : List (Nat × Nat)) q7 a.2.2.2 ∧ 0 ≤ a.2.2.1.toInt ∧ a.2.2.1.toInt ≤ 1 ∧ ZRw G a.2.2.2 a0 fv tv dv a.2.2.1) (fun a => (2 * (7 * (201 - vfi a.2.2.2 a0 18) + (6 - vfi a.2.2.2 a0 19)) + a.2.2.1.toInt).toNat) (fun b : (Nat × Int32 × Zc) => a0 = b.1 ∧ a1 = b.2.1 ∧ Zwt zty G b.2.2 ∧ Zfr G ([(64, 18), (64, 19), (64, 20), (64, 53), (64, 65), (92, 0), (93, 0), (94, 0), (95, 0), (107, 0), (108, 0), (109, 0), (110, 0), (111, 0), (112, 0), (113, 0)] : List (Nat × Nat)) q7 b.2.2 ∧ ZSd G b.2.2 a0 fv tv dv) ?_ ?_ ?_
    · rintro ⟨x0_49, x1_49, x2_49, c_49⟩ hI
      try dsimp only at hI ⊢
      obtain ⟨rfl, rfl, WLc_49, FLc_49, j50, j51, hBZRw_49⟩ := hI
      have k52 := TkN_fr k38 FLc_49 t_a0 Wq7 (by decide)
      obtain ⟨bf2_49, bt2_49, bd2_49, bo2_49, h0ZRw_49, h1ZRw_49, h2ZRw_49, h3ZRw_49, r0ZRw_49, r1ZRw_49, r2ZRw_49, r3ZRw_49, r4ZRw_49, r5ZRw_49, r6ZRw_49, r7ZRw_49, r8ZRw_49, r9ZRw_49, r10ZRw_49⟩ := hBZRw_49
      unfold g_Mo_rows_44
      have := vfi_e h1ZRw_49
      have := vfi_e h0ZRw_49
      refine wi (fun hq55 => ?_) (fun hq55 => ?_)
      · have hq55 := i_eq hq55
        exact lInr ⟨rfl, rfl, WLc_49, FLc_49, ⟨bf2_49, bt2_49, bd2_49, h0ZRw_49, h1ZRw_49, h2ZRw_49, by (try dsimp only); omega, by (try dsimp only); omega, by (try dsimp only); omega, by (try dsimp only); omega, by (try dsimp only); omega, by (try dsimp only); omega, by (try dsimp only); omega, by (try dsimp only); omega⟩⟩
      · have hq55 := i_ne hq55
        refine wb h0ZRw_49 ?_
        refine wi (fun hq59 => ?_) (fun hq59 => ?_)
        · have hq59 := i_eq hq59
          refine wb h3ZRw_49 ?_
          obtain ⟨w14, ew14⟩ := go_64 WLc_49 t_a0
          refine wb ew14 ?_
          obtain ⟨q13, eq13, Wq13, fq13, pbZScq13, pbZkdq13⟩ := p_Mo_kind hn WLc_49  t_a0 (by omega) (by omega) (by omega) (by omega) h0ZRw_49 h1ZRw_49
          refine wb eq13 ?_
          have e62 := (Zfr.gi fq13 t_a0 (by decide)).trans h1ZRw_49
          have e63 := (Zfr.gi fq13 t_a0 (by decide)).trans h2ZRw_49
          have e64 := (Zfr.gi fq13 t_a0 (by decide)).trans h3ZRw_49
          have k65 := TkN_fr k52 fq13 t_a0 WLc_49 (by decide)
          have F66 := Zfr.tr FLc_49 fq13 (by decide)
          obtain ⟨bf2q13, h0ZScq13, r0ZScq13, r1ZScq13, r2ZScq13, r3ZScq13⟩ := pbZScq13
          obtain ⟨bkkq13, h0Zkdq13, h1Zkdq13, tkkq13⟩ := pbZkdq13
          refine wi (fun hq67 => ?_) (fun hq67 => ?_)
          · have := li_40
            have := i_ge q13.1
            have := i_up q13.1
            have hq67 := i_eq hq67
            obtain ⟨w53, ew53⟩ := go_64 Wq13 t_a0
            refine wb ew53 ?_
            obtain ⟨q52, eq52, Wq52, fq52, pbZSq52⟩ := p_Mo_pass hn Wq13  t_a0 (by omega) (by omega) (by omega) (by omega) h0ZScq13 e62
            refine wb eq52 ?_
            have e70 := (Zfr.gi fq52 t_a0 (by decide)).trans e63
            have e71 := (Zfr.gi fq52 t_a0 (by decide)).trans e64
            have k72 := TkN_fr k65 fq52 t_a0 Wq13 (by decide)
            have F73 := Zfr.tr F66 fq52 (by decide)
            obtain ⟨bf2q52, bt2q52, h0ZSq52, h1ZSq52, r0ZSq52, r1ZSq52, r2ZSq52, r3ZSq52, r4ZSq52, r5ZSq52⟩ := pbZSq52
            obtain ⟨w55, ew55⟩ := go_64 Wq52 t_a0
            refine wb ew55 ?_
            obtain ⟨q54, eq54, Wq54, fq54, pbZSwq54⟩ := p_Mo_within hn Wq52  t_a0 (by omega) (by omega) (by omega) (by omega) (by omega) (by omega) h0ZSq52 h1ZSq52 e70
            refine wb eq54 ?_
            have e77 := (Zfr.gi fq54 t_a0 (by decide)).trans e71
            have e78 := (Zfr.gi fq54 t_a0 (by decide)).trans h1ZSq52
            have k79 := TkN_fr k72 fq54 t_a0 Wq52 (by decide)
            have F80 := Zfr.tr F73 fq54 (by decide)
            obtain ⟨bf2q54, bd2q54, h0ZSwq54, h1ZSwq54, r0ZSwq54, r1ZSwq54, r2ZSwq54, r3ZSwq54, r4ZSwq54, r5ZSwq54⟩ := pbZSwq54
            obtain ⟨w57, ew57⟩ := go_64 Wq54 t_a0
            refine wb ew57 ?_
            obtain ⟨q56, eq56, Wq56, fq56, pbZopq56⟩ := p_Mo_open hn Wq54  t_a0 (by omega) (by omega) e77
            refine wb eq56 ?_
            have e82 := (Zfr.gi fq56 t_a0 (by decide)).trans e78
            have e83 := (Zfr.gi fq56 t_a0 (by decide)).trans h0ZSwq54
            have e84 := (Zfr.gi fq56 t_a0 (by decide)).trans h1ZSwq54
            have k85 := TkN_fr k79 fq56 t_a0 Wq54 (by decide)
            have F86 := Zfr.tr F80 fq56 (by decide)
            obtain ⟨bo2q56, h0Zopq56, r0Zopq56⟩ := pbZopq56
            unfold f_Mo_rows_226
            have := vfi_e e82
            have := vfi_e e83
            exact lInl ⟨rfl, rfl, Wq56, F86, by (try dsimp only); omega, by (try dsimp only); omega, ⟨bf2q54, bt2q52, bd2q54, bo2q56, e83, e82, e84, h0Zopq56, by (try dsimp only); omega, by (try dsimp only); omega, by (try dsimp only); omega, by (try dsimp only); omega, by (try dsimp only); omega, by (try dsimp only); omega, by (try dsimp only); omega, by (try dsimp only); omega, by (try dsimp only); omega, by (try dsimp only); omega, by (try dsimp only); omega⟩⟩ (by (try dsimp only); omega)
          · have := li_40
            have := i_ge q13.1
            have := i_up q13.1
            have hq67 := i_ne hq67
            refine wi (fun hq93 => ?_) (fun hq93 => ?_)
            · have := li_5
              have hq93 := i_eq hq93
              unfold f_Mo_rows_110
              obtain ⟨w18, ew18⟩ := go_64 Wq13 t_a0
              refine wb ew18 ?_
              obtain ⟨q17, eq17, Wq17, fq17, pbZSq17⟩ := p_Mo_single hn Wq13 (a1 := a1) t_a0 (by omega) (by omega) (by omega) (by omega) (by omega) (by omega) (by omega) (by omega) h0ZScq13 e62 e64 k65
              refine wb eq17 ?_
              have e97 := (Zfr.gi fq17 t_a0 (by decide)).trans e63
              have e98 := (Zfr.gi fq17 t_a0 (by decide)).trans e64
              have k99 := TkN_fr k65 fq17 t_a0 Wq13 (by decide)
              have F100 := Zfr.tr F66 fq17 (by decide)
              obtain ⟨bf2q17, bt2q17, h0ZSq17, h1ZSq17, r0ZSq17, r1ZSq17, r2ZSq17, r3ZSq17, r4ZSq17, r5ZSq17⟩ := pbZSq17
              unfold f_Mo_rows_226
              have := vfi_e h1ZSq17
              have := vfi_e h0ZSq17
              exact lInl ⟨rfl, rfl, Wq17, F100, by (try dsimp only); omega, by (try dsimp only); omega, ⟨bf2q17, bt2q17, bd2_49, bo2_49, h0ZSq17, h1ZSq17, e97, e98, by (try dsimp only); omega, by (try dsimp only); omega, by (try dsimp only); omega, by (try dsimp only); omega, by (try dsimp only); omega, by (try dsimp only); omega, by (try dsimp only); omega, by (try dsimp only); omega, by (try dsimp only); omega, by (try dsimp only); omega, by (try dsimp only); omega⟩⟩ (by (try dsimp only); omega)
            · have := li_5
              have hq93 := i_ne hq93
              refine wi (fun hq107 => ?_) (fun hq107 => ?_)
              · have := li_95
                have hq107 := i_eq hq107
                unfold f_Mo_rows_110
                obtain ⟨w18, ew18⟩ := go_64 Wq13 t_a0
                refine wb ew18 ?_
                obtain ⟨q17, eq17, Wq17, fq17, pbZSq17⟩ := p_Mo_single hn Wq13 (a1 := a1) t_a0 (by omega) (by omega) (by omega) (by omega) (by omega) (by omega) (by omega) (by omega) h0ZScq13 e62 e64 k65
                refine wb eq17 ?_
                have e111 := (Zfr.gi fq17 t_a0 (by decide)).trans e63
                have e112 := (Zfr.gi fq17 t_a0 (by decide)).trans e64
                have k113 := TkN_fr k65 fq17 t_a0 Wq13 (by decide)
                have F114 := Zfr.tr F66 fq17 (by decide)
                obtain ⟨bf2q17, bt2q17, h0ZSq17, h1ZSq17, r0ZSq17, r1ZSq17, r2ZSq17, r3ZSq17, r4ZSq17, r5ZSq17⟩ := pbZSq17
                unfold f_Mo_rows_226
                have := vfi_e h1ZSq17
                have := vfi_e h0ZSq17
                exact lInl ⟨rfl, rfl, Wq17, F114, by (try dsimp only); omega, by (try dsimp only); omega, ⟨bf2q17, bt2q17, bd2_49, bo2_49, h0ZSq17, h1ZSq17, e111, e112, by (try dsimp only); omega, by (try dsimp only); omega, by (try dsimp only); omega, by (try dsimp only); omega, by (try dsimp only); omega, by (try dsimp only); omega, by (try dsimp only); omega, by (try dsimp only); omega, by (try dsimp only); omega, by (try dsimp only); omega, by (try dsimp only); omega⟩⟩ (by (try dsimp only); omega)
              · have := li_95
                have hq107 := i_ne hq107
                refine wi (fun hq121 => ?_) (fun hq121 => ?_)
                · have := li_94
                  have hq121 := i_eq hq121
                  unfold f_Mo_rows_110
                  obtain ⟨w18, ew18⟩ := go_64 Wq13 t_a0
                  refine wb ew18 ?_
                  obtain ⟨q17, eq17, Wq17, fq17, pbZSq17⟩ := p_Mo_single hn Wq13 (a1 := a1) t_a0 (by omega) (by omega) (by omega) (by omega) (by omega) (by omega) (by omega) (by omega) h0ZScq13 e62 e64 k65
                  refine wb eq17 ?_
                  have e125 := (Zfr.gi fq17 t_a0 (by decide)).trans e63
                  have e126 := (Zfr.gi fq17 t_a0 (by decide)).trans e64
                  have k127 := TkN_fr k65 fq17 t_a0 Wq13 (by decide)
                  have F128 := Zfr.tr F66 fq17 (by decide)
                  obtain ⟨bf2q17, bt2q17, h0ZSq17, h1ZSq17, r0ZSq17, r1ZSq17, r2ZSq17, r3ZSq17, r4ZSq17, r5ZSq17⟩ := pbZSq17
                  unfold f_Mo_rows_226
                  have := vfi_e h1ZSq17
                  have := vfi_e h0ZSq17
                  exact lInl ⟨rfl, rfl, Wq17, F128, by (try dsimp only); omega, by (try dsimp only); omega, ⟨bf2q17, bt2q17, bd2_49, bo2_49, h0ZSq17, h1ZSq17, e125, e126, by (try dsimp only); omega, by (try dsimp only); omega, by (try dsimp only); omega, by (try dsimp only); omega, by (try dsimp only); omega, by (try dsimp only); omega, by (try dsimp only); omega, by (try dsimp only); omega, by (try dsimp only); omega, by (try dsimp only); omega, by (try dsimp only); omega⟩⟩ (by (try dsimp only); omega)
                · have := li_94
                  have hq121 := i_ne hq121
                  obtain ⟨v21, ev21, tv21⟩ := gf_64_64 Wq13 t_a0
                  refine wb ev21 ?_
                  have := i_sub (a := bo2_49) (b := 1) (by omega) (by omega)
                  obtain ⟨v22, ev22, lv22, uv22⟩ := ga_113 Wq13 tv21 (i := (bo2_49 - 1)) (by omega) (by omega)
                  refine wb ev22 ?_
                  refine wi (fun hq135 => ?_) (fun hq135 => ?_)
                  · have hq135 := i_eq hq135
                    obtain ⟨w51, ew51⟩ := go_64 Wq13 t_a0
                    refine wb ew51 ?_
                    obtain ⟨q50, eq50, Wq50, fq50, pbZSfq50⟩ := p_Mo_wrong hn Wq13  t_a0 (by omega) (by omega) (by omega) (by omega) h0ZScq13 e62
                    refine wb eq50 ?_
                    have e138 := (Zfr.gi fq50 t_a0 (by decide)).trans e62
                    have e139 := (Zfr.gi fq50 t_a0 (by decide)).trans e63
                    have e140 := (Zfr.gi fq50 t_a0 (by decide)).trans e64
                    have k141 := TkN_fr k65 fq50 t_a0 Wq13 (by decide)
                    have F142 := Zfr.tr F66 fq50 (by decide)
                    obtain ⟨bf2q50, h0ZSfq50, r0ZSfq50, r1ZSfq50⟩ := pbZSfq50
                    unfold f_Mo_rows_226
                    have := vfi_e e138
                    have := vfi_e h0ZSfq50
                    exact lInl ⟨rfl, rfl, Wq50, F142, by (try dsimp only); omega, by (try dsimp only); omega, ⟨bf2q50, bt2_49, bd2_49, bo2_49, h0ZSfq50, e138, e139, e140, by (try dsimp only); omega, by (try dsimp only); omega, by (try dsimp only); omega, by (try dsimp only); omega, by (try dsimp only); omega, by (try dsimp only); omega, by (try dsimp only); omega, by (try dsimp only); omega, by (try dsimp only); omega, by (try dsimp only); omega, by (try dsimp only); omega⟩⟩ (by (try dsimp only); omega)
                  · have hq135 := i_ne hq135
                    refine wi (fun hq149 => ?_) (fun hq149 => ?_)
                    · have := li_124
                      have hq149 := i_eq hq149
                      obtain ⟨w45, ew45⟩ := go_64 Wq13 t_a0
                      refine wb ew45 ?_
                      obtain ⟨q44, eq44, Wq44, fq44, pbZSq44⟩ := p_Mo_pass hn Wq13  t_a0 (by omega) (by omega) (by omega) (by omega) h0ZScq13 e62
                      refine wb eq44 ?_
                      have e152 := (Zfr.gi fq44 t_a0 (by decide)).trans e63
                      have e153 := (Zfr.gi fq44 t_a0 (by decide)).trans e64
                      have k154 := TkN_fr k65 fq44 t_a0 Wq13 (by decide)
                      have F155 := Zfr.tr F66 fq44 (by decide)
                      obtain ⟨bf2q44, bt2q44, h0ZSq44, h1ZSq44, r0ZSq44, r1ZSq44, r2ZSq44, r3ZSq44, r4ZSq44, r5ZSq44⟩ := pbZSq44
                      obtain ⟨w47, ew47⟩ := go_64 Wq44 t_a0
                      refine wb ew47 ?_
                      obtain ⟨q46, eq46, Wq46, fq46⟩ := p_Mo_endRow hn Wq44 (a1 := (bo2_49 - 1)) t_a0 (by omega) (by omega)
                      refine wb eq46 ?_
                      have e156 := (Zfr.gi fq46 t_a0 (by decide)).trans e152
                      have e157 := (Zfr.gi fq46 t_a0 (by decide)).trans e153
                      have e158 := (Zfr.gi fq46 t_a0 (by decide)).trans h0ZSq44
                      have e159 := (Zfr.gi fq46 t_a0 (by decide)).trans h1ZSq44
                      have k160 := TkN_fr k154 fq46 t_a0 Wq44 (by decide)
                      have F161 := Zfr.tr F155 fq46 (by decide)
                      obtain ⟨w49, ew49⟩ := go_64 Wq46 t_a0
                      refine wb ew49 ?_
                      obtain ⟨q48, eq48, Wq48, fq48⟩ := p_Mo_beginRow hn Wq46 (a1 := (bo2_49 - 1)) t_a0 (by omega) (by omega)
                      refine wb eq48 ?_
                      have e162 := (Zfr.gi fq48 t_a0 (by decide)).trans e156
                      have e163 := (Zfr.gi fq48 t_a0 (by decide)).trans e157
                      have e164 := (Zfr.gi fq48 t_a0 (by decide)).trans e158
                      have e165 := (Zfr.gi fq48 t_a0 (by decide)).trans e159
                      have k166 := TkN_fr k160 fq48 t_a0 Wq46 (by decide)
                      have F167 := Zfr.tr F161 fq48 (by decide)
                      unfold f_Mo_rows_226
                      have := vfi_e e165
                      have := vfi_e e164
                      exact lInl ⟨rfl, rfl, Wq48, F167, by (try dsimp only); omega, by (try dsimp only); omega, ⟨bf2q44, bt2q44, bd2_49, bo2_49, e164, e165, e162, e163, by (try dsimp only); omega, by (try dsimp only); omega, by (try dsimp only); omega, by (try dsimp only); omega, by (try dsimp only); omega, by (try dsimp only); omega, by (try dsimp only); omega, by (try dsimp only); omega, by (try dsimp only); omega, by (try dsimp only); omega, by (try dsimp only); omega⟩⟩ (by (try dsimp only); omega)
                    · have := li_124
                      have hq149 := i_ne hq149
                      refine wi (fun hq174 => ?_) (fun hq174 => ?_)
                      · have hq174 := i_le hq174
                        obtain ⟨w27, ew27⟩ := go_64 Wq13 t_a0
                        refine wb ew27 ?_
                        obtain ⟨q26, eq26, Wq26, fq26⟩ := p_Mo_endRow hn Wq13 (a1 := 0) t_a0 (by omega) (by omega)
                        refine wb eq26 ?_
                        have e175 := (Zfr.gi fq26 t_a0 (by decide)).trans e62
                        have e176 := (Zfr.gi fq26 t_a0 (by decide)).trans e63
                        have e177 := (Zfr.gi fq26 t_a0 (by decide)).trans e64
                        have e178 := (Zfr.gi fq26 t_a0 (by decide)).trans h0ZScq13
                        have k179 := TkN_fr k65 fq26 t_a0 Wq13 (by decide)
                        have F180 := Zfr.tr F66 fq26 (by decide)
                        unfold f_Mo_rows_226
                        have := vfi_e e175
                        have := vfi_e e178
                        exact lInl ⟨rfl, rfl, Wq26, F180, by (try dsimp only); omega, by (try dsimp only); omega, ⟨bf2q13, bt2_49, bd2_49, bo2_49, e178, e175, e176, e177, by (try dsimp only); omega, by (try dsimp only); omega, by (try dsimp only); omega, by (try dsimp only); omega, by (try dsimp only); omega, by (try dsimp only); omega, by (try dsimp only); omega, by (try dsimp only); omega, by (try dsimp only); omega, by (try dsimp only); omega, by (try dsimp only); omega⟩⟩ (by (try dsimp only); omega)
                      · have hq174 := i_nle hq174
                        obtain ⟨w29, ew29⟩ := go_64 Wq13 t_a0
                        refine wb ew29 ?_
                        have := li_41
                        obtain ⟨q28, eq28, Wq28, fq28, pbZSq28⟩ := p_Mo_need hn Wq13 (a1 := 41) t_a0 (by omega) (by omega) (by omega) (by omega) h0ZScq13 e62
                        refine wb eq28 ?_
                        have e189 := (Zfr.gi fq28 t_a0 (by decide)).trans e63
                        have e190 := (Zfr.gi fq28 t_a0 (by decide)).trans e64
                        have e191 := (Zfr.ai fq28 tkkq13 (by decide)).trans h1Zkdq13
                        have e192 := (Zfr.ai fq28 tv21 (by decide)).trans ev22
                        have k193 := TkN_fr k65 fq28 t_a0 Wq13 (by decide)
                        have F194 := Zfr.tr F66 fq28 (by decide)
                        obtain ⟨bf2q28, bt2q28, h0ZSq28, h1ZSq28, r0ZSq28, r1ZSq28, r2ZSq28, r3ZSq28, r4ZSq28, r5ZSq28⟩ := pbZSq28
                        obtain ⟨w31, ew31⟩ := go_64 Wq28 t_a0
                        refine wb ew31 ?_
                        obtain ⟨q30, eq30, Wq30, fq30⟩ := p_Mo_endRow hn Wq28 (a1 := (bo2_49 - 1)) t_a0 (by omega) (by omega)
                        refine wb eq30 ?_
                        have e195 := (Zfr.gi fq30 t_a0 (by decide)).trans e189
                        have e196 := (Zfr.gi fq30 t_a0 (by decide)).trans e190
                        have e197 := (Zfr.ai fq30 tkkq13 (by decide)).trans e191
                        have e198 := (Zfr.ai fq30 tv21 (by decide)).trans e192
                        have e199 := (Zfr.gi fq30 t_a0 (by decide)).trans h0ZSq28
                        have e200 := (Zfr.gi fq30 t_a0 (by decide)).trans h1ZSq28
                        have k201 := TkN_fr k193 fq30 t_a0 Wq28 (by decide)
                        have F202 := Zfr.tr F194 fq30 (by decide)
                        refine wb e196 ?_
                        obtain ⟨c33, ec33, Wc33, fc33, gc33⟩ := pf_64_65 Wq30 t_a0 (x := (bo2_49 - 1)) (rgi (by omega) (by omega))
                        refine wb ec33 ?_
                        have e203 := (Zfr.gi fc33 t_a0 (by decide)).trans e195
                        have e204 := (Zfr.ai fc33 tkkq13 (by decide)).trans e197
                        have e205 := (Zfr.ai fc33 tv21 (by decide)).trans e198
                        have e206 := (Zfr.gi fc33 t_a0 (by decide)).trans e199
                        have e207 := (Zfr.gi fc33 t_a0 (by decide)).trans e200
                        have k208 := TkN_fr k201 fc33 t_a0 Wq30 (by decide)
                        have F209 := Zfr.tr F202 fc33 (by decide)
                        refine wb e203 ?_
                        have := i_sub (a := bd2_49) (b := 1) (by omega) (by omega)
                        obtain ⟨c35, ec35, Wc35, fc35, gc35⟩ := pf_64_53 Wc33 t_a0 (x := (bd2_49 - 1)) (rgi (by omega) (by omega))
                        refine wb ec35 ?_
                        have e210 := (Zfr.ai fc35 tkkq13 (by decide)).trans e204
                        have e211 := (Zfr.ai fc35 tv21 (by decide)).trans e205
                        have e212 := (Zfr.gi fc35 t_a0 (by decide)).trans e206
                        have e213 := (Zfr.gi fc35 t_a0 (by decide)).trans e207
                        have e214 := (Zfr.gi fc35 t_a0 (by decide)).trans gc33
                        have k215 := TkN_fr k208 fc35 t_a0 Wc33 (by decide)
                        have F216 := Zfr.tr F209 fc35 (by decide)
                        obtain ⟨v36, ev36, tv36⟩ := gf_64_58 Wc35 t_a0
                        refine wb ev36 ?_
                        obtain ⟨v37, ev37, lv37, uv37⟩ := ga_107 Wc35 tv36 (i := (bo2_49 - 1)) (by omega) (by omega)
                        refine wb ev37 ?_
                        obtain ⟨v38, ev38, tv38⟩ := gf_64_59 Wc35 t_a0
                        refine wb ev38 ?_
                        obtain ⟨v39, ev39, _⟩ := ga_108 Wc35 tv38 (i := (bo2_49 - 1)) (by omega) (by omega)
                        refine wb ev39 ?_
                        obtain ⟨v40, ev40, tv40⟩ := gf_64_60 Wc35 t_a0
                        refine wb ev40 ?_
                        obtain ⟨v41, ev41, _⟩ := ga_109 Wc35 tv40 (i := (bo2_49 - 1)) (by omega) (by omega)
                        refine wb ev41 ?_
                        obtain ⟨w43, ew43⟩ := go_64 Wc35 t_a0
                        refine wb ew43 ?_
                        obtain ⟨q42, eq42, Wq42, fq42, pbZSzq42⟩ := p_Mo_step hn Wc35 (a1 := a1) (a2 := v37) (a3 := v39) (a4 := v41) t_a0 (by omega) (by omega) (by omega) (by omega) (by omega) (by omega) (by omega) (by omega) (by omega) (by omega) e212 e213 e214
                        refine wb eq42 ?_
                        have e220 := (Zfr.gi fq42 t_a0 (by decide)).trans e214
                        have e221 := (Zfr.gi fq42 t_a0 (by decide)).trans gc35
                        have k222 := TkN_fr k215 fq42 t_a0 Wc35 (by decide)
                        have F223 := Zfr.tr F216 fq42 (by decide)
                        obtain ⟨bf2q42, bt2q42, h0ZSzq42, h1ZSzq42, r0ZSzq42, r1ZSzq42, r2ZSzq42, r3ZSzq42, r4ZSzq42, r5ZSzq42⟩ := pbZSzq42
                        unfold f_Mo_rows_226
                        have := vfi_e h1ZSzq42
                        have := vfi_e h0ZSzq42
                        exact lInl ⟨rfl, rfl, Wq42, F223, by (try dsimp only); omega, by (try dsimp only); omega, ⟨bf2q42, bt2q42, (bd2_49 - 1), (bo2_49 - 1), h0ZSzq42, h1ZSzq42, e221, e220, by (try dsimp only); omega, by (try dsimp only); omega, by (try dsimp only); omega, by (try dsimp only); omega, by (try dsimp only); omega, by (try dsimp only); omega, by (try dsimp only); omega, by (try dsimp only); omega, by (try dsimp only); omega, by (try dsimp only); omega, by (try dsimp only); omega⟩⟩ (by (try dsimp only); omega)
        · have hq59 := i_ne hq59
          exact lInr ⟨rfl, rfl, WLc_49, FLc_49, ⟨bf2_49, bt2_49, bd2_49, h0ZRw_49, h1ZRw_49, h2ZRw_49, by (try dsimp only); omega, by (try dsimp only); omega, by (try dsimp only); omega, by (try dsimp only); omega, by (try dsimp only); omega, by (try dsimp only); omega, by (try dsimp only); omega, by (try dsimp only); omega⟩⟩
    · exact ⟨rfl, rfl, Wq7, Zfr.rf, by (try dsimp only); omega, by (try dsimp only); omega, ⟨fv, tv, dv, bo2q7, e34, e35, e36, h0Zopq7, by (try dsimp only); omega, by (try dsimp only); omega, by (try dsimp only); omega, by (try dsimp only); omega, by (try dsimp only); omega, by (try dsimp only); omega, by (try dsimp only); omega, by (try dsimp only); omega, by (try dsimp only); omega, by (try dsimp only); omega, by (try dsimp only); omega⟩⟩
    · (try dsimp only); omega
  obtain ⟨b, eb, hb⟩ := L48
  refine wb eb ?_
  clear eb
  obtain ⟨z0_237, z1_237, c_237⟩ := b
  try dsimp only at hb ⊢
  obtain ⟨rfl, rfl, WXc_237, FXc_237, hXZSdc_237⟩ := hb
  have k238 := TkN_fr k38 FXc_237 t_a0 Wq7 (by decide)
  have F239 := Zfr.tr F39 FXc_237 (by decide)
  obtain ⟨bf2xc_237, bt2xc_237, bd2xc_237, h0ZSdxc_237, h1ZSdxc_237, h2ZSdxc_237, r0ZSdxc_237, r1ZSdxc_237, r2ZSdxc_237, r3ZSdxc_237, r4ZSdxc_237, r5ZSdxc_237, r6ZSdxc_237, r7ZSdxc_237⟩ := hXZSdc_237
  unfold f_Mo_rows_229
  obtain ⟨v58, ev58, tv58⟩ := gf_64_36 WXc_237 t_a0
  refine wb ev58 ?_
  obtain ⟨v59, ev59, tv59⟩ := gf_64_58 WXc_237 t_a0
  refine wb ev59 ?_
  obtain ⟨v60, ev60, lv60, uv60⟩ := ga_107 WXc_237 tv59 (i := 0) (by omega) (by omega)
  refine wb ev60 ?_
  have := nb_id (x := v60) (by omega) (by omega)
  obtain ⟨c61, ec61, Wc61, fc61, gc61⟩ := pa_89 WXc_237 tv58 (i := a1) (by omega) (by omega) (x := (vp_nar .boolean v60)) (rgi (by omega) (by omega))
  refine wb ec61 ?_
  have e240 := (Zfr.gi fc61 t_a0 (by decide)).trans h0ZSdxc_237
  have e241 := (Zfr.gi fc61 t_a0 (by decide)).trans h1ZSdxc_237
  have e242 := (Zfr.gi fc61 t_a0 (by decide)).trans h2ZSdxc_237
  have e243 := (Zfr.ai fc61 tv59 (by decide)).trans ev60
  have k244 := TkN_fr k238 fc61 t_a0 WXc_237 (by decide)
  have F245 := Zfr.tr F239 fc61 (by decide)
  obtain ⟨v62, ev62, tv62⟩ := gf_64_37 Wc61 t_a0
  refine wb ev62 ?_
  obtain ⟨v63, ev63, tv63⟩ := gf_64_59 Wc61 t_a0
  refine wb ev63 ?_
  obtain ⟨v64, ev64, _⟩ := ga_108 Wc61 tv63 (i := 0) (by omega) (by omega)
  refine wb ev64 ?_
  obtain ⟨c65, ec65, Wc65, fc65, gc65⟩ := pa_90 Wc61 tv62 (i := a1) (by omega) (by omega) (x := v64) (trivial)
  refine wb ec65 ?_
  have e246 := (Zfr.gi fc65 t_a0 (by decide)).trans e240
  have e247 := (Zfr.gi fc65 t_a0 (by decide)).trans e241
  have e248 := (Zfr.gi fc65 t_a0 (by decide)).trans e242
  have e249 := (Zfr.ai fc65 tv59 (by decide)).trans e243
  have e250 := (Zfr.ai fc65 tv58 (by decide)).trans gc61
  have e251 := (Zfr.ai fc65 tv63 (by decide)).trans ev64
  have k252 := TkN_fr k244 fc65 t_a0 Wc61 (by decide)
  have F253 := Zfr.tr F245 fc65 (by decide)
  obtain ⟨v66, ev66, tv66⟩ := gf_64_38 Wc65 t_a0
  refine wb ev66 ?_
  obtain ⟨v67, ev67, tv67⟩ := gf_64_60 Wc65 t_a0
  refine wb ev67 ?_
  obtain ⟨v68, ev68, _⟩ := ga_109 Wc65 tv67 (i := 0) (by omega) (by omega)
  refine wb ev68 ?_
  obtain ⟨c69, ec69, Wc69, fc69, gc69⟩ := pa_91 Wc65 tv66 (i := a1) (by omega) (by omega) (x := v68) (trivial)
  refine wb ec69 ?_
  have e254 := (Zfr.gi fc69 t_a0 (by decide)).trans e246
  have e255 := (Zfr.gi fc69 t_a0 (by decide)).trans e247
  have e256 := (Zfr.gi fc69 t_a0 (by decide)).trans e248
  have k257 := TkN_fr k252 fc69 t_a0 Wc65 (by decide)
  have F258 := Zfr.tr F253 fc69 (by decide)
  exact ⟨_, rfl, Wc69, F258, ⟨bf2xc_237, bt2xc_237, bd2xc_237, e254, e255, e256, by (try dsimp only); omega, by (try dsimp only); omega, by (try dsimp only); omega, by (try dsimp only); omega, by (try dsimp only); omega, by (try dsimp only); omega, by (try dsimp only); omega, by (try dsimp only); omega⟩⟩

end ZzT
