section ZzT
abbrev M_PQ_node : List (Nat × Nat) := [(1, 7), (1, 9), (15, 0)]
set_option maxRecDepth 100000 in
set_option maxHeartbeats 400000 in
theorem p_PQ_node {nf : Nat} (hn : 8589934592 ≤ nf) {G : List Nat} {c : Zc} (W : Zwt zty G c) {a0 : Nat} {a1 : Int32}  (t_a0 : G[a0]? = some 14) : ∃ q, f_PQ_node nf a0 a1 c = some q ∧ Zwt zty G q.2 ∧ Zfr G M_PQ_node c q.2 := by
  have F0 : Zfr G M_PQ_node c c := Zfr.rf
  unfold f_PQ_node
  have J1 : ∃ q, f_PQ_node_11 nf c = some q ∧ Zwt zty G q.2 ∧ Zfr G M_PQ_node c q.2 := by
    unfold f_PQ_node_11
    have := li_m1
    exact ⟨_, rfl, W, F0⟩
  refine wi (fun hq2 => ?_) (fun hq2 => ?_)
  · have := li_0
    have := i_ge a1
    have := i_up a1
    have hq2 := i_lt hq2
    exact J1
  · have := li_0
    have := i_ge a1
    have := i_up a1
    have hq2 := i_nlt hq2
    refine wi (fun hq3 => ?_) (fun hq3 => ?_)
    · have := li_256
      have hq3 := i_lt hq3
      obtain ⟨v3, ev3, tv3⟩ := gf_14_1 W t_a0
      refine wb ev3 ?_
      obtain ⟨w5, ew5⟩ := go_1 W tv3
      refine wb ew5 ?_
      obtain ⟨q4, eq4, Wq4, fq4⟩ := p_Graph_addNode hn W (a1 := a1) tv3 (by omega) (by omega)
      refine wb eq4 ?_
      have F4 := Zfr.tr F0 fq4 (by decide)
      exact ⟨_, rfl, Wq4, F4⟩
    · have := li_256
      have hq3 := i_nlt hq3
      exact J1

abbrev M_PQ_mark : List (Nat × Nat) := [(1, 9), (15, 0)]
set_option maxRecDepth 100000 in
set_option maxHeartbeats 400000 in
theorem p_PQ_mark {nf : Nat} (hn : 8589934592 ≤ nf) {G : List Nat} {c : Zc} (W : Zwt zty G c) {a0 : Nat} {a1 : Int32} {a2 : Int32}  (t_a0 : G[a0]? = some 14) : ∃ q, f_PQ_mark nf a0 a1 a2 c = some q ∧ Zwt zty G q.2 ∧ Zfr G M_PQ_mark c q.2 := by
  have F0 : Zfr G M_PQ_mark c c := Zfr.rf
  unfold f_PQ_mark
  obtain ⟨v1, ev1, tv1⟩ := gf_14_1 W t_a0
  refine wb ev1 ?_
  obtain ⟨w3, ew3⟩ := go_1 W tv1
  refine wb ew3 ?_
  obtain ⟨q2, eq2, Wq2, fq2, po0q2, pl1q2, pu1q2⟩ := p_Graph_isNode hn W (a1 := a1) tv1
  refine wb eq2 ?_
  have e1 := (Zfr.gr fq2 t_a0 (by decide)).trans ev1
  have F2 := Zfr.tr F0 fq2 (by decide)
  refine wi (fun hq3 => ?_) (fun hq3 => ?_)
  · have := li_0
    have hq3 := i_eq hq3
    unfold f_PQ_mark_22
    have := li_m1
    exact ⟨_, rfl, Wq2, F2⟩
  · have := li_0
    have hq3 := i_ne hq3
    refine wi (fun hq4 => ?_) (fun hq4 => ?_)
    · have := i_ge a2
      have := i_up a2
      have hq4 := i_lt hq4
      unfold f_PQ_mark_22
      have := li_m1
      exact ⟨_, rfl, Wq2, F2⟩
    · have := i_ge a2
      have := i_up a2
      have hq4 := i_nlt hq4
      refine wi (fun hq5 => ?_) (fun hq5 => ?_)
      · have := li_256
        have hq5 := i_lt hq5
        refine wb e1 ?_
        obtain ⟨w9, ew9⟩ := go_1 Wq2 tv1
        refine wb ew9 ?_
        obtain ⟨q8, eq8, Wq8, fq8⟩ := p_Graph_changeMarks hn Wq2 (a1 := a1) (a2 := a2) tv1 (by omega) (by omega) (by omega) (by omega)
        refine wb eq8 ?_
        have F6 := Zfr.tr F2 fq8 (by decide)
        exact ⟨_, rfl, Wq8, F6⟩
      · have := li_256
        have hq5 := i_nlt hq5
        unfold f_PQ_mark_22
        have := li_m1
        exact ⟨_, rfl, Wq2, F2⟩

abbrev M_PQ_put : List (Nat × Nat) := [(1, 9), (16, 0)]
set_option maxRecDepth 100000 in
set_option maxHeartbeats 400000 in
theorem p_PQ_put {nf : Nat} (hn : 8589934592 ≤ nf) {G : List Nat} {c : Zc} (W : Zwt zty G c) {a0 : Nat} {a1 : Int32} {a2 : Int32} {a3 : Int32}  (t_a0 : G[a0]? = some 14) : ∃ q, f_PQ_put nf a0 a1 a2 a3 c = some q ∧ Zwt zty G q.2 ∧ Zfr G M_PQ_put c q.2 := by
  have F0 : Zfr G M_PQ_put c c := Zfr.rf
  unfold f_PQ_put
  obtain ⟨v1, ev1, tv1⟩ := gf_14_1 W t_a0
  refine wb ev1 ?_
  obtain ⟨w3, ew3⟩ := go_1 W tv1
  refine wb ew3 ?_
  obtain ⟨q2, eq2, Wq2, fq2, po0q2, pl1q2, pu1q2⟩ := p_Graph_isNode hn W (a1 := a1) tv1
  refine wb eq2 ?_
  have e1 := (Zfr.gr fq2 t_a0 (by decide)).trans ev1
  have F2 := Zfr.tr F0 fq2 (by decide)
  refine wi (fun hq3 => ?_) (fun hq3 => ?_)
  · have := li_0
    have hq3 := i_eq hq3
    unfold f_PQ_put_24
    unfold f_PQ_put_25
    refine wi (fun hq4 => ?_) (fun hq4 => ?_)
    · have hq4 := i_eq hq4
      unfold f_PQ_put_46
      have := li_10000
      exact ⟨_, rfl, Wq2, F2⟩
    · have hq4 := i_ne hq4
      refine wi (fun hq5 => ?_) (fun hq5 => ?_)
      · have := li_m9999
        have := i_ge a3
        have := i_up a3
        have hq5 := i_lt hq5
        unfold f_PQ_put_46
        have := li_10000
        exact ⟨_, rfl, Wq2, F2⟩
      · have := li_m9999
        have := i_ge a3
        have := i_up a3
        have hq5 := i_nlt hq5
        refine wi (fun hq6 => ?_) (fun hq6 => ?_)
        · have := li_9999
          have hq6 := i_le hq6
          refine wb e1 ?_
          obtain ⟨w10, ew10⟩ := go_1 Wq2 tv1
          refine wb ew10 ?_
          obtain ⟨q9, eq9, Wq9, fq9⟩ := p_Graph_changeColumn hn Wq2 (a1 := a1) (a2 := a2) (a3 := a3) tv1 (by omega) (by omega) (by omega) (by omega) (by omega) (by omega)
          refine wb eq9 ?_
          have F7 := Zfr.tr F2 fq9 (by decide)
          exact ⟨_, rfl, Wq9, F7⟩
        · have := li_9999
          have hq6 := i_nle hq6
          unfold f_PQ_put_46
          have := li_10000
          exact ⟨_, rfl, Wq2, F2⟩
  · have := li_0
    have hq3 := i_ne hq3
    refine wi (fun hq8 => ?_) (fun hq8 => ?_)
    · have := i_ge a2
      have := i_up a2
      have hq8 := i_lt hq8
      unfold f_PQ_put_24
      unfold f_PQ_put_25
      refine wi (fun hq9 => ?_) (fun hq9 => ?_)
      · have hq9 := i_eq hq9
        unfold f_PQ_put_46
        have := li_10000
        exact ⟨_, rfl, Wq2, F2⟩
      · have hq9 := i_ne hq9
        refine wi (fun hq10 => ?_) (fun hq10 => ?_)
        · have := li_m9999
          have := i_ge a3
          have := i_up a3
          have hq10 := i_lt hq10
          unfold f_PQ_put_46
          have := li_10000
          exact ⟨_, rfl, Wq2, F2⟩
        · have := li_m9999
          have := i_ge a3
          have := i_up a3
          have hq10 := i_nlt hq10
          refine wi (fun hq11 => ?_) (fun hq11 => ?_)
          · have := li_9999
            have hq11 := i_le hq11
            refine wb e1 ?_
            obtain ⟨w10, ew10⟩ := go_1 Wq2 tv1
            refine wb ew10 ?_
            obtain ⟨q9, eq9, Wq9, fq9⟩ := p_Graph_changeColumn hn Wq2 (a1 := a1) (a2 := a2) (a3 := a3) tv1 (by omega) (by omega) (by omega) (by omega) (by omega) (by omega)
            refine wb eq9 ?_
            have F12 := Zfr.tr F2 fq9 (by decide)
            exact ⟨_, rfl, Wq9, F12⟩
          · have := li_9999
            have hq11 := i_nle hq11
            unfold f_PQ_put_46
            have := li_10000
            exact ⟨_, rfl, Wq2, F2⟩
    · have := i_ge a2
      have := i_up a2
      have hq8 := i_nlt hq8
      refine wi (fun hq13 => ?_) (fun hq13 => ?_)
      · have := li_4
        have hq13 := i_le hq13
        unfold f_PQ_put_24
        unfold f_PQ_put_25
        refine wi (fun hq14 => ?_) (fun hq14 => ?_)
        · have hq14 := i_eq hq14
          unfold f_PQ_put_46
          have := li_10000
          exact ⟨_, rfl, Wq2, F2⟩
        · have hq14 := i_ne hq14
          refine wi (fun hq15 => ?_) (fun hq15 => ?_)
          · have := li_m9999
            have := i_ge a3
            have := i_up a3
            have hq15 := i_lt hq15
            unfold f_PQ_put_46
            have := li_10000
            exact ⟨_, rfl, Wq2, F2⟩
          · have := li_m9999
            have := i_ge a3
            have := i_up a3
            have hq15 := i_nlt hq15
            refine wi (fun hq16 => ?_) (fun hq16 => ?_)
            · have := li_9999
              have hq16 := i_le hq16
              refine wb e1 ?_
              obtain ⟨w10, ew10⟩ := go_1 Wq2 tv1
              refine wb ew10 ?_
              obtain ⟨q9, eq9, Wq9, fq9⟩ := p_Graph_changeColumn hn Wq2 (a1 := a1) (a2 := a2) (a3 := a3) tv1 (by omega) (by omega) (by omega) (by omega) (by omega) (by omega)
              refine wb eq9 ?_
              have F17 := Zfr.tr F2 fq9 (by decide)
              exact ⟨_, rfl, Wq9, F17⟩
            · have := li_9999
              have hq16 := i_nle hq16
              unfold f_PQ_put_46
              have := li_10000
              exact ⟨_, rfl, Wq2, F2⟩
      · have := li_4
        have hq13 := i_nle hq13
        unfold f_PQ_put_25
        refine wi (fun hq18 => ?_) (fun hq18 => ?_)
        · have := li_1
          have hq18 := i_eq hq18
          unfold f_PQ_put_46
          have := li_10000
          exact ⟨_, rfl, Wq2, F2⟩
        · have := li_1
          have hq18 := i_ne hq18
          refine wi (fun hq19 => ?_) (fun hq19 => ?_)
          · have := li_m9999
            have := i_ge a3
            have := i_up a3
            have hq19 := i_lt hq19
            unfold f_PQ_put_46
            have := li_10000
            exact ⟨_, rfl, Wq2, F2⟩
          · have := li_m9999
            have := i_ge a3
            have := i_up a3
            have hq19 := i_nlt hq19
            refine wi (fun hq20 => ?_) (fun hq20 => ?_)
            · have := li_9999
              have hq20 := i_le hq20
              refine wb e1 ?_
              obtain ⟨w10, ew10⟩ := go_1 Wq2 tv1
              refine wb ew10 ?_
              obtain ⟨q9, eq9, Wq9, fq9⟩ := p_Graph_changeColumn hn Wq2 (a1 := a1) (a2 := a2) (a3 := a3) tv1 (by omega) (by omega) (by omega) (by omega) (by omega) (by omega)
              refine wb eq9 ?_
              have F21 := Zfr.tr F2 fq9 (by decide)
              exact ⟨_, rfl, Wq9, F21⟩
            · have := li_9999
              have hq20 := i_nle hq20
              unfold f_PQ_put_46
              have := li_10000
              exact ⟨_, rfl, Wq2, F2⟩

abbrev M_PQ_arc : List (Nat × Nat) := [(1, 8), (1, 9), (17, 0), (18, 0), (19, 0), (20, 0)]
set_option maxRecDepth 100000 in
set_option maxHeartbeats 400000 in
theorem p_PQ_arc {nf : Nat} (hn : 8589934592 ≤ nf) {G : List Nat} {c : Zc} (W : Zwt zty G c) {a0 : Nat} {a1 : Int32} {a2 : Int32} {a3 : Int32} {a4 : Int32}  (t_a0 : G[a0]? = some 14) : ∃ q, f_PQ_arc nf a0 a1 a2 a3 a4 c = some q ∧ Zwt zty G q.2 ∧ Zfr G M_PQ_arc c q.2 := by
  have F0 : Zfr G M_PQ_arc c c := Zfr.rf
  unfold f_PQ_arc
  obtain ⟨v1, ev1, tv1⟩ := gf_14_1 W t_a0
  refine wb ev1 ?_
  obtain ⟨w3, ew3⟩ := go_1 W tv1
  refine wb ew3 ?_
  obtain ⟨q2, eq2, Wq2, fq2, po0q2, pl1q2, pu1q2⟩ := p_Graph_isNode hn W (a1 := a1) tv1
  refine wb eq2 ?_
  have e1 := (Zfr.gr fq2 t_a0 (by decide)).trans ev1
  have F2 := Zfr.tr F0 fq2 (by decide)
  refine wi (fun hq3 => ?_) (fun hq3 => ?_)
  · have := li_0
    have hq3 := i_eq hq3
    unfold f_PQ_arc_36
    unfold f_PQ_arc_37
    refine wi (fun hq4 => ?_) (fun hq4 => ?_)
    · have hq4 := i_eq hq4
      unfold f_PQ_arc_56
      have := li_m1
      exact ⟨_, rfl, Wq2, F2⟩
    · have hq4 := i_ne hq4
      refine wi (fun hq5 => ?_) (fun hq5 => ?_)
      · have := i_ge a4
        have := i_up a4
        have hq5 := i_lt hq5
        unfold f_PQ_arc_56
        have := li_m1
        exact ⟨_, rfl, Wq2, F2⟩
      · have := i_ge a4
        have := i_up a4
        have hq5 := i_nlt hq5
        refine wi (fun hq6 => ?_) (fun hq6 => ?_)
        · have := li_99
          have hq6 := i_le hq6
          refine wb e1 ?_
          obtain ⟨w10, ew10⟩ := go_1 Wq2 tv1
          refine wb ew10 ?_
          obtain ⟨q9, eq9, Wq9, fq9⟩ := p_Graph_addArc hn Wq2 (a1 := a1) (a2 := a2) (a3 := a3) (a4 := a4) tv1 (by omega) (by omega) (by omega) (by omega) (by omega) (by omega) (by omega) (by omega)
          refine wb eq9 ?_
          have F7 := Zfr.tr F2 fq9 (by decide)
          exact ⟨_, rfl, Wq9, F7⟩
        · have := li_99
          have hq6 := i_nle hq6
          unfold f_PQ_arc_56
          have := li_m1
          exact ⟨_, rfl, Wq2, F2⟩
  · have := li_0
    have hq3 := i_ne hq3
    refine wb e1 ?_
    obtain ⟨w13, ew13⟩ := go_1 Wq2 tv1
    refine wb ew13 ?_
    obtain ⟨q12, eq12, Wq12, fq12, po0q12, pl1q12, pu1q12⟩ := p_Graph_isNode hn Wq2 (a1 := a2) tv1
    refine wb eq12 ?_
    have e8 := (Zfr.gr fq12 t_a0 (by decide)).trans e1
    have F9 := Zfr.tr F2 fq12 (by decide)
    refine wi (fun hq10 => ?_) (fun hq10 => ?_)
    · have hq10 := i_eq hq10
      unfold f_PQ_arc_36
      unfold f_PQ_arc_37
      refine wi (fun hq11 => ?_) (fun hq11 => ?_)
      · have hq11 := i_eq hq11
        unfold f_PQ_arc_56
        have := li_m1
        exact ⟨_, rfl, Wq12, F9⟩
      · have hq11 := i_ne hq11
        refine wi (fun hq12 => ?_) (fun hq12 => ?_)
        · have := i_ge a4
          have := i_up a4
          have hq12 := i_lt hq12
          unfold f_PQ_arc_56
          have := li_m1
          exact ⟨_, rfl, Wq12, F9⟩
        · have := i_ge a4
          have := i_up a4
          have hq12 := i_nlt hq12
          refine wi (fun hq13 => ?_) (fun hq13 => ?_)
          · have := li_99
            have hq13 := i_le hq13
            refine wb e8 ?_
            obtain ⟨w10, ew10⟩ := go_1 Wq12 tv1
            refine wb ew10 ?_
            obtain ⟨q9, eq9, Wq9, fq9⟩ := p_Graph_addArc hn Wq12 (a1 := a1) (a2 := a2) (a3 := a3) (a4 := a4) tv1 (by omega) (by omega) (by omega) (by omega) (by omega) (by omega) (by omega) (by omega)
            refine wb eq9 ?_
            have F14 := Zfr.tr F9 fq9 (by decide)
            exact ⟨_, rfl, Wq9, F14⟩
          · have := li_99
            have hq13 := i_nle hq13
            unfold f_PQ_arc_56
            have := li_m1
            exact ⟨_, rfl, Wq12, F9⟩
    · have hq10 := i_ne hq10
      refine wi (fun hq15 => ?_) (fun hq15 => ?_)
      · have := i_ge a3
        have := i_up a3
        have hq15 := i_lt hq15
        unfold f_PQ_arc_36
        unfold f_PQ_arc_37
        refine wi (fun hq16 => ?_) (fun hq16 => ?_)
        · have hq16 := i_eq hq16
          unfold f_PQ_arc_56
          have := li_m1
          exact ⟨_, rfl, Wq12, F9⟩
        · have hq16 := i_ne hq16
          refine wi (fun hq17 => ?_) (fun hq17 => ?_)
          · have := i_ge a4
            have := i_up a4
            have hq17 := i_lt hq17
            unfold f_PQ_arc_56
            have := li_m1
            exact ⟨_, rfl, Wq12, F9⟩
          · have := i_ge a4
            have := i_up a4
            have hq17 := i_nlt hq17
            refine wi (fun hq18 => ?_) (fun hq18 => ?_)
            · have := li_99
              have hq18 := i_le hq18
              refine wb e8 ?_
              obtain ⟨w10, ew10⟩ := go_1 Wq12 tv1
              refine wb ew10 ?_
              obtain ⟨q9, eq9, Wq9, fq9⟩ := p_Graph_addArc hn Wq12 (a1 := a1) (a2 := a2) (a3 := a3) (a4 := a4) tv1 (by omega) (by omega) (by omega) (by omega) (by omega) (by omega) (by omega) (by omega)
              refine wb eq9 ?_
              have F19 := Zfr.tr F9 fq9 (by decide)
              exact ⟨_, rfl, Wq9, F19⟩
            · have := li_99
              have hq18 := i_nle hq18
              unfold f_PQ_arc_56
              have := li_m1
              exact ⟨_, rfl, Wq12, F9⟩
      · have := i_ge a3
        have := i_up a3
        have hq15 := i_nlt hq15
        refine wi (fun hq20 => ?_) (fun hq20 => ?_)
        · have := li_8
          have hq20 := i_le hq20
          unfold f_PQ_arc_36
          unfold f_PQ_arc_37
          refine wi (fun hq21 => ?_) (fun hq21 => ?_)
          · have hq21 := i_eq hq21
            unfold f_PQ_arc_56
            have := li_m1
            exact ⟨_, rfl, Wq12, F9⟩
          · have hq21 := i_ne hq21
            refine wi (fun hq22 => ?_) (fun hq22 => ?_)
            · have := i_ge a4
              have := i_up a4
              have hq22 := i_lt hq22
              unfold f_PQ_arc_56
              have := li_m1
              exact ⟨_, rfl, Wq12, F9⟩
            · have := i_ge a4
              have := i_up a4
              have hq22 := i_nlt hq22
              refine wi (fun hq23 => ?_) (fun hq23 => ?_)
              · have := li_99
                have hq23 := i_le hq23
                refine wb e8 ?_
                obtain ⟨w10, ew10⟩ := go_1 Wq12 tv1
                refine wb ew10 ?_
                obtain ⟨q9, eq9, Wq9, fq9⟩ := p_Graph_addArc hn Wq12 (a1 := a1) (a2 := a2) (a3 := a3) (a4 := a4) tv1 (by omega) (by omega) (by omega) (by omega) (by omega) (by omega) (by omega) (by omega)
                refine wb eq9 ?_
                have F24 := Zfr.tr F9 fq9 (by decide)
                exact ⟨_, rfl, Wq9, F24⟩
              · have := li_99
                have hq23 := i_nle hq23
                unfold f_PQ_arc_56
                have := li_m1
                exact ⟨_, rfl, Wq12, F9⟩
        · have := li_8
          have hq20 := i_nle hq20
          unfold f_PQ_arc_37
          refine wi (fun hq25 => ?_) (fun hq25 => ?_)
          · have := li_1
            have hq25 := i_eq hq25
            unfold f_PQ_arc_56
            have := li_m1
            exact ⟨_, rfl, Wq12, F9⟩
          · have := li_1
            have hq25 := i_ne hq25
            refine wi (fun hq26 => ?_) (fun hq26 => ?_)
            · have := i_ge a4
              have := i_up a4
              have hq26 := i_lt hq26
              unfold f_PQ_arc_56
              have := li_m1
              exact ⟨_, rfl, Wq12, F9⟩
            · have := i_ge a4
              have := i_up a4
              have hq26 := i_nlt hq26
              refine wi (fun hq27 => ?_) (fun hq27 => ?_)
              · have := li_99
                have hq27 := i_le hq27
                refine wb e8 ?_
                obtain ⟨w10, ew10⟩ := go_1 Wq12 tv1
                refine wb ew10 ?_
                obtain ⟨q9, eq9, Wq9, fq9⟩ := p_Graph_addArc hn Wq12 (a1 := a1) (a2 := a2) (a3 := a3) (a4 := a4) tv1 (by omega) (by omega) (by omega) (by omega) (by omega) (by omega) (by omega) (by omega)
                refine wb eq9 ?_
                have F28 := Zfr.tr F9 fq9 (by decide)
                exact ⟨_, rfl, Wq9, F28⟩
              · have := li_99
                have hq27 := i_nle hq27
                unfold f_PQ_arc_56
                have := li_m1
                exact ⟨_, rfl, Wq12, F9⟩

abbrev M_PQ_drop : List (Nat × Nat) := [(1, 8), (1, 9), (19, 0)]
set_option maxRecDepth 100000 in
set_option maxHeartbeats 400000 in
theorem p_PQ_drop {nf : Nat} (hn : 8589934592 ≤ nf) {G : List Nat} {c : Zc} (W : Zwt zty G c) {a0 : Nat} {a1 : Int32}  (t_a0 : G[a0]? = some 14) : ∃ q, f_PQ_drop nf a0 a1 c = some q ∧ Zwt zty G q.2 ∧ Zfr G M_PQ_drop c q.2 := by
  have F0 : Zfr G M_PQ_drop c c := Zfr.rf
  unfold f_PQ_drop
  obtain ⟨v1, ev1, tv1⟩ := gf_14_1 W t_a0
  refine wb ev1 ?_
  obtain ⟨w3, ew3⟩ := go_1 W tv1
  refine wb ew3 ?_
  obtain ⟨q2, eq2, Wq2, fq2, po0q2, pl1q2, pu1q2⟩ := p_Graph_isArc hn W (a1 := a1) tv1
  refine wb eq2 ?_
  have e1 := (Zfr.gr fq2 t_a0 (by decide)).trans ev1
  have F2 := Zfr.tr F0 fq2 (by decide)
  refine wi (fun hq3 => ?_) (fun hq3 => ?_)
  · have := li_0
    have hq3 := i_eq hq3
    have := li_m1
    exact ⟨_, rfl, Wq2, F2⟩
  · have := li_0
    have hq3 := i_ne hq3
    refine wb e1 ?_
    obtain ⟨w7, ew7⟩ := go_1 Wq2 tv1
    refine wb ew7 ?_
    obtain ⟨q6, eq6, Wq6, fq6⟩ := p_Graph_removeArc hn Wq2 (a1 := a1) tv1 (by omega) (by omega)
    refine wb eq6 ?_
    have e4 := (Zfr.gr fq6 t_a0 (by decide)).trans e1
    have F5 := Zfr.tr F2 fq6 (by decide)
    refine wb e4 ?_
    obtain ⟨v9, ev9, _⟩ := gf_1_8 Wq6 tv1
    refine wb ev9 ?_
    exact ⟨_, rfl, Wq6, F5⟩

abbrev M_PQ_told : List (Nat × Nat) := []
set_option maxRecDepth 100000 in
set_option maxHeartbeats 400000 in
theorem p_PQ_told {nf : Nat} (hn : 8589934592 ≤ nf) {G : List Nat} {c : Zc} (W : Zwt zty G c) {a0 : Nat} {a1 : Int32} {a2 : Int32}  (t_a0 : G[a0]? = some 14) : ∃ q, f_PQ_told nf a0 a1 a2 c = some q ∧ Zwt zty G q.2 ∧ Zfr G M_PQ_told c q.2 := by
  have F0 : Zfr G M_PQ_told c c := Zfr.rf
  unfold f_PQ_told
  have J1 : ∃ q, f_PQ_told_103 nf c = some q ∧ Zwt zty G q.2 ∧ Zfr G M_PQ_told c q.2 := by
    unfold f_PQ_told_103
    have := li_10000
    exact ⟨_, rfl, W, F0⟩
  have J2 : ∃ q, f_PQ_told_70 nf a0 a1 a2 c = some q ∧ Zwt zty G q.2 ∧ Zfr G M_PQ_told c q.2 := by
    unfold f_PQ_told_70
    refine wi (fun hq3 => ?_) (fun hq3 => ?_)
    · have := li_10
      have := i_ge a1
      have := i_up a1
      have hq3 := i_lt hq3
      exact J1
    · have := li_10
      have := i_ge a1
      have := i_up a1
      have hq3 := i_nlt hq3
      refine wi (fun hq4 => ?_) (fun hq4 => ?_)
      · have := li_13
        have hq4 := i_lt hq4
        exact J1
      · have := li_13
        have hq4 := i_nlt hq4
        obtain ⟨v7, ev7, tv7⟩ := gf_14_1 W t_a0
        refine wb ev7 ?_
        obtain ⟨w9, ew9⟩ := go_1 W tv7
        refine wb ew9 ?_
        obtain ⟨q8, eq8, Wq8, fq8, po0q8, pl1q8, pu1q8⟩ := p_Graph_isArc hn W (a1 := a2) tv7
        refine wb eq8 ?_
        have e5 := (Zfr.gr fq8 t_a0 (by decide)).trans ev7
        have F6 := Zfr.tr F0 fq8 (by decide)
        refine wi (fun hq7 => ?_) (fun hq7 => ?_)
        · have := li_0
          have hq7 := i_eq hq7
          unfold f_PQ_told_103
          have := li_10000
          exact ⟨_, rfl, Wq8, F6⟩
        · have := li_0
          have hq7 := i_ne hq7
          refine wb e5 ?_
          obtain ⟨w13, ew13⟩ := go_1 Wq8 tv7
          refine wb ew13 ?_
          obtain ⟨q12, eq12, Wq12, fq12⟩ := p_Graph_ofArc hn Wq8 (a1 := a1) (a2 := a2) tv7 (by omega) (by omega)
          refine wb eq12 ?_
          have F8 := Zfr.tr F6 fq12 (by decide)
          exact ⟨_, rfl, Wq12, F8⟩
  refine wi (fun hq9 => ?_) (fun hq9 => ?_)
  · have := li_0
    have := i_ge a1
    have := i_up a1
    have hq9 := i_eq hq9
    obtain ⟨v27, ev27, tv27⟩ := gf_14_1 W t_a0
    refine wb ev27 ?_
    obtain ⟨v28, ev28, lv28, uv28⟩ := gf_1_7 W tv27
    refine wb ev28 ?_
    exact ⟨_, rfl, W, F0⟩
  · have := li_0
    have := i_ge a1
    have := i_up a1
    have hq9 := i_ne hq9
    refine wi (fun hq10 => ?_) (fun hq10 => ?_)
    · have := li_1
      have hq10 := i_eq hq10
      obtain ⟨v25, ev25, tv25⟩ := gf_14_1 W t_a0
      refine wb ev25 ?_
      obtain ⟨v26, ev26, _⟩ := gf_1_8 W tv25
      refine wb ev26 ?_
      exact ⟨_, rfl, W, F0⟩
    · have := li_1
      have hq10 := i_ne hq10
      refine wi (fun hq11 => ?_) (fun hq11 => ?_)
      · have := li_2
        have hq11 := i_eq hq11
        obtain ⟨v22, ev22, tv22⟩ := gf_14_5 W t_a0
        refine wb ev22 ?_
        obtain ⟨w24, ew24⟩ := go_9 W tv22
        refine wb ew24 ?_
        obtain ⟨q23, eq23, Wq23, fq23⟩ := p_RuleBook_standing hn W  tv22
        refine wb eq23 ?_
        have F12 := Zfr.tr F0 fq23 (by decide)
        exact ⟨_, rfl, Wq23, F12⟩
      · have := li_2
        have hq11 := i_ne hq11
        refine wi (fun hq13 => ?_) (fun hq13 => ?_)
        · have := li_3
          have hq13 := i_lt hq13
          exact J2
        · have := li_3
          have hq13 := i_nlt hq13
          refine wi (fun hq14 => ?_) (fun hq14 => ?_)
          · have := li_9
            have hq14 := i_lt hq14
            exact J2
          · have := li_9
            have hq14 := i_nlt hq14
            obtain ⟨v15, ev15, tv15⟩ := gf_14_1 W t_a0
            refine wb ev15 ?_
            obtain ⟨w17, ew17⟩ := go_1 W tv15
            refine wb ew17 ?_
            obtain ⟨q16, eq16, Wq16, fq16, po0q16, pl1q16, pu1q16⟩ := p_Graph_isNode hn W (a1 := a2) tv15
            refine wb eq16 ?_
            have e15 := (Zfr.gr fq16 t_a0 (by decide)).trans ev15
            have F16 := Zfr.tr F0 fq16 (by decide)
            refine wi (fun hq17 => ?_) (fun hq17 => ?_)
            · have hq17 := i_eq hq17
              unfold f_PQ_told_70
              refine wi (fun hq18 => ?_) (fun hq18 => ?_)
              · have := li_10
                have hq18 := i_lt hq18
                unfold f_PQ_told_103
                have := li_10000
                exact ⟨_, rfl, Wq16, F16⟩
              · have := li_10
                have hq18 := i_nlt hq18
                exfalso
                omega
            · have hq17 := i_ne hq17
              refine wb e15 ?_
              obtain ⟨w21, ew21⟩ := go_1 Wq16 tv15
              refine wb ew21 ?_
              obtain ⟨q20, eq20, Wq20, fq20⟩ := p_Graph_ofNode hn Wq16 (a1 := a1) (a2 := a2) tv15 (by omega) (by omega) (by omega) (by omega)
              refine wb eq20 ?_
              have F19 := Zfr.tr F16 fq20 (by decide)
              exact ⟨_, rfl, Wq20, F19⟩

abbrev M_PQ_bare : List (Nat × Nat) := [(1, 8), (1, 9), (15, 0), (16, 0), (19, 0)]
set_option maxRecDepth 100000 in
set_option maxHeartbeats 400000 in
theorem p_PQ_bare {nf : Nat} (hn : 8589934592 ≤ nf) {G : List Nat} {c : Zc} (W : Zwt zty G c) {a0 : Nat} {a1 : Int32}  (t_a0 : G[a0]? = some 14) : ∃ q, f_PQ_bare nf a0 a1 c = some q ∧ Zwt zty G q.2 ∧ Zfr G M_PQ_bare c q.2 := by
  have F0 : Zfr G M_PQ_bare c c := Zfr.rf
  unfold f_PQ_bare
  obtain ⟨v1, ev1, tv1⟩ := gf_14_1 W t_a0
  refine wb ev1 ?_
  obtain ⟨w3, ew3⟩ := go_1 W tv1
  refine wb ew3 ?_
  obtain ⟨q2, eq2, Wq2, fq2, po0q2, pl1q2, pu1q2⟩ := p_Graph_isNode hn W (a1 := a1) tv1
  refine wb eq2 ?_
  have e1 := (Zfr.gr fq2 t_a0 (by decide)).trans ev1
  have F2 := Zfr.tr F0 fq2 (by decide)
  refine wi (fun hq3 => ?_) (fun hq3 => ?_)
  · have := li_0
    have hq3 := i_eq hq3
    have := li_m1
    exact ⟨_, rfl, Wq2, F2⟩
  · have := li_0
    have hq3 := i_ne hq3
    refine wb e1 ?_
    obtain ⟨w7, ew7⟩ := go_1 Wq2 tv1
    refine wb ew7 ?_
    obtain ⟨q6, eq6, Wq6, fq6⟩ := p_Graph_strip hn Wq2 (a1 := a1) tv1 (by omega) (by omega)
    refine wb eq6 ?_
    have F4 := Zfr.tr F2 fq6 (by decide)
    exact ⟨_, rfl, Wq6, F4⟩

abbrev M_PQ_question : List (Nat × Nat) := [(2, 0), (2, 1), (2, 2), (2, 3), (2, 4), (2, 5), (2, 8), (2, 9), (2, 10), (2, 17), (3, 0), (3, 1), (3, 2), (3, 3), (3, 5), (3, 8), (3, 12), (3, 14), (3, 15), (3, 18), (3, 19), (3, 20), (4, 3), (4, 4), (4, 5), (5, 0), (5, 1), (5, 2), (5, 3), (5, 4), (6, 0), (6, 4), (6, 5), (6, 6), (6, 7), (6, 8), (6, 9), (6, 10), (6, 11), (6, 12), (6, 13), (6, 14), (6, 15), (6, 16), (6, 17), (6, 18), (6, 19), (14, 2), (14, 10), (22, 0), (23, 0), (24, 0), (25, 0), (30, 0), (32, 0), (33, 0), (34, 0), (35, 0), (36, 0), (37, 0), (38, 0), (39, 0), (40, 0), (43, 0), (44, 0), (45, 0), (46, 0), (60, 0), (62, 0)]
set_option maxRecDepth 100000 in
set_option maxHeartbeats 400000 in
theorem p_PQ_question {nf : Nat} (hn : 8589934592 ≤ nf) {G : List Nat} {c : Zc} (W : Zwt zty G c) {a0 : Nat} {a1 : Int32}  (t_a0 : G[a0]? = some 14) : ∃ q, f_PQ_question nf a0 a1 c = some q ∧ Zwt zty G q.2 ∧ Zfr G M_PQ_question c q.2 := by
  have F0 : Zfr G M_PQ_question c c := Zfr.rf
  unfold f_PQ_question
  have J1 : ∃ q, f_PQ_question_9 nf a0 c = some q ∧ Zwt zty G q.2 ∧ Zfr G M_PQ_question c q.2 := by
    unfold f_PQ_question_9
    obtain ⟨v2, ev2, tv2⟩ := gf_14_3 W t_a0
    refine wb ev2 ?_
    obtain ⟨c3, ec3, Wc3, fc3, gc3⟩ := pf_6_0 W tv2 (x := (-2)) (trivial)
    refine wb ec3 ?_
    have F2 := Zfr.tr F0 fc3 (by decide)
    have := li_m1
    exact ⟨_, rfl, Wc3, F2⟩
  refine wi (fun hq3 => ?_) (fun hq3 => ?_)
  · have := li_0
    have := i_ge a1
    have := i_up a1
    have hq3 := i_lt hq3
    exact J1
  · have := li_0
    have := i_ge a1
    have := i_up a1
    have hq3 := i_nlt hq3
    refine wi (fun hq4 => ?_) (fun hq4 => ?_)
    · have := li_4
      have hq4 := i_lt hq4
      obtain ⟨v5, ev5, tv5⟩ := gf_14_3 W t_a0
      refine wb ev5 ?_
      obtain ⟨v6, ev6, tv6⟩ := gf_14_0 W t_a0
      refine wb ev6 ?_
      obtain ⟨v7, ev7, lv7, uv7⟩ := gf_14_10 W t_a0
      refine wb ev7 ?_
      obtain ⟨v8, ev8, tv8⟩ := gf_14_2 W t_a0
      refine wb ev8 ?_
      obtain ⟨w10, ew10⟩ := go_6 W tv5
      refine wb ew10 ?_
      obtain ⟨q9, eq9, Wq9, fq9⟩ := p_Reader_read hn W (a2 := v7) (a4 := 0) tv5 tv6 tv8 (by omega) (by omega) (by omega) (by omega)
      refine wb eq9 ?_
      have e5 := (Zfr.gr fq9 t_a0 (by decide)).trans ev8
      have F6 := Zfr.tr F0 fq9 (by decide)
      obtain ⟨c11, ec11, Wc11, fc11, gc11⟩ := pf_14_10 Wq9 t_a0 (x := 0) (rgi (by omega) (by omega))
      refine wb ec11 ?_
      have e7 := (Zfr.gr fc11 t_a0 (by decide)).trans e5
      have F8 := Zfr.tr F6 fc11 (by decide)
      refine wi (fun hq9 => ?_) (fun hq9 => ?_)
      · have := i_ge q9.1
        have := i_up q9.1
        have hq9 := i_eq hq9
        obtain ⟨v13, ev13, tv13⟩ := gf_14_7 Wc11 t_a0
        refine wb ev13 ?_
        obtain ⟨v14, ev14, tv14⟩ := ga_60 Wc11 tv13 (i := a1) (by omega) (by omega)
        refine wb ev14 ?_
        refine wb ev13 ?_
        refine wb e7 ?_
        obtain ⟨c17, ec17, Wc17, fc17, gc17⟩ := pa_60 Wc11 tv13 (i := a1) (by omega) (by omega) tv8
        refine wb ec17 ?_
        have e10 := (Zfr.gr fc17 t_a0 (by decide)).trans ev13
        have F11 := Zfr.tr F8 fc17 (by decide)
        obtain ⟨c18, ec18, Wc18, fc18, gc18⟩ := pf_14_2 Wc17 t_a0 tv14 (by decide)
        refine wb ec18 ?_
        have e12 := (Zfr.gr fc18 t_a0 (by decide)).trans e10
        have e13 := (Zfr.ar fc18 tv13 (by decide)).trans gc17
        have F14 := Zfr.tr F11 fc18 (by decide)
        obtain ⟨v19, ev19, tv19⟩ := gf_14_9 Wc18 t_a0
        refine wb ev19 ?_
        obtain ⟨c20, ec20, Wc20, fc20, gc20⟩ := pa_62 Wc18 tv19 (i := a1) (by omega) (by omega) (x := (-1)) (trivial)
        refine wb ec20 ?_
        have e15 := (Zfr.gr fc20 t_a0 (by decide)).trans e12
        have e16 := (Zfr.ar fc20 tv13 (by decide)).trans e13
        have F17 := Zfr.tr F14 fc20 (by decide)
        refine wb e15 ?_
        refine wb e16 ?_
        obtain ⟨v23, ev23, lv23, uv23⟩ := gf_3_15 Wc20 tv8
        refine wb ev23 ?_
        exact ⟨_, rfl, Wc20, F17⟩
      · have := i_ge q9.1
        have := i_up q9.1
        have hq9 := i_ne hq9
        have := li_m10
        exact ⟨_, rfl, Wc11, F8⟩
    · have := li_4
      have hq4 := i_nlt hq4
      exact J1

abbrev M_PQ_rule : List (Nat × Nat) := [(1, 9), (2, 0), (2, 1), (2, 2), (2, 3), (2, 4), (2, 5), (2, 8), (2, 9), (2, 10), (2, 17), (3, 0), (3, 1), (3, 2), (3, 3), (3, 5), (3, 8), (3, 12), (3, 14), (3, 15), (3, 18), (3, 19), (3, 20), (4, 3), (4, 4), (4, 5), (5, 0), (5, 1), (5, 2), (5, 3), (5, 4), (6, 0), (6, 4), (6, 5), (6, 6), (6, 7), (6, 8), (6, 9), (6, 10), (6, 11), (6, 12), (6, 13), (6, 14), (6, 15), (6, 16), (6, 17), (6, 18), (6, 19), (14, 2), (14, 10), (22, 0), (23, 0), (24, 0), (25, 0), (30, 0), (32, 0), (33, 0), (34, 0), (35, 0), (36, 0), (37, 0), (38, 0), (39, 0), (40, 0), (43, 0), (44, 0), (45, 0), (46, 0), (55, 0)]
set_option maxRecDepth 100000 in
set_option maxHeartbeats 400000 in
theorem p_PQ_rule {nf : Nat} (hn : 8589934592 ≤ nf) {G : List Nat} {c : Zc} (W : Zwt zty G c) {a0 : Nat}  (t_a0 : G[a0]? = some 14) : ∃ q, f_PQ_rule nf a0 c = some q ∧ Zwt zty G q.2 ∧ Zfr G M_PQ_rule c q.2 := by
  have F0 : Zfr G M_PQ_rule c c := Zfr.rf
  unfold f_PQ_rule
  obtain ⟨v1, ev1, tv1⟩ := gf_14_3 W t_a0
  refine wb ev1 ?_
  obtain ⟨v2, ev2, tv2⟩ := gf_14_0 W t_a0
  refine wb ev2 ?_
  obtain ⟨v3, ev3, lv3, uv3⟩ := gf_14_10 W t_a0
  refine wb ev3 ?_
  obtain ⟨v4, ev4, tv4⟩ := gf_14_2 W t_a0
  refine wb ev4 ?_
  obtain ⟨w6, ew6⟩ := go_6 W tv1
  refine wb ew6 ?_
  have := li_1
  obtain ⟨q5, eq5, Wq5, fq5⟩ := p_Reader_read hn W (a2 := v3) (a4 := 1) tv1 tv2 tv4 (by omega) (by omega) (by omega) (by omega)
  refine wb eq5 ?_
  have e1 := (Zfr.gr fq5 t_a0 (by decide)).trans ev4
  have F2 := Zfr.tr F0 fq5 (by decide)
  have := li_0
  obtain ⟨c7, ec7, Wc7, fc7, gc7⟩ := pf_14_10 Wq5 t_a0 (x := 0) (rgi (by omega) (by omega))
  refine wb ec7 ?_
  have e3 := (Zfr.gr fc7 t_a0 (by decide)).trans e1
  have F4 := Zfr.tr F2 fc7 (by decide)
  refine wi (fun hq5 => ?_) (fun hq5 => ?_)
  · have := i_ge q5.1
    have := i_up q5.1
    have hq5 := i_eq hq5
    refine wb e3 ?_
    obtain ⟨v10, ev10, lv10, uv10⟩ := gf_3_1 Wc7 tv4
    refine wb ev10 ?_
    obtain ⟨v11, ev11, tv11⟩ := gf_14_5 Wc7 t_a0
    refine wb ev11 ?_
    refine wb e3 ?_
    obtain ⟨w14, ew14⟩ := go_9 Wc7 tv11
    refine wb ew14 ?_
    obtain ⟨q13, eq13, Wq13, fq13, po0q13⟩ := p_RuleBook_replace hn Wc7  tv11 tv4
    refine wb eq13 ?_
    have F6 := Zfr.tr F4 fq13 (by decide)
    obtain ⟨c15, ec15, Wc15, fc15, gc15⟩ := pf_14_2 Wq13 t_a0 po0q13 (by decide)
    refine wb ec15 ?_
    have F7 := Zfr.tr F6 fc15 (by decide)
    obtain ⟨v16, ev16, tv16⟩ := gf_14_1 Wc15 t_a0
    refine wb ev16 ?_
    obtain ⟨v17, ev17, _⟩ := gf_1_9 Wc15 tv16
    refine wb ev17 ?_
    obtain ⟨c18, ec18, Wc18, fc18, gc18⟩ := pf_1_9 Wc15 tv16 (x := (v17 + 1)) (trivial)
    refine wb ec18 ?_
    have F8 := Zfr.tr F7 fc18 (by decide)
    exact ⟨_, rfl, Wc18, F8⟩
  · have := i_ge q5.1
    have := i_up q5.1
    have hq5 := i_ne hq5
    have := li_m10
    exact ⟨_, rfl, Wc7, F4⟩

abbrev M_PQ_forget : List (Nat × Nat) := [(1, 9), (3, 0)]
set_option maxRecDepth 100000 in
set_option maxHeartbeats 400000 in
theorem p_PQ_forget {nf : Nat} (hn : 8589934592 ≤ nf) {G : List Nat} {c : Zc} (W : Zwt zty G c) {a0 : Nat} {a1 : Int32}  (t_a0 : G[a0]? = some 14) : ∃ q, f_PQ_forget nf a0 a1 c = some q ∧ Zwt zty G q.2 ∧ Zfr G M_PQ_forget c q.2 := by
  have F0 : Zfr G M_PQ_forget c c := Zfr.rf
  unfold f_PQ_forget
  have J1 : ∃ q, f_PQ_forget_9 nf c = some q ∧ Zwt zty G q.2 ∧ Zfr G M_PQ_forget c q.2 := by
    unfold f_PQ_forget_9
    have := li_m1
    exact ⟨_, rfl, W, F0⟩
  refine wi (fun hq2 => ?_) (fun hq2 => ?_)
  · have := li_0
    have := i_ge a1
    have := i_up a1
    have hq2 := i_lt hq2
    exact J1
  · have := li_0
    have := i_ge a1
    have := i_up a1
    have hq2 := i_nlt hq2
    refine wi (fun hq3 => ?_) (fun hq3 => ?_)
    · have := li_4
      have hq3 := i_lt hq3
      obtain ⟨v3, ev3, tv3⟩ := gf_14_5 W t_a0
      refine wb ev3 ?_
      obtain ⟨w5, ew5⟩ := go_9 W tv3
      refine wb ew5 ?_
      obtain ⟨q4, eq4, Wq4, fq4, pl0q4, pu0q4⟩ := p_RuleBook_has hn W (a1 := a1) tv3 (by omega) (by omega)
      refine wb eq4 ?_
      have e4 := (Zfr.gr fq4 t_a0 (by decide)).trans ev3
      have F5 := Zfr.tr F0 fq4 (by decide)
      refine wi (fun hq6 => ?_) (fun hq6 => ?_)
      · have hq6 := i_eq hq6
        have := li_m2
        exact ⟨_, rfl, Wq4, F5⟩
      · have hq6 := i_ne hq6
        refine wb e4 ?_
        obtain ⟨v8, ev8, tv8⟩ := gf_9_0 Wq4 tv3
        refine wb ev8 ?_
        obtain ⟨v9, ev9, tv9⟩ := ga_55 Wq4 tv8 (i := a1) (by omega) (by omega)
        refine wb ev9 ?_
        obtain ⟨c10, ec10, Wc10, fc10, gc10⟩ := pf_3_0 Wq4 tv9 (x := 0) (rgi (by omega) (by omega))
        refine wb ec10 ?_
        have F7 := Zfr.tr F5 fc10 (by decide)
        obtain ⟨v11, ev11, tv11⟩ := gf_14_1 Wc10 t_a0
        refine wb ev11 ?_
        obtain ⟨v12, ev12, _⟩ := gf_1_9 Wc10 tv11
        refine wb ev12 ?_
        obtain ⟨c13, ec13, Wc13, fc13, gc13⟩ := pf_1_9 Wc10 tv11 (x := (v12 + 1)) (trivial)
        refine wb ec13 ?_
        have F8 := Zfr.tr F7 fc13 (by decide)
        have := li_1
        exact ⟨_, rfl, Wc13, F8⟩
    · have := li_4
      have hq3 := i_nlt hq3
      exact J1

abbrev M_PQ_place : List (Nat × Nat) := []
set_option maxRecDepth 100000 in
set_option maxHeartbeats 400000 in
theorem p_PQ_place {nf : Nat} (hn : 8589934592 ≤ nf) {G : List Nat} {c : Zc} (W : Zwt zty G c) {a0 : Nat}  (t_a0 : G[a0]? = some 14) : ∃ q, f_PQ_place nf a0 c = some q ∧ Zwt zty G q.2 ∧ Zfr G M_PQ_place c q.2 := by
  have F0 : Zfr G M_PQ_place c c := Zfr.rf
  unfold f_PQ_place
  obtain ⟨v1, ev1, tv1⟩ := gf_14_3 W t_a0
  refine wb ev1 ?_
  obtain ⟨v2, ev2, _⟩ := gf_6_0 W tv1
  refine wb ev2 ?_
  exact ⟨_, rfl, W, F0⟩

abbrev M_PQ_leads : List (Nat × Nat) := [(2, 16), (2, 17), (7, 5), (7, 6), (7, 7), (7, 8), (7, 9), (7, 10), (7, 11), (8, 8), (9, 4), (9, 5), (21, 0), (26, 0), (27, 0), (28, 0), (31, 0), (47, 0), (48, 0), (49, 0), (50, 0), (51, 0), (52, 0), (53, 0), (54, 0), (56, 0)]
set_option maxRecDepth 100000 in
set_option maxHeartbeats 400000 in
theorem p_PQ_leads {nf : Nat} (hn : 8589934592 ≤ nf) {G : List Nat} {c : Zc} (W : Zwt zty G c) {a0 : Nat} {a1 : Int32} {a2 : Int32} {a3 : Int32}  (t_a0 : G[a0]? = some 14) : ∃ q, f_PQ_leads nf a0 a1 a2 a3 c = some q ∧ Zwt zty G q.2 ∧ Zfr G M_PQ_leads c q.2 := by
  have F0 : Zfr G M_PQ_leads c c := Zfr.rf
  unfold f_PQ_leads
  obtain ⟨v1, ev1, tv1⟩ := gf_14_1 W t_a0
  refine wb ev1 ?_
  obtain ⟨w3, ew3⟩ := go_1 W tv1
  refine wb ew3 ?_
  obtain ⟨q2, eq2, Wq2, fq2, po0q2, pl1q2, pu1q2⟩ := p_Graph_isNode hn W (a1 := a1) tv1
  refine wb eq2 ?_
  have e1 := (Zfr.gr fq2 t_a0 (by decide)).trans ev1
  have F2 := Zfr.tr F0 fq2 (by decide)
  refine wi (fun hq3 => ?_) (fun hq3 => ?_)
  · have := li_0
    have hq3 := i_eq hq3
    unfold f_PQ_leads_32
    have := li_m1
    exact ⟨_, rfl, Wq2, F2⟩
  · have := li_0
    have hq3 := i_ne hq3
    refine wb e1 ?_
    obtain ⟨w7, ew7⟩ := go_1 Wq2 tv1
    refine wb ew7 ?_
    obtain ⟨q6, eq6, Wq6, fq6, po0q6, pl1q6, pu1q6⟩ := p_Graph_isNode hn Wq2 (a1 := a2) tv1
    refine wb eq6 ?_
    have e4 := (Zfr.gr fq6 t_a0 (by decide)).trans e1
    have F5 := Zfr.tr F2 fq6 (by decide)
    refine wi (fun hq6 => ?_) (fun hq6 => ?_)
    · have hq6 := i_eq hq6
      unfold f_PQ_leads_32
      have := li_m1
      exact ⟨_, rfl, Wq6, F5⟩
    · have hq6 := i_ne hq6
      refine wi (fun hq7 => ?_) (fun hq7 => ?_)
      · have := i_ge a3
        have := i_up a3
        have hq7 := i_lt hq7
        unfold f_PQ_leads_32
        have := li_m1
        exact ⟨_, rfl, Wq6, F5⟩
      · have := i_ge a3
        have := i_up a3
        have hq7 := i_nlt hq7
        refine wi (fun hq8 => ?_) (fun hq8 => ?_)
        · have := li_12
          have hq8 := i_lt hq8
          refine wi (fun hq9 => ?_) (fun hq9 => ?_)
          · have := li_8
            have hq9 := i_le hq9
            obtain ⟨v12, ev12, tv12⟩ := gf_14_5 Wq6 t_a0
            refine wb ev12 ?_
            obtain ⟨w14, ew14⟩ := go_9 Wq6 tv12
            refine wb ew14 ?_
            obtain ⟨q13, eq13, Wq13, fq13, pl0q13, pu0q13⟩ := p_RuleBook_settle hn Wq6  tv12
            refine wb eq13 ?_
            have e10 := (Zfr.gr fq13 t_a0 (by decide)).trans e4
            have F11 := Zfr.tr F5 fq13 (by decide)
            refine wi (fun hq12 => ?_) (fun hq12 => ?_)
            · have hq12 := i_eq hq12
              refine wb e10 ?_
              obtain ⟨w18, ew18⟩ := go_1 Wq13 tv1
              refine wb ew18 ?_
              obtain ⟨q17, eq17, Wq17, fq17⟩ := p_Graph_reached hn Wq13 (a1 := a3) (a2 := a1) tv1 (by omega) (by omega) (by omega) (by omega)
              refine wb eq17 ?_
              have F13 := Zfr.tr F11 fq17 (by decide)
              have := li_1
              have := i_andr (a := (q17.1 >>> (a2 &&& 31))) (b := 1) (by omega)
              exact ⟨_, rfl, Wq17, F13⟩
            · have hq12 := i_ne hq12
              have := li_m4
              exact ⟨_, rfl, Wq13, F11⟩
          · have := li_8
            have hq9 := i_nle hq9
            refine wb e4 ?_
            obtain ⟨w21, ew21⟩ := go_1 Wq6 tv1
            refine wb ew21 ?_
            obtain ⟨q20, eq20, Wq20, fq20⟩ := p_Graph_countArcs hn Wq6 (a1 := a1) (a2 := a2) (a3 := a3) tv1
            refine wb eq20 ?_
            have F14 := Zfr.tr F5 fq20 (by decide)
            exact ⟨_, rfl, Wq20, F14⟩
        · have := li_12
          have hq8 := i_nlt hq8
          unfold f_PQ_leads_32
          have := li_m1
          exact ⟨_, rfl, Wq6, F5⟩

abbrev M_PQ_pairs : List (Nat × Nat) := [(2, 16), (2, 17), (7, 5), (7, 6), (7, 7), (7, 8), (7, 9), (7, 10), (7, 11), (8, 8), (9, 4), (9, 5), (21, 0), (26, 0), (27, 0), (28, 0), (31, 0), (47, 0), (48, 0), (49, 0), (50, 0), (51, 0), (52, 0), (53, 0), (54, 0), (56, 0)]
set_option maxRecDepth 100000 in
set_option maxHeartbeats 400000 in
theorem p_PQ_pairs {nf : Nat} (hn : 8589934592 ≤ nf) {G : List Nat} {c : Zc} (W : Zwt zty G c) {a0 : Nat} {a1 : Int32}  (t_a0 : G[a0]? = some 14) : ∃ q, f_PQ_pairs nf a0 a1 c = some q ∧ Zwt zty G q.2 ∧ Zfr G M_PQ_pairs c q.2 := by
  have F0 : Zfr G M_PQ_pairs c c := Zfr.rf
  unfold f_PQ_pairs
  have J1 : ∃ q, f_PQ_pairs_9 nf c = some q ∧ Zwt zty G q.2 ∧ Zfr G M_PQ_pairs c q.2 := by
    unfold f_PQ_pairs_9
    have := li_m1
    exact ⟨_, rfl, W, F0⟩
  refine wi (fun hq2 => ?_) (fun hq2 => ?_)
  · have := li_0
    have := i_ge a1
    have := i_up a1
    have hq2 := i_lt hq2
    exact J1
  · have := li_0
    have := i_ge a1
    have := i_up a1
    have hq2 := i_nlt hq2
    refine wi (fun hq3 => ?_) (fun hq3 => ?_)
    · have := li_4
      have hq3 := i_lt hq3
      obtain ⟨v3, ev3, tv3⟩ := gf_14_5 W t_a0
      refine wb ev3 ?_
      obtain ⟨w5, ew5⟩ := go_9 W tv3
      refine wb ew5 ?_
      obtain ⟨q4, eq4, Wq4, fq4, pl0q4, pu0q4⟩ := p_RuleBook_has hn W (a1 := a1) tv3 (by omega) (by omega)
      refine wb eq4 ?_
      have e4 := (Zfr.gr fq4 t_a0 (by decide)).trans ev3
      have F5 := Zfr.tr F0 fq4 (by decide)
      refine wi (fun hq6 => ?_) (fun hq6 => ?_)
      · have hq6 := i_eq hq6
        have := li_m2
        exact ⟨_, rfl, Wq4, F5⟩
      · have hq6 := i_ne hq6
        refine wb e4 ?_
        obtain ⟨w9, ew9⟩ := go_9 Wq4 tv3
        refine wb ew9 ?_
        obtain ⟨q8, eq8, Wq8, fq8, pl0q8, pu0q8⟩ := p_RuleBook_settle hn Wq4  tv3
        refine wb eq8 ?_
        have F7 := Zfr.tr F5 fq8 (by decide)
        refine wi (fun hq8 => ?_) (fun hq8 => ?_)
        · have hq8 := i_eq hq8
          unfold f_PQ_pairs_42
          have L9 : ∃ b, zlp (fun a : Nat × Int32 × Int32 × Int32 × Zc => g_PQ_pairs_42 nf a.1 a.2.1 a.2.2.1 a.2.2.2.1 a.2.2.2.2) nf (a0, a1, 0, 0, q8.2) = some b ∧ (fun b : (Int32 × Zc) => Zwt zty G b.2 ∧ Zfr G ([] : List (Nat × Nat)) q8.2 b.2) b := by
            refine wlp (fun a : Nat × Int32 × Int32 × Int32 × Zc => a0 = a.1 ∧ a1 = a.2.1 ∧ Zwt zty G a.2.2.2.2 ∧ Zfr G ([] : List (Nat × Nat)) q8.2 a.2.2.2.2 ∧ 0 ≤ a.2.2.2.1.toInt ∧ a.2.2.2.1.toInt ≤ 16) (fun a => (16 - a.2.2.2.1.toInt).toNat) (fun b : (Int32 × Zc) => Zwt zty G b.2 ∧ Zfr G ([] : List (Nat × Nat)) q8.2 b.2) ?_ ?_ ?_
            · rintro ⟨x0_10, x1_10, x2_10, x3_10, c_10⟩ hI
              try dsimp only at hI ⊢
              obtain ⟨rfl, rfl, WLc_10, FLc_10, j11, j12⟩ := hI
              unfold g_PQ_pairs_42
              obtain ⟨v11, ev11, tv11⟩ := gf_14_1 WLc_10 t_a0
              refine wb ev11 ?_
              obtain ⟨v12, ev12, lv12, uv12⟩ := gf_1_7 WLc_10 tv11
              refine wb ev12 ?_
              refine wi (fun hq13 => ?_) (fun hq13 => ?_)
              · have hq13 := i_le hq13
                exact lInr ⟨WLc_10, FLc_10⟩
              · have hq13 := i_nle hq13
                refine wb ev11 ?_
                obtain ⟨w16, ew16⟩ := go_1 WLc_10 tv11
                refine wb ew16 ?_
                have := li_8
                have := i_add (a := 8) (b := a1) (by omega) (by omega)
                obtain ⟨q15, eq15, Wq15, fq15⟩ := p_Graph_reached hn WLc_10 (a1 := (8 + a1)) (a2 := x3_10) tv11 (by omega) (by omega) (by omega) (by omega)
                refine wb eq15 ?_
                have F14 := Zfr.tr FLc_10 fq15 (by decide)
                obtain ⟨q17, eq17, Wq17, fq17⟩ := p_Integer_bitCount hn Wq15 (a0 := q15.1) 
                refine wb eq17 ?_
                have F15 := Zfr.tr F14 fq17 (by decide)
                have := li_1
                have := i_add (a := x3_10) (b := 1) (by omega) (by omega)
                exact lInl ⟨rfl, rfl, Wq17, F15, by (try dsimp only); omega, by (try dsimp only); omega⟩ (by (try dsimp only); omega)
            · exact ⟨rfl, rfl, Wq8, Zfr.rf, by (try dsimp only); omega, by (try dsimp only); omega⟩
            · (try dsimp only); omega
          obtain ⟨b, eb, hb⟩ := L9
          refine wb eb ?_
          clear eb
          obtain ⟨z0_16, c_16⟩ := b
          try dsimp only at hb ⊢
          obtain ⟨WXc_16, FXc_16⟩ := hb
          have F17 := Zfr.tr F7 FXc_16 (by decide)
          exact ⟨_, rfl, WXc_16, F17⟩
        · have hq8 := i_ne hq8
          have := li_m4
          exact ⟨_, rfl, Wq8, F7⟩
    · have := li_4
      have hq3 := i_nlt hq3
      exact J1

abbrev M_PQ_least : List (Nat × Nat) := [(2, 16), (2, 17), (7, 5), (7, 6), (7, 7), (7, 8), (7, 9), (7, 10), (7, 11), (8, 8), (9, 4), (9, 5), (21, 0), (26, 0), (27, 0), (28, 0), (31, 0), (47, 0), (48, 0), (49, 0), (50, 0), (51, 0), (52, 0), (53, 0), (54, 0), (56, 0)]
set_option maxRecDepth 100000 in
set_option maxHeartbeats 400000 in
theorem p_PQ_least {nf : Nat} (hn : 8589934592 ≤ nf) {G : List Nat} {c : Zc} (W : Zwt zty G c) {a0 : Nat} {a1 : Int32} {a2 : Int32} {a3 : Int32}  (t_a0 : G[a0]? = some 14) : ∃ q, f_PQ_least nf a0 a1 a2 a3 c = some q ∧ Zwt zty G q.2 ∧ Zfr G M_PQ_least c q.2 := by
  have F0 : Zfr G M_PQ_least c c := Zfr.rf
  unfold f_PQ_least
  have J1 : ∃ q, f_PQ_least_31 nf c = some q ∧ Zwt zty G q.2 ∧ Zfr G M_PQ_least c q.2 := by
    unfold f_PQ_least_31
    have := li_m1
    exact ⟨_, rfl, W, F0⟩
  refine wi (fun hq2 => ?_) (fun hq2 => ?_)
  · have := li_0
    have := i_ge a1
    have := i_up a1
    have hq2 := i_lt hq2
    exact J1
  · have := li_0
    have := i_ge a1
    have := i_up a1
    have hq2 := i_nlt hq2
    refine wi (fun hq3 => ?_) (fun hq3 => ?_)
    · have := li_4
      have hq3 := i_le hq3
      exact J1
    · have := li_4
      have hq3 := i_nle hq3
      obtain ⟨v3, ev3, tv3⟩ := gf_14_1 W t_a0
      refine wb ev3 ?_
      obtain ⟨w5, ew5⟩ := go_1 W tv3
      refine wb ew5 ?_
      obtain ⟨q4, eq4, Wq4, fq4, po0q4, pl1q4, pu1q4⟩ := p_Graph_isNode hn W (a1 := a2) tv3
      refine wb eq4 ?_
      have e4 := (Zfr.gr fq4 t_a0 (by decide)).trans ev3
      have F5 := Zfr.tr F0 fq4 (by decide)
      refine wi (fun hq6 => ?_) (fun hq6 => ?_)
      · have hq6 := i_eq hq6
        unfold f_PQ_least_31
        have := li_m1
        exact ⟨_, rfl, Wq4, F5⟩
      · have hq6 := i_ne hq6
        refine wb e4 ?_
        obtain ⟨w9, ew9⟩ := go_1 Wq4 tv3
        refine wb ew9 ?_
        obtain ⟨q8, eq8, Wq8, fq8, po0q8, pl1q8, pu1q8⟩ := p_Graph_isNode hn Wq4 (a1 := a3) tv3
        refine wb eq8 ?_
        have F7 := Zfr.tr F5 fq8 (by decide)
        refine wi (fun hq8 => ?_) (fun hq8 => ?_)
        · have hq8 := i_eq hq8
          unfold f_PQ_least_31
          have := li_m1
          exact ⟨_, rfl, Wq8, F7⟩
        · have hq8 := i_ne hq8
          obtain ⟨v11, ev11, tv11⟩ := gf_14_7 Wq8 t_a0
          refine wb ev11 ?_
          obtain ⟨v12, ev12, tv12⟩ := ga_60 Wq8 tv11 (i := a1) (by omega) (by omega)
          refine wb ev12 ?_
          obtain ⟨v13, ev13, lv13, uv13⟩ := gf_3_0 Wq8 tv12
          refine wb ev13 ?_
          refine wi (fun hq9 => ?_) (fun hq9 => ?_)
          · have hq9 := i_eq hq9
            unfold f_PQ_least_57
            have := li_m2
            exact ⟨_, rfl, Wq8, F7⟩
          · have hq9 := i_ne hq9
            obtain ⟨v15, ev15, lv15, uv15⟩ := gf_3_3 Wq8 tv12
            refine wb ev15 ?_
            refine wi (fun hq10 => ?_) (fun hq10 => ?_)
            · have hq10 := i_eq hq10
              unfold f_PQ_least_57
              have := li_m2
              exact ⟨_, rfl, Wq8, F7⟩
            · have hq10 := i_ne hq10
              obtain ⟨v17, ev17, tv17⟩ := gf_14_5 Wq8 t_a0
              refine wb ev17 ?_
              obtain ⟨w19, ew19⟩ := go_9 Wq8 tv17
              refine wb ew19 ?_
              obtain ⟨q18, eq18, Wq18, fq18, pl0q18, pu0q18⟩ := p_RuleBook_settle hn Wq8  tv17
              refine wb eq18 ?_
              have e11 := (Zfr.ar fq18 tv11 (by decide)).trans ev12
              have F12 := Zfr.tr F7 fq18 (by decide)
              refine wi (fun hq13 => ?_) (fun hq13 => ?_)
              · have hq13 := i_eq hq13
                obtain ⟨v21, ev21, tv21⟩ := gf_3_4 Wq18 tv12
                refine wb ev21 ?_
                obtain ⟨v22, ev22, tv22⟩ := ga_29 Wq18 tv21 (i := 0) (by omega) (by omega)
                refine wb ev22 ?_
                obtain ⟨v23, ev23, tv23⟩ := gf_14_4 Wq18 t_a0
                refine wb ev23 ?_
                obtain ⟨w25, ew25⟩ := go_8 Wq18 tv23
                refine wb ew25 ?_
                obtain ⟨q24, eq24, Wq24, fq24⟩ := p_Finder_bringUpToDate hn Wq18  tv23 tv22
                refine wb eq24 ?_
                have F14 := Zfr.tr F12 fq24 (by decide)
                obtain ⟨v26, ev26, lv26, uv26⟩ := gf_2_3 Wq24 tv22
                refine wb ev26 ?_
                refine wi (fun hq15 => ?_) (fun hq15 => ?_)
                · have hq15 := i_eq hq15
                  obtain ⟨w29, ew29⟩ := go_2 Wq24 tv22
                  refine wb ew29 ?_
                  obtain ⟨q28, eq28, Wq28, fq28⟩ := p_Way_arcsBetween hn Wq24 (a1 := a2) (a2 := a3) tv22 (by omega) (by omega) (by omega) (by omega)
                  refine wb eq28 ?_
                  have F16 := Zfr.tr F14 fq28 (by decide)
                  unfold f_PQ_least_116
                  refine wi (fun hq17 => ?_) (fun hq17 => ?_)
                  · have := i_ge q28.1
                    have := i_up q28.1
                    have hq17 := i_le hq17
                    unfold f_PQ_least_130
                    exact ⟨_, rfl, Wq28, F16⟩
                  · have := i_ge q28.1
                    have := i_up q28.1
                    have hq17 := i_nle hq17
                    unfold f_PQ_least_130
                    have := li_m2
                    exact ⟨_, rfl, Wq28, F16⟩
                · have hq15 := i_ne hq15
                  obtain ⟨w32, ew32⟩ := go_2 Wq24 tv22
                  refine wb ew32 ?_
                  obtain ⟨q31, eq31, Wq31, fq31⟩ := p_Way_arcsBetween hn Wq24 (a1 := a3) (a2 := a2) tv22 (by omega) (by omega) (by omega) (by omega)
                  refine wb eq31 ?_
                  have F18 := Zfr.tr F14 fq31 (by decide)
                  unfold f_PQ_least_116
                  refine wi (fun hq19 => ?_) (fun hq19 => ?_)
                  · have := i_ge q31.1
                    have := i_up q31.1
                    have hq19 := i_le hq19
                    unfold f_PQ_least_130
                    exact ⟨_, rfl, Wq31, F18⟩
                  · have := i_ge q31.1
                    have := i_up q31.1
                    have hq19 := i_nle hq19
                    unfold f_PQ_least_130
                    have := li_m2
                    exact ⟨_, rfl, Wq31, F18⟩
              · have hq13 := i_ne hq13
                have := li_m4
                exact ⟨_, rfl, Wq18, F12⟩

end ZzT
