section ZzT
abbrev M_Graph_addNode__g : List (Nat × Nat) := [(1, 7), (1, 9), (15, 0)]
set_option maxRecDepth 100000 in
set_option maxHeartbeats 2000000 in
theorem p_Graph_addNode__g {nf : Nat} (hn : 8589934592 ≤ nf) {G : List Nat} {c : Zc} (W : Zwt zty G c) {a0 : Nat} {a1 : Int32} {nd : Int32} (t_a0 : G[a0]? = some 1) (pl_a1 : 0 ≤ a1.toInt) (pu_a1 : a1.toInt ≤ 255) (pl_nd : 0 ≤ nd.toInt) (pu_nd : nd.toInt ≤ 16) (eh_nd : zgi c a0 0 7 = some nd) : ∃ q, f_Graph_addNode nf a0 a1 c = some q ∧ Zwt zty G q.2 ∧ Zfr G M_Graph_addNode__g c q.2 ∧ ((gfi q.2 a0 7 = nd.toInt ∧ gaf q.2 a0 0 = gaf c a0 0) ∨ (gfi q.2 a0 7 = nd.toInt + 1 ∧ gaf q.2 a0 0 = upd (gaf c a0 0) nd.toInt.toNat a1)) ∧ Zn1 G q.2 a0 nd a1 q.1 := by
  have F0 : Zfr G M_Graph_addNode__g c c := Zfr.rf
  unfold f_Graph_addNode
  have vaGM : gaf c a0 0 = gaf c a0 0 := rfl
  refine wb eh_nd ?_
  refine wi (fun hq1 => ?_) (fun hq1 => ?_)
  · have := li_16
    have hq1 := i_lt hq1
    obtain ⟨v3, ev3, tv3⟩ := gf_1_0 W t_a0
    refine wb ev3 ?_
    refine wb eh_nd ?_
    obtain ⟨c5, ec5, Wc5, fc5, gc5⟩ := pa_15 W tv3 (i := nd) (by omega) (by omega) (x := a1) (rgi (by omega) (by omega))
    refine wb ec5 ?_
    have e2 := (Zfr.gi fc5 t_a0 (by decide)).trans eh_nd
    have e3 := (Zfr.gr fc5 t_a0 (by decide)).trans ev3
    have va4 := (((gaf_w ev3 ec5).1).trans (congrArg (fun f_ => upd f_ nd.toInt.toNat a1) vaGM))
    have F5 := Zfr.tr F0 fc5 (by decide)
    refine wb e2 ?_
    have := li_1
    have := i_add (a := nd) (b := 1) (by omega) (by omega)
    obtain ⟨c7, ec7, Wc7, fc7, gc7⟩ := pf_1_7 Wc5 t_a0 (x := (nd + 1)) (rgi (by omega) (by omega))
    refine wb ec7 ?_
    have e6 := (Zfr.gr fc7 t_a0 (by decide)).trans e3
    have e7 := (Zfr.ai fc7 tv3 (by decide)).trans gc5
    have va8 := (gaf_fr fc7 t_a0 (gf_1_0 Wc5 t_a0) (by decide) (by decide)).trans va4
    have F9 := Zfr.tr F5 fc7 (by decide)
    obtain ⟨v8, ev8, _⟩ := gf_1_9 Wc7 t_a0
    refine wb ev8 ?_
    obtain ⟨c9, ec9, Wc9, fc9, gc9⟩ := pf_1_9 Wc7 t_a0 (x := (v8 + 1)) (trivial)
    refine wb ec9 ?_
    have e10 := (Zfr.gr fc9 t_a0 (by decide)).trans e6
    have e11 := (Zfr.ai fc9 tv3 (by decide)).trans e7
    have e12 := (Zfr.gi fc9 t_a0 (by decide)).trans gc7
    have va13 := (gaf_fr fc9 t_a0 (gf_1_0 Wc7 t_a0) (by decide) (by decide)).trans va8
    have F14 := Zfr.tr F9 fc9 (by decide)
    refine wb e12 ?_
    have := i_sub (a := (nd + 1)) (b := 1) (by omega) (by omega)
    exact ⟨_, rfl, Wc9, F14, .inr ⟨by rw [gfi_e e12]; omega, va13⟩, ⟨(nd + 1), e12, by (try dsimp only); omega, by (try dsimp only); omega, by (try dsimp only); omega⟩⟩
  · have := li_16
    have hq1 := i_nlt hq1
    have := li_m3
    exact ⟨_, rfl, W, F0, .inl ⟨by rw [gfi_e eh_nd]; try omega, vaGM⟩, ⟨nd, eh_nd, by (try dsimp only); omega, by (try dsimp only); omega, by (try dsimp only); omega⟩⟩

abbrev M_PQ_node__g : List (Nat × Nat) := [(1, 7), (1, 9), (15, 0)]
set_option maxRecDepth 100000 in
set_option maxHeartbeats 2000000 in
theorem p_PQ_node__g {nf : Nat} (hn : 8589934592 ≤ nf) {G : List Nat} {c : Zc} (W : Zwt zty G c) {a0 : Nat} {a1 : Int32} {gp : Nat} {nd : Int32} (t_a0 : G[a0]? = some 14) (pl_nd : 0 ≤ nd.toInt) (pu_nd : nd.toInt ≤ 16) (eh_gp : zgr c a0 11 1 = some gp) (eh_nd : zgi c gp 0 7 = some nd) : ∃ q, f_PQ_node nf a0 a1 c = some q ∧ Zwt zty G q.2 ∧ Zfr G M_PQ_node__g c q.2 ∧ ((gfi q.2 gp 7 = nd.toInt ∧ gaf q.2 gp 0 = gaf c gp 0) ∨ (gfi q.2 gp 7 = nd.toInt + 1 ∧ gaf q.2 gp 0 = upd (gaf c gp 0) nd.toInt.toNat a1)) ∧ Zn1 G q.2 gp nd a1 q.1 := by
  have F0 : Zfr G M_PQ_node__g c c := Zfr.rf
  unfold f_PQ_node
  obtain ⟨xq, xe, tqw_1⟩ := gf_14_1 W t_a0
  rw [eh_gp] at xe; cases xe
  refine wi (fun hq2 => ?_) (fun hq2 => ?_)
  · have := li_0
    have := i_ge a1
    have := i_up a1
    have hq2 := i_lt hq2
    unfold f_PQ_node_11
    have := li_m1
    exact ⟨_, rfl, W, F0, .inl ⟨gfi_e eh_nd, rfl⟩, ⟨nd, eh_nd, by (try dsimp only); omega, by (try dsimp only); omega, by (try dsimp only); omega⟩⟩
  · have := li_0
    have := i_ge a1
    have := i_up a1
    have hq2 := i_nlt hq2
    refine wi (fun hq4 => ?_) (fun hq4 => ?_)
    · have := li_256
      have hq4 := i_lt hq4
      refine wb eh_gp ?_
      obtain ⟨w5, ew5⟩ := go_1 W tqw_1
      refine wb ew5 ?_
      obtain ⟨q4, eq4, Wq4, fq4, po0q4, pbZn1q4⟩ := p_Graph_addNode__g hn W (a1 := a1) tqw_1 (by omega) (by omega) (by omega) (by omega) eh_nd
      refine wb eq4 ?_
      have e6 := (Zfr.gr fq4 t_a0 (by decide)).trans eh_gp
      have F7 := Zfr.tr F0 fq4 (by decide)
      obtain ⟨bn2q4, h0Zn1q4, r0Zn1q4, r1Zn1q4, r2Zn1q4⟩ := pbZn1q4
      exact ⟨_, rfl, Wq4, F7, po0q4, ⟨bn2q4, h0Zn1q4, by (try dsimp only); omega, by (try dsimp only); omega, by (try dsimp only); omega⟩⟩
    · have := li_256
      have hq4 := i_nlt hq4
      unfold f_PQ_node_11
      have := li_m1
      exact ⟨_, rfl, W, F0, .inl ⟨gfi_e eh_nd, rfl⟩, ⟨nd, eh_nd, by (try dsimp only); omega, by (try dsimp only); omega, by (try dsimp only); omega⟩⟩

abbrev M_Graph_changeMarks__g : List (Nat × Nat) := [(1, 9), (15, 0)]
set_option maxRecDepth 100000 in
set_option maxHeartbeats 2000000 in
theorem p_Graph_changeMarks__g {nf : Nat} (hn : 8589934592 ≤ nf) {G : List Nat} {c : Zc} (W : Zwt zty G c) {a0 : Nat} {a1 : Int32} {a2 : Int32}  (t_a0 : G[a0]? = some 1) (pl_a1 : 0 ≤ a1.toInt) (pu_a1 : a1.toInt ≤ 15) (pl_a2 : 0 ≤ a2.toInt) (pu_a2 : a2.toInt ≤ 255) : ∃ q, f_Graph_changeMarks nf a0 a1 a2 c = some q ∧ Zwt zty G q.2 ∧ Zfr G M_Graph_changeMarks__g c q.2 ∧ gaf q.2 a0 0 = upd (gaf c a0 0) a1.toInt.toNat a2 ∧ q.1 = gaf c a0 0 a1.toInt.toNat := by
  have F0 : Zfr G M_Graph_changeMarks__g c c := Zfr.rf
  unfold f_Graph_changeMarks
  have vaGM : gaf c a0 0 = gaf c a0 0 := rfl
  obtain ⟨v1, ev1, tv1⟩ := gf_1_0 W t_a0
  refine wb ev1 ?_
  obtain ⟨v2, ev2, lv2, uv2⟩ := ga_15 W tv1 (i := a1) (by omega) (by omega)
  refine wb ev2 ?_
  refine wb ev1 ?_
  obtain ⟨c4, ec4, Wc4, fc4, gc4⟩ := pa_15 W tv1 (i := a1) (by omega) (by omega) (x := a2) (rgi (by omega) (by omega))
  refine wb ec4 ?_
  have e1 := (Zfr.gr fc4 t_a0 (by decide)).trans ev1
  have va2 := (((gaf_w ev1 ec4).1).trans (congrArg (fun f_ => upd f_ a1.toInt.toNat a2) vaGM))
  have F3 := Zfr.tr F0 fc4 (by decide)
  obtain ⟨v5, ev5, _⟩ := gf_1_9 Wc4 t_a0
  refine wb ev5 ?_
  obtain ⟨c6, ec6, Wc6, fc6, gc6⟩ := pf_1_9 Wc4 t_a0 (x := (v5 + 1)) (trivial)
  refine wb ec6 ?_
  have e4 := (Zfr.gr fc6 t_a0 (by decide)).trans e1
  have e5 := (Zfr.ai fc6 tv1 (by decide)).trans gc4
  have va6 := (gaf_fr fc6 t_a0 (gf_1_0 Wc4 t_a0) (by decide) (by decide)).trans va2
  have F7 := Zfr.tr F3 fc6 (by decide)
  exact ⟨_, rfl, Wc6, F7, va6, (gaf_r ev1 ev2).1⟩

abbrev M_Graph_isNode__g : List (Nat × Nat) := []
set_option maxRecDepth 100000 in
set_option maxHeartbeats 400000 in
theorem p_Graph_isNode__g {nf : Nat} (hn : 8589934592 ≤ nf) {G : List Nat} {c : Zc} (W : Zwt zty G c) {a0 : Nat} {a1 : Int32} {nd : Int32} (t_a0 : G[a0]? = some 1) (pl_nd : 0 ≤ nd.toInt) (pu_nd : nd.toInt ≤ 16) (eh_nd : zgi c a0 0 7 = some nd) : ∃ q, f_Graph_isNode nf a0 a1 c = some q ∧ Zwt zty G q.2 ∧ Zfr G M_Graph_isNode__g c q.2 ∧ (q.1.toInt = 0 ∨ (0 ≤ a1.toInt ∧ a1.toInt < nd.toInt)) ∧ (q.1.toInt = 1 ∨ ¬ (0 ≤ a1.toInt ∧ a1.toInt < nd.toInt)) ∧ 0 ≤ q.1.toInt ∧ q.1.toInt ≤ 1 := by
  have F0 : Zfr G M_Graph_isNode__g c c := Zfr.rf
  unfold f_Graph_isNode
  refine wi (fun hq1 => ?_) (fun hq1 => ?_)
  · have := li_0
    have := i_ge a1
    have := i_up a1
    have hq1 := i_lt hq1
    unfold f_Graph_isNode_16
    unfold f_Graph_isNode_17
    exact wz (rgi (by omega) (by omega)) ⟨W, F0, by (try dsimp only); omega, by (try dsimp only); omega, by (try dsimp only); omega, by (try dsimp only); omega⟩
  · have := li_0
    have := i_ge a1
    have := i_up a1
    have hq1 := i_nlt hq1
    refine wb eh_nd ?_
    refine wi (fun hq2 => ?_) (fun hq2 => ?_)
    · have hq2 := i_le hq2
      unfold f_Graph_isNode_16
      unfold f_Graph_isNode_17
      exact wz (rgi (by omega) (by omega)) ⟨W, F0, by (try dsimp only); omega, by (try dsimp only); omega, by (try dsimp only); omega, by (try dsimp only); omega⟩
    · have hq2 := i_nle hq2
      unfold f_Graph_isNode_17
      have := li_1
      exact wz (rgi (by omega) (by omega)) ⟨W, F0, by (try dsimp only); omega, by (try dsimp only); omega, by (try dsimp only); omega, by (try dsimp only); omega⟩

abbrev M_PQ_mark__g : List (Nat × Nat) := [(1, 9), (15, 0)]
set_option maxRecDepth 100000 in
set_option maxHeartbeats 2000000 in
theorem p_PQ_mark__g {nf : Nat} (hn : 8589934592 ≤ nf) {G : List Nat} {c : Zc} (W : Zwt zty G c) {a0 : Nat} {a1 : Int32} {a2 : Int32} {gp : Nat} {nd : Int32} (t_a0 : G[a0]? = some 14) (pl_nd : 0 ≤ nd.toInt) (pu_nd : nd.toInt ≤ 16) (eh_gp : zgr c a0 11 1 = some gp) (eh_nd : zgi c gp 0 7 = some nd) : ∃ q, f_PQ_mark nf a0 a1 a2 c = some q ∧ Zwt zty G q.2 ∧ Zfr G M_PQ_mark__g c q.2 ∧ ((¬ (0 ≤ a1.toInt ∧ a1.toInt < nd.toInt ∧ 0 ≤ a2.toInt ∧ a2.toInt < 256) ∧ q.1.toInt = -1 ∧ gaf q.2 gp 0 = gaf c gp 0) ∨ ((0 ≤ a1.toInt ∧ a1.toInt < nd.toInt ∧ 0 ≤ a2.toInt ∧ a2.toInt < 256) ∧ q.1 = gaf c gp 0 a1.toInt.toNat ∧ gaf q.2 gp 0 = upd (gaf c gp 0) a1.toInt.toNat a2)) := by
  have F0 : Zfr G M_PQ_mark__g c c := Zfr.rf
  unfold f_PQ_mark
  obtain ⟨xq, xe, tqw_1⟩ := gf_14_1 W t_a0
  rw [eh_gp] at xe; cases xe
  have vaGM : gaf c gp 0 = gaf c gp 0 := rfl
  refine wb eh_gp ?_
  obtain ⟨w3, ew3⟩ := go_1 W tqw_1
  refine wb ew3 ?_
  obtain ⟨q2, eq2, Wq2, fq2, po0q2, po1q2, pl2q2, pu2q2⟩ := p_Graph_isNode__g hn W (a1 := a1) tqw_1 (by omega) (by omega) eh_nd
  refine wb eq2 ?_
  have e3 := (Zfr.gr fq2 t_a0 (by decide)).trans eh_gp
  have e4 := (Zfr.gi fq2 tqw_1 (by decide)).trans eh_nd
  have va5 := (gaf_fr fq2 tqw_1 (gf_1_0 W tqw_1) (by decide) (by decide)).trans vaGM
  have F6 := Zfr.tr F0 fq2 (by decide)
  refine wi (fun hq7 => ?_) (fun hq7 => ?_)
  · have := li_0
    have hq7 := i_eq hq7
    unfold f_PQ_mark_22
    have := li_m1
    exact ⟨_, rfl, Wq2, F6, .inl ⟨by omega, by omega, va5⟩⟩
  · have := li_0
    have hq7 := i_ne hq7
    refine wi (fun hq8 => ?_) (fun hq8 => ?_)
    · have := i_ge a2
      have := i_up a2
      have hq8 := i_lt hq8
      unfold f_PQ_mark_22
      have := li_m1
      exact ⟨_, rfl, Wq2, F6, .inl ⟨by omega, by omega, va5⟩⟩
    · have := i_ge a2
      have := i_up a2
      have hq8 := i_nlt hq8
      refine wi (fun hq9 => ?_) (fun hq9 => ?_)
      · have := li_256
        have hq9 := i_lt hq9
        refine wb e3 ?_
        obtain ⟨w9, ew9⟩ := go_1 Wq2 tqw_1
        refine wb ew9 ?_
        have vaI := va5
        obtain ⟨q8, eq8, Wq8, fq8, po0q8, po1q8⟩ := p_Graph_changeMarks__g hn Wq2 (a1 := a1) (a2 := a2) tqw_1 (by omega) (by omega) (by omega) (by omega)
        refine wb eq8 ?_
        have e10 := (Zfr.gr fq8 t_a0 (by decide)).trans e3
        have e11 := (Zfr.gi fq8 tqw_1 (by decide)).trans e4
        have va12 := po0q8.trans (congrArg (fun f_ => (upd f_ a1.toInt.toNat a2)) va5)
        have F13 := Zfr.tr F6 fq8 (by decide)
        exact ⟨_, rfl, Wq8, F13, .inr ⟨⟨by omega, by omega, by omega, by omega⟩, po1q8.trans (congrFun vaI a1.toInt.toNat), va12⟩⟩
      · have := li_256
        have hq9 := i_nlt hq9
        unfold f_PQ_mark_22
        have := li_m1
        exact ⟨_, rfl, Wq2, F6, .inl ⟨by omega, by omega, va5⟩⟩

abbrev M_Mo_mark__g : List (Nat × Nat) := [(64, 10), (65, 0), (131, 0)]
set_option maxRecDepth 100000 in
set_option maxHeartbeats 2000000 in
theorem p_Mo_mark__g {nf : Nat} (hn : 8589934592 ≤ nf) {G : List Nat} {c : Zc} (W : Zwt zty G c) {a0 : Nat} {a1 : Int32} {a2 : Int32} {nd : Int32} (t_a0 : G[a0]? = some 64) (pl_nd : 0 ≤ nd.toInt) (pu_nd : nd.toInt ≤ 16) (eh_nd : zgi c a0 12 0 = some nd) : ∃ q, f_Mo_mark nf a0 a1 a2 c = some q ∧ Zwt zty G q.2 ∧ Zfr G M_Mo_mark__g c q.2 ∧ ((¬ (0 ≤ a1.toInt ∧ a1.toInt < nd.toInt ∧ 0 ≤ a2.toInt ∧ a2.toInt < 256) ∧ q.1.toInt = -1 ∧ vaf q.2 a0 1 = vaf c a0 1) ∨ ((0 ≤ a1.toInt ∧ a1.toInt < nd.toInt ∧ 0 ≤ a2.toInt ∧ a2.toInt < 256) ∧ q.1 = vaf c a0 1 a1.toInt.toNat ∧ vaf q.2 a0 1 = upd (vaf c a0 1) a1.toInt.toNat a2)) := by
  have F0 : Zfr G M_Mo_mark__g c c := Zfr.rf
  unfold f_Mo_mark
  have vaMM : vaf c a0 1 = vaf c a0 1 := rfl
  refine wb eh_nd ?_
  obtain ⟨q2, eq2, Wq2, fq2, po0q2, po1q2, pl2q2, pu2q2⟩ := p_Mo_isIn hn W (a0 := a1) (a1 := nd) 
  refine wb eq2 ?_
  have e1 := (Zfr.gi fq2 t_a0 (by decide)).trans eh_nd
  have va2 := (vaf_fr fq2 t_a0 (gf_64_1 W t_a0) (by decide) (by decide)).trans vaMM
  have F3 := Zfr.tr F0 fq2 (by decide)
  refine wi (fun hq4 => ?_) (fun hq4 => ?_)
  · have := li_0
    have hq4 := i_eq hq4
    unfold f_Mo_mark_21
    have := li_m1
    exact ⟨_, rfl, Wq2, F3, .inl ⟨by omega, by omega, va2⟩⟩
  · have := li_0
    have hq4 := i_ne hq4
    have := li_256
    obtain ⟨q4, eq4, Wq4, fq4, po0q4, po1q4, pl2q4, pu2q4⟩ := p_Mo_isIn hn Wq2 (a0 := a2) (a1 := 256) 
    refine wb eq4 ?_
    have e5 := (Zfr.gi fq4 t_a0 (by decide)).trans e1
    have va6 := (vaf_fr fq4 t_a0 (gf_64_1 Wq2 t_a0) (by decide) (by decide)).trans va2
    have F7 := Zfr.tr F3 fq4 (by decide)
    refine wi (fun hq8 => ?_) (fun hq8 => ?_)
    · have hq8 := i_eq hq8
      unfold f_Mo_mark_21
      have := li_m1
      exact ⟨_, rfl, Wq4, F7, .inl ⟨by omega, by omega, va6⟩⟩
    · have hq8 := i_ne hq8
      obtain ⟨v6, ev6, tv6⟩ := gf_64_1 Wq4 t_a0
      refine wb ev6 ?_
      obtain ⟨v7, ev7, lv7, uv7⟩ := ga_65 Wq4 tv6 (i := a1) (by omega) (by omega)
      refine wb ev7 ?_
      have vaI := va6
      refine wb ev6 ?_
      obtain ⟨c9, ec9, Wc9, fc9, gc9⟩ := pa_65 Wq4 tv6 (i := a1) (by omega) (by omega) (x := a2) (rgi (by omega) (by omega))
      refine wb ec9 ?_
      have e9 := (Zfr.gi fc9 t_a0 (by decide)).trans e5
      have e10 := (Zfr.gr fc9 t_a0 (by decide)).trans ev6
      have va11 := (((vaf_w ev6 ec9).1).trans (congrArg (fun f_ => upd f_ a1.toInt.toNat a2) va6))
      have F12 := Zfr.tr F7 fc9 (by decide)
      obtain ⟨w11, ew11⟩ := go_64 Wc9 t_a0
      refine wb ew11 ?_
      obtain ⟨q10, eq10, Wq10, fq10⟩ := p_Mo_changed hn Wc9  t_a0
      refine wb eq10 ?_
      have e13 := (Zfr.gi fq10 t_a0 (by decide)).trans e9
      have e14 := (Zfr.gr fq10 t_a0 (by decide)).trans e10
      have e15 := (Zfr.ai fq10 tv6 (by decide)).trans gc9
      have va16 := (vaf_fr fq10 t_a0 (gf_64_1 Wc9 t_a0) (by decide) (by decide)).trans va11
      have F17 := Zfr.tr F12 fq10 (by decide)
      exact ⟨_, rfl, Wq10, F17, .inr ⟨⟨by omega, by omega, by omega, by omega⟩, ((vaf_r ev6 ev7).1).trans (congrFun vaI a1.toInt.toNat), va16⟩⟩

abbrev M_Graph_changeColumn__g : List (Nat × Nat) := [(1, 9), (16, 0)]
set_option maxRecDepth 100000 in
set_option maxHeartbeats 2000000 in
theorem p_Graph_changeColumn__g {nf : Nat} (hn : 8589934592 ≤ nf) {G : List Nat} {c : Zc} (W : Zwt zty G c) {a0 : Nat} {a1 : Int32} {a2 : Int32} {a3 : Int32}  (t_a0 : G[a0]? = some 1) (pl_a1 : 0 ≤ a1.toInt) (pu_a1 : a1.toInt ≤ 15) (pl_a2 : 0 ≤ a2.toInt) (pu_a2 : a2.toInt ≤ 3) (pl_a3 : (-9999) ≤ a3.toInt) (pu_a3 : a3.toInt ≤ 9999) : ∃ q, f_Graph_changeColumn nf a0 a1 a2 a3 c = some q ∧ Zwt zty G q.2 ∧ Zfr G M_Graph_changeColumn__g c q.2 ∧ gaf q.2 a0 1 = upd (gaf c a0 1) ((a1 * 4 + a2).toInt.toNat) a3 ∧ q.1 = gaf c a0 1 ((a1 * 4 + a2).toInt.toNat) ∧ ((a1 * 4 + a2).toInt.toNat) = (4 * a1.toInt + a2.toInt).toNat := by
  have F0 : Zfr G M_Graph_changeColumn__g c c := Zfr.rf
  unfold f_Graph_changeColumn
  have vaGC : gaf c a0 1 = gaf c a0 1 := rfl
  obtain ⟨v1, ev1, tv1⟩ := gf_1_1 W t_a0
  refine wb ev1 ?_
  have := li_4
  have := i_mulr (a := a1) (b := 4) (n := 4) li_4 (by omega) (by omega)
  have := i_add (a := (a1 * 4)) (b := a2) (by omega) (by omega)
  obtain ⟨v2, ev2, lv2, uv2⟩ := ga_16 W tv1 (i := ((a1 * 4) + a2)) (by omega) (by omega)
  refine wb ev2 ?_
  refine wb ev1 ?_
  obtain ⟨c4, ec4, Wc4, fc4, gc4⟩ := pa_16 W tv1 (i := ((a1 * 4) + a2)) (by omega) (by omega) (x := a3) (rgi (by omega) (by omega))
  refine wb ec4 ?_
  have e1 := (Zfr.gr fc4 t_a0 (by decide)).trans ev1
  have va2 := (((gaf_w ev1 ec4).1).trans (congrArg (fun f_ => upd f_ ((a1 * 4) + a2).toInt.toNat a3) vaGC))
  have F3 := Zfr.tr F0 fc4 (by decide)
  obtain ⟨v5, ev5, _⟩ := gf_1_9 Wc4 t_a0
  refine wb ev5 ?_
  obtain ⟨c6, ec6, Wc6, fc6, gc6⟩ := pf_1_9 Wc4 t_a0 (x := (v5 + 1)) (trivial)
  refine wb ec6 ?_
  have e4 := (Zfr.gr fc6 t_a0 (by decide)).trans e1
  have e5 := (Zfr.ai fc6 tv1 (by decide)).trans gc4
  have va6 := (gaf_fr fc6 t_a0 (gf_1_1 Wc4 t_a0) (by decide) (by decide)).trans va2
  have F7 := Zfr.tr F3 fc6 (by decide)
  exact ⟨_, rfl, Wc6, F7, va6, (gaf_r ev1 ev2).1, by omega⟩

abbrev M_PQ_put__g : List (Nat × Nat) := [(1, 9), (16, 0)]
set_option maxRecDepth 100000 in
set_option maxHeartbeats 2000000 in
theorem p_PQ_put__g {nf : Nat} (hn : 8589934592 ≤ nf) {G : List Nat} {c : Zc} (W : Zwt zty G c) {a0 : Nat} {a1 : Int32} {a2 : Int32} {a3 : Int32} {gp : Nat} {nd : Int32} (t_a0 : G[a0]? = some 14) (pl_nd : 0 ≤ nd.toInt) (pu_nd : nd.toInt ≤ 16) (eh_gp : zgr c a0 11 1 = some gp) (eh_nd : zgi c gp 0 7 = some nd) : ∃ q, f_PQ_put nf a0 a1 a2 a3 c = some q ∧ Zwt zty G q.2 ∧ Zfr G M_PQ_put__g c q.2 ∧ ((¬ (0 ≤ a1.toInt ∧ a1.toInt < nd.toInt ∧ 0 ≤ a2.toInt ∧ a2.toInt < 4 ∧ -9999 ≤ a3.toInt ∧ a3.toInt ≤ 9999) ∧ q.1.toInt = 10000 ∧ gaf q.2 gp 1 = gaf c gp 1) ∨ ((0 ≤ a1.toInt ∧ a1.toInt < nd.toInt ∧ 0 ≤ a2.toInt ∧ a2.toInt < 4 ∧ -9999 ≤ a3.toInt ∧ a3.toInt ≤ 9999) ∧ q.1 = gaf c gp 1 (4 * a1.toInt + a2.toInt).toNat ∧ gaf q.2 gp 1 = upd (gaf c gp 1) (4 * a1.toInt + a2.toInt).toNat a3)) := by
  have F0 : Zfr G M_PQ_put__g c c := Zfr.rf
  unfold f_PQ_put
  obtain ⟨xq, xe, tqw_1⟩ := gf_14_1 W t_a0
  rw [eh_gp] at xe; cases xe
  have vaGC : gaf c gp 1 = gaf c gp 1 := rfl
  refine wb eh_gp ?_
  obtain ⟨w3, ew3⟩ := go_1 W tqw_1
  refine wb ew3 ?_
  obtain ⟨q2, eq2, Wq2, fq2, po0q2, po1q2, pl2q2, pu2q2⟩ := p_Graph_isNode__g hn W (a1 := a1) tqw_1 (by omega) (by omega) eh_nd
  refine wb eq2 ?_
  have e3 := (Zfr.gr fq2 t_a0 (by decide)).trans eh_gp
  have e4 := (Zfr.gi fq2 tqw_1 (by decide)).trans eh_nd
  have va5 := (gaf_fr fq2 tqw_1 (gf_1_1 W tqw_1) (by decide) (by decide)).trans vaGC
  have F6 := Zfr.tr F0 fq2 (by decide)
  refine wi (fun hq7 => ?_) (fun hq7 => ?_)
  · have := li_0
    have hq7 := i_eq hq7
    unfold f_PQ_put_24
    unfold f_PQ_put_25
    refine wi (fun hq8 => ?_) (fun hq8 => ?_)
    · have hq8 := i_eq hq8
      unfold f_PQ_put_46
      have := li_10000
      exact ⟨_, rfl, Wq2, F6, .inl ⟨by omega, by omega, va5⟩⟩
    · have hq8 := i_ne hq8
      refine wi (fun hq9 => ?_) (fun hq9 => ?_)
      · have := li_m9999
        have := i_ge a3
        have := i_up a3
        have hq9 := i_lt hq9
        unfold f_PQ_put_46
        have := li_10000
        exact ⟨_, rfl, Wq2, F6, .inl ⟨by omega, by omega, va5⟩⟩
      · have := li_m9999
        have := i_ge a3
        have := i_up a3
        have hq9 := i_nlt hq9
        refine wi (fun hq10 => ?_) (fun hq10 => ?_)
        · have := li_9999
          have hq10 := i_le hq10
          refine wb e3 ?_
          obtain ⟨w10, ew10⟩ := go_1 Wq2 tqw_1
          refine wb ew10 ?_
          have vaI := va5
          obtain ⟨q9, eq9, Wq9, fq9, po0q9, po1q9, po2q9⟩ := p_Graph_changeColumn__g hn Wq2 (a1 := a1) (a2 := a2) (a3 := a3) tqw_1 (by omega) (by omega) (by omega) (by omega) (by omega) (by omega)
          refine wb eq9 ?_
          have e11 := (Zfr.gr fq9 t_a0 (by decide)).trans e3
          have e12 := (Zfr.gi fq9 tqw_1 (by decide)).trans e4
          have va13 := po0q9.trans (congrArg (fun f_ => (upd f_ ((a1 * 4 + a2).toInt.toNat) a3)) va5)
          have F14 := Zfr.tr F6 fq9 (by decide)
          exact ⟨_, rfl, Wq9, F14, .inr ⟨⟨by omega, by omega, by omega, by omega, by omega, by omega⟩, (by rw [← po2q9]; exact po1q9.trans (congrFun vaI _)), (by rw [← po2q9]; exact va13)⟩⟩
        · have := li_9999
          have hq10 := i_nle hq10
          unfold f_PQ_put_46
          have := li_10000
          exact ⟨_, rfl, Wq2, F6, .inl ⟨by omega, by omega, va5⟩⟩
  · have := li_0
    have hq7 := i_ne hq7
    refine wi (fun hq15 => ?_) (fun hq15 => ?_)
    · have := i_ge a2
      have := i_up a2
      have hq15 := i_lt hq15
      unfold f_PQ_put_24
      unfold f_PQ_put_25
      refine wi (fun hq16 => ?_) (fun hq16 => ?_)
      · have hq16 := i_eq hq16
        unfold f_PQ_put_46
        have := li_10000
        exact ⟨_, rfl, Wq2, F6, .inl ⟨by omega, by omega, va5⟩⟩
      · have hq16 := i_ne hq16
        refine wi (fun hq17 => ?_) (fun hq17 => ?_)
        · have := li_m9999
          have := i_ge a3
          have := i_up a3
          have hq17 := i_lt hq17
          unfold f_PQ_put_46
          have := li_10000
          exact ⟨_, rfl, Wq2, F6, .inl ⟨by omega, by omega, va5⟩⟩
        · have := li_m9999
          have := i_ge a3
          have := i_up a3
          have hq17 := i_nlt hq17
          refine wi (fun hq18 => ?_) (fun hq18 => ?_)
          · have := li_9999
            have hq18 := i_le hq18
            refine wb e3 ?_
            obtain ⟨w10, ew10⟩ := go_1 Wq2 tqw_1
            refine wb ew10 ?_
            have vaI := va5
            obtain ⟨q9, eq9, Wq9, fq9, po0q9, po1q9, po2q9⟩ := p_Graph_changeColumn__g hn Wq2 (a1 := a1) (a2 := a2) (a3 := a3) tqw_1 (by omega) (by omega) (by omega) (by omega) (by omega) (by omega)
            refine wb eq9 ?_
            have e19 := (Zfr.gr fq9 t_a0 (by decide)).trans e3
            have e20 := (Zfr.gi fq9 tqw_1 (by decide)).trans e4
            have va21 := po0q9.trans (congrArg (fun f_ => (upd f_ ((a1 * 4 + a2).toInt.toNat) a3)) va5)
            have F22 := Zfr.tr F6 fq9 (by decide)
            exact ⟨_, rfl, Wq9, F22, .inr ⟨⟨by omega, by omega, by omega, by omega, by omega, by omega⟩, (by rw [← po2q9]; exact po1q9.trans (congrFun vaI _)), (by rw [← po2q9]; exact va21)⟩⟩
          · have := li_9999
            have hq18 := i_nle hq18
            unfold f_PQ_put_46
            have := li_10000
            exact ⟨_, rfl, Wq2, F6, .inl ⟨by omega, by omega, va5⟩⟩
    · have := i_ge a2
      have := i_up a2
      have hq15 := i_nlt hq15
      refine wi (fun hq23 => ?_) (fun hq23 => ?_)
      · have := li_4
        have hq23 := i_le hq23
        unfold f_PQ_put_24
        unfold f_PQ_put_25
        refine wi (fun hq24 => ?_) (fun hq24 => ?_)
        · have hq24 := i_eq hq24
          unfold f_PQ_put_46
          have := li_10000
          exact ⟨_, rfl, Wq2, F6, .inl ⟨by omega, by omega, va5⟩⟩
        · have hq24 := i_ne hq24
          refine wi (fun hq25 => ?_) (fun hq25 => ?_)
          · have := li_m9999
            have := i_ge a3
            have := i_up a3
            have hq25 := i_lt hq25
            unfold f_PQ_put_46
            have := li_10000
            exact ⟨_, rfl, Wq2, F6, .inl ⟨by omega, by omega, va5⟩⟩
          · have := li_m9999
            have := i_ge a3
            have := i_up a3
            have hq25 := i_nlt hq25
            refine wi (fun hq26 => ?_) (fun hq26 => ?_)
            · have := li_9999
              have hq26 := i_le hq26
              refine wb e3 ?_
              obtain ⟨w10, ew10⟩ := go_1 Wq2 tqw_1
              refine wb ew10 ?_
              have vaI := va5
              obtain ⟨q9, eq9, Wq9, fq9, po0q9, po1q9, po2q9⟩ := p_Graph_changeColumn__g hn Wq2 (a1 := a1) (a2 := a2) (a3 := a3) tqw_1 (by omega) (by omega) (by omega) (by omega) (by omega) (by omega)
              refine wb eq9 ?_
              have e27 := (Zfr.gr fq9 t_a0 (by decide)).trans e3
              have e28 := (Zfr.gi fq9 tqw_1 (by decide)).trans e4
              have va29 := po0q9.trans (congrArg (fun f_ => (upd f_ ((a1 * 4 + a2).toInt.toNat) a3)) va5)
              have F30 := Zfr.tr F6 fq9 (by decide)
              exact ⟨_, rfl, Wq9, F30, .inr ⟨⟨by omega, by omega, by omega, by omega, by omega, by omega⟩, (by rw [← po2q9]; exact po1q9.trans (congrFun vaI _)), (by rw [← po2q9]; exact va29)⟩⟩
            · have := li_9999
              have hq26 := i_nle hq26
              unfold f_PQ_put_46
              have := li_10000
              exact ⟨_, rfl, Wq2, F6, .inl ⟨by omega, by omega, va5⟩⟩
      · have := li_4
        have hq23 := i_nle hq23
        unfold f_PQ_put_25
        refine wi (fun hq31 => ?_) (fun hq31 => ?_)
        · have := li_1
          have hq31 := i_eq hq31
          unfold f_PQ_put_46
          have := li_10000
          exact ⟨_, rfl, Wq2, F6, .inl ⟨by omega, by omega, va5⟩⟩
        · have := li_1
          have hq31 := i_ne hq31
          refine wi (fun hq32 => ?_) (fun hq32 => ?_)
          · have := li_m9999
            have := i_ge a3
            have := i_up a3
            have hq32 := i_lt hq32
            unfold f_PQ_put_46
            have := li_10000
            exact ⟨_, rfl, Wq2, F6, .inl ⟨by omega, by omega, va5⟩⟩
          · have := li_m9999
            have := i_ge a3
            have := i_up a3
            have hq32 := i_nlt hq32
            refine wi (fun hq33 => ?_) (fun hq33 => ?_)
            · have := li_9999
              have hq33 := i_le hq33
              refine wb e3 ?_
              obtain ⟨w10, ew10⟩ := go_1 Wq2 tqw_1
              refine wb ew10 ?_
              have vaI := va5
              obtain ⟨q9, eq9, Wq9, fq9, po0q9, po1q9, po2q9⟩ := p_Graph_changeColumn__g hn Wq2 (a1 := a1) (a2 := a2) (a3 := a3) tqw_1 (by omega) (by omega) (by omega) (by omega) (by omega) (by omega)
              refine wb eq9 ?_
              have e34 := (Zfr.gr fq9 t_a0 (by decide)).trans e3
              have e35 := (Zfr.gi fq9 tqw_1 (by decide)).trans e4
              have va36 := po0q9.trans (congrArg (fun f_ => (upd f_ ((a1 * 4 + a2).toInt.toNat) a3)) va5)
              have F37 := Zfr.tr F6 fq9 (by decide)
              exact ⟨_, rfl, Wq9, F37, .inr ⟨⟨by omega, by omega, by omega, by omega, by omega, by omega⟩, (by rw [← po2q9]; exact po1q9.trans (congrFun vaI _)), (by rw [← po2q9]; exact va36)⟩⟩
            · have := li_9999
              have hq33 := i_nle hq33
              unfold f_PQ_put_46
              have := li_10000
              exact ⟨_, rfl, Wq2, F6, .inl ⟨by omega, by omega, va5⟩⟩

abbrev M_Mo_put__g : List (Nat × Nat) := [(64, 10), (66, 0), (131, 0)]
set_option maxRecDepth 100000 in
set_option maxHeartbeats 2000000 in
theorem p_Mo_put__g {nf : Nat} (hn : 8589934592 ≤ nf) {G : List Nat} {c : Zc} (W : Zwt zty G c) {a0 : Nat} {a1 : Int32} {a2 : Int32} {a3 : Int32} {nd : Int32} (t_a0 : G[a0]? = some 64) (pl_nd : 0 ≤ nd.toInt) (pu_nd : nd.toInt ≤ 16) (eh_nd : zgi c a0 12 0 = some nd) : ∃ q, f_Mo_put nf a0 a1 a2 a3 c = some q ∧ Zwt zty G q.2 ∧ Zfr G M_Mo_put__g c q.2 ∧ ((¬ (0 ≤ a1.toInt ∧ a1.toInt < nd.toInt ∧ 0 ≤ a2.toInt ∧ a2.toInt < 4 ∧ -9999 ≤ a3.toInt ∧ a3.toInt ≤ 9999) ∧ q.1.toInt = 10000 ∧ vaf q.2 a0 2 = vaf c a0 2) ∨ ((0 ≤ a1.toInt ∧ a1.toInt < nd.toInt ∧ 0 ≤ a2.toInt ∧ a2.toInt < 4 ∧ -9999 ≤ a3.toInt ∧ a3.toInt ≤ 9999) ∧ q.1 = vaf c a0 2 (4 * a1.toInt + a2.toInt).toNat ∧ vaf q.2 a0 2 = upd (vaf c a0 2) (4 * a1.toInt + a2.toInt).toNat a3)) := by
  have F0 : Zfr G M_Mo_put__g c c := Zfr.rf
  unfold f_Mo_put
  have vaMC : vaf c a0 2 = vaf c a0 2 := rfl
  refine wb eh_nd ?_
  obtain ⟨q2, eq2, Wq2, fq2, po0q2, po1q2, pl2q2, pu2q2⟩ := p_Mo_isIn hn W (a0 := a1) (a1 := nd) 
  refine wb eq2 ?_
  have e1 := (Zfr.gi fq2 t_a0 (by decide)).trans eh_nd
  have va2 := (vaf_fr fq2 t_a0 (gf_64_2 W t_a0) (by decide) (by decide)).trans vaMC
  have F3 := Zfr.tr F0 fq2 (by decide)
  refine wi (fun hq4 => ?_) (fun hq4 => ?_)
  · have := li_0
    have hq4 := i_eq hq4
    unfold f_Mo_put_33
    have := li_10000
    exact ⟨_, rfl, Wq2, F3, .inl ⟨by omega, by omega, va2⟩⟩
  · have := li_0
    have hq4 := i_ne hq4
    have := li_4
    obtain ⟨q4, eq4, Wq4, fq4, po0q4, po1q4, pl2q4, pu2q4⟩ := p_Mo_isIn hn Wq2 (a0 := a2) (a1 := 4) 
    refine wb eq4 ?_
    have e5 := (Zfr.gi fq4 t_a0 (by decide)).trans e1
    have va6 := (vaf_fr fq4 t_a0 (gf_64_2 Wq2 t_a0) (by decide) (by decide)).trans va2
    have F7 := Zfr.tr F3 fq4 (by decide)
    refine wi (fun hq8 => ?_) (fun hq8 => ?_)
    · have hq8 := i_eq hq8
      unfold f_Mo_put_33
      have := li_10000
      exact ⟨_, rfl, Wq4, F7, .inl ⟨by omega, by omega, va6⟩⟩
    · have hq8 := i_ne hq8
      refine wi (fun hq9 => ?_) (fun hq9 => ?_)
      · have := li_m9999
        have := i_ge a3
        have := i_up a3
        have hq9 := i_lt hq9
        unfold f_Mo_put_33
        have := li_10000
        exact ⟨_, rfl, Wq4, F7, .inl ⟨by omega, by omega, va6⟩⟩
      · have := li_m9999
        have := i_ge a3
        have := i_up a3
        have hq9 := i_nlt hq9
        refine wi (fun hq10 => ?_) (fun hq10 => ?_)
        · have := li_9999
          have hq10 := i_le hq10
          obtain ⟨v8, ev8, tv8⟩ := gf_64_2 Wq4 t_a0
          refine wb ev8 ?_
          have := i_mull (a := 4) (b := a1) (n := 4) li_4 (by omega) (by omega)
          have := i_add (a := (4 * a1)) (b := a2) (by omega) (by omega)
          obtain ⟨v9, ev9, lv9, uv9⟩ := ga_66 Wq4 tv8 (i := ((4 * a1) + a2)) (by omega) (by omega)
          refine wb ev9 ?_
          have vaI := va6
          have vaX : ((4 * a1) + a2).toInt.toNat = (4 * a1.toInt + a2.toInt).toNat := by omega
          refine wb ev8 ?_
          obtain ⟨c11, ec11, Wc11, fc11, gc11⟩ := pa_66 Wq4 tv8 (i := ((4 * a1) + a2)) (by omega) (by omega) (x := a3) (rgi (by omega) (by omega))
          refine wb ec11 ?_
          have e11 := (Zfr.gi fc11 t_a0 (by decide)).trans e5
          have e12 := (Zfr.gr fc11 t_a0 (by decide)).trans ev8
          have va13 := (((vaf_w ev8 ec11).1).trans (congrArg (fun f_ => upd f_ ((4 * a1) + a2).toInt.toNat a3) va6))
          have F14 := Zfr.tr F7 fc11 (by decide)
          obtain ⟨w13, ew13⟩ := go_64 Wc11 t_a0
          refine wb ew13 ?_
          obtain ⟨q12, eq12, Wq12, fq12⟩ := p_Mo_changed hn Wc11  t_a0
          refine wb eq12 ?_
          have e15 := (Zfr.gi fq12 t_a0 (by decide)).trans e11
          have e16 := (Zfr.gr fq12 t_a0 (by decide)).trans e12
          have e17 := (Zfr.ai fq12 tv8 (by decide)).trans gc11
          have va18 := (vaf_fr fq12 t_a0 (gf_64_2 Wc11 t_a0) (by decide) (by decide)).trans va13
          have F19 := Zfr.tr F14 fq12 (by decide)
          exact ⟨_, rfl, Wq12, F19, .inr ⟨⟨by omega, by omega, by omega, by omega, by omega, by omega⟩, (by rw [← vaX]; exact ((vaf_r ev8 ev9).1).trans (congrFun vaI _)), (by rw [← vaX]; exact va18)⟩⟩
        · have := li_9999
          have hq10 := i_nle hq10
          unfold f_Mo_put_33
          have := li_10000
          exact ⟨_, rfl, Wq4, F7, .inl ⟨by omega, by omega, va6⟩⟩

abbrev M_Mo_node__g : List (Nat × Nat) := [(64, 0), (64, 10), (65, 0), (66, 0), (131, 0)]
set_option maxRecDepth 100000 in
set_option maxHeartbeats 2000000 in
theorem p_Mo_node__g {nf : Nat} (hn : 8589934592 ≤ nf) {G : List Nat} {c : Zc} (W : Zwt zty G c) {a0 : Nat} {a1 : Int32} {nd : Int32} (t_a0 : G[a0]? = some 64) (pl_nd : 0 ≤ nd.toInt) (pu_nd : nd.toInt ≤ 16) (eh_nd : zgi c a0 12 0 = some nd) : ∃ q, f_Mo_node nf a0 a1 c = some q ∧ Zwt zty G q.2 ∧ Zfr G M_Mo_node__g c q.2 ∧ ((vfi q.2 a0 0 = nd.toInt ∧ vaf q.2 a0 1 = vaf c a0 1) ∨ (vfi q.2 a0 0 = nd.toInt + 1 ∧ vaf q.2 a0 1 = upd (vaf c a0 1) nd.toInt.toNat a1)) ∧ ((vfi q.2 a0 0 = nd.toInt ∧ vaf q.2 a0 2 = vaf c a0 2) ∨ (vfi q.2 a0 0 = nd.toInt + 1 ∧ CZm q.2 a0 (vaf c a0 2) (4 * nd.toInt) 4)) ∧ Zn2 G q.2 a0 nd a1 q.1 := by
  have F0 : Zfr G M_Mo_node__g c c := Zfr.rf
  unfold f_Mo_node
  have vaMM : vaf c a0 1 = vaf c a0 1 := rfl
  have vaMC : vaf c a0 2 = vaf c a0 2 := rfl
  have := li_256
  obtain ⟨q1, eq1, Wq1, fq1, po0q1, po1q1, pl2q1, pu2q1⟩ := p_Mo_isIn hn W (a0 := a1) (a1 := 256) 
  refine wb eq1 ?_
  have e1 := (Zfr.gi fq1 t_a0 (by decide)).trans eh_nd
  have va2 := (vaf_fr fq1 t_a0 (gf_64_1 W t_a0) (by decide) (by decide)).trans vaMM
  have va3 := (vaf_fr fq1 t_a0 (gf_64_2 W t_a0) (by decide) (by decide)).trans vaMC
  have F4 := Zfr.tr F0 fq1 (by decide)
  refine wi (fun hq5 => ?_) (fun hq5 => ?_)
  · have := li_0
    have hq5 := i_eq hq5
    have := li_m1
    exact ⟨_, rfl, Wq1, F4, .inl ⟨by rw [vfi_e e1]; try omega, va2⟩, .inl ⟨by rw [vfi_e e1]; try omega, va3⟩, ⟨nd, e1, by (try dsimp only); omega, by (try dsimp only); omega, by (try dsimp only); omega⟩⟩
  · have := li_0
    have hq5 := i_ne hq5
    refine wb e1 ?_
    refine wi (fun hq7 => ?_) (fun hq7 => ?_)
    · have := li_16
      have hq7 := i_eq hq7
      have := li_m3
      exact ⟨_, rfl, Wq1, F4, .inl ⟨by rw [vfi_e e1]; try omega, va2⟩, .inl ⟨by rw [vfi_e e1]; try omega, va3⟩, ⟨nd, e1, by (try dsimp only); omega, by (try dsimp only); omega, by (try dsimp only); omega⟩⟩
    · have := li_16
      have hq7 := i_ne hq7
      obtain ⟨v5, ev5, tv5⟩ := gf_64_1 Wq1 t_a0
      refine wb ev5 ?_
      refine wb e1 ?_
      obtain ⟨c7, ec7, Wc7, fc7, gc7⟩ := pa_65 Wq1 tv5 (i := nd) (by omega) (by omega) (x := a1) (rgi (by omega) (by omega))
      refine wb ec7 ?_
      have e9 := (Zfr.gi fc7 t_a0 (by decide)).trans e1
      have e10 := (Zfr.gr fc7 t_a0 (by decide)).trans ev5
      have va11 := (((vaf_w ev5 ec7).1).trans (congrArg (fun f_ => upd f_ nd.toInt.toNat a1) va2))
      have va12 := (vaf_fr fc7 t_a0 (gf_64_2 Wq1 t_a0) (by decide) (by decide)).trans va3
      have F13 := Zfr.tr F4 fc7 (by decide)
      unfold f_Mo_node_36
      have L14 : ∃ b, zlp (fun a : Nat × Int32 × Zc => g_Mo_node_36 nf a.1 a.2.1 a.2.2) nf (a0, 0, c7) = some b ∧ (fun b : (Nat × Zc) => a0 = b.1 ∧ Zwt zty G b.2 ∧ Zfr G ([(66, 0)] : List (Nat × Nat)) c7 b.2 ∧ Zcm G b.2 a0 (vaf c a0 2) (4 * nd.toInt) 4) b := by
        refine wlp (fun a : Nat × Int32 × Zc => a0 = a.1 ∧ Zwt zty G a.2.2 ∧ Zfr G ([(66, 0)] : List (Nat × Nat)) c7 a.2.2 ∧ 0 ≤ a.2.1.toInt ∧ a.2.1.toInt ≤ 4 ∧ Zcm G a.2.2 a0 (vaf c a0 2) (4 * nd.toInt) a.2.1) (fun a => (4 - a.2.1.toInt).toNat) (fun b : (Nat × Zc) => a0 = b.1 ∧ Zwt zty G b.2 ∧ Zfr G ([(66, 0)] : List (Nat × Nat)) c7 b.2 ∧ Zcm G b.2 a0 (vaf c a0 2) (4 * nd.toInt) 4) ?_ ?_ ?_
        · rintro ⟨x0_15, x2_15, c_15⟩ hI
          try dsimp only at hI ⊢
          obtain ⟨rfl, WLc_15, FLc_15, j16, j17, hBZcm_15⟩ := hI
          have e18 := (Zfr.gi FLc_15 t_a0 (by decide)).trans e9
          have e19 := (Zfr.gr FLc_15 t_a0 (by decide)).trans e10
          have e20 := (Zfr.ai FLc_15 tv5 (by decide)).trans gc7
          have va21 := (vaf_fr FLc_15 t_a0 (gf_64_1 Wc7 t_a0) (by decide) (by decide)).trans va11
          have k0Zcm_15 := hBZcm_15
          unfold g_Mo_node_36
          refine wi (fun hq23 => ?_) (fun hq23 => ?_)
          · have := li_4
            have hq23 := i_le hq23
            exact lInr ⟨rfl, WLc_15, FLc_15, CZ_m k0Zcm_15 (by omega)⟩
          · have := li_4
            have hq23 := i_nle hq23
            obtain ⟨v9, ev9, tv9⟩ := gf_64_2 WLc_15 t_a0
            refine wb ev9 ?_
            refine wb e18 ?_
            have := i_mull (a := 4) (b := nd) (n := 4) li_4 (by omega) (by omega)
            have := i_add (a := (4 * nd)) (b := x2_15) (by omega) (by omega)
            obtain ⟨c11, ec11, Wc11, fc11, gc11⟩ := pa_66 WLc_15 tv9 (i := ((4 * nd) + x2_15)) (by omega) (by omega) (x := 0) (rgi (by omega) (by omega))
            refine wb ec11 ?_
            have e24 := (Zfr.gi fc11 t_a0 (by decide)).trans e18
            have e25 := (Zfr.gr fc11 t_a0 (by decide)).trans e19
            have e26 := (Zfr.ai fc11 tv5 (by decide)).trans e20
            have e27 := (Zfr.gr fc11 t_a0 (by decide)).trans ev9
            have va28 := (vaf_fr fc11 t_a0 (gf_64_1 WLc_15 t_a0) (by decide) (by decide)).trans va21
            have := li_1
            have := i_add (a := x2_15) (b := 1) (by omega) (by omega)
            have cz29 := CZm_w (k' := (x2_15 + 1)) k0Zcm_15 ev9 ec11 (by omega) (by omega) (by omega) (by omega)
            have F30 := Zfr.tr FLc_15 fc11 (by decide)
            exact lInl ⟨rfl, Wc11, F30, by (try dsimp only); omega, by (try dsimp only); omega, cz29⟩ (by (try dsimp only); omega)
        · exact ⟨rfl, Wc7, Zfr.rf, by (try dsimp only); omega, by (try dsimp only); omega, CzF_0 va12 (by omega)⟩
        · (try dsimp only); omega
      obtain ⟨b, eb, hb⟩ := L14
      refine wb eb ?_
      clear eb
      obtain ⟨z0_31, c_31⟩ := b
      try dsimp only at hb ⊢
      obtain ⟨rfl, WXc_31, FXc_31, hXZcmc_31⟩ := hb
      have e32 := (Zfr.gi FXc_31 t_a0 (by decide)).trans e9
      have e33 := (Zfr.gr FXc_31 t_a0 (by decide)).trans e10
      have e34 := (Zfr.ai FXc_31 tv5 (by decide)).trans gc7
      have va35 := (vaf_fr FXc_31 t_a0 (gf_64_1 Wc7 t_a0) (by decide) (by decide)).trans va11
      have F37 := Zfr.tr F13 FXc_31 (by decide)
      have := li_4
      have k0Zcmxc_31 := hXZcmc_31
      refine wb e32 ?_
      have := li_1
      have := i_add (a := nd) (b := 1) (by omega) (by omega)
      obtain ⟨c13, ec13, Wc13, fc13, gc13⟩ := pf_64_0 WXc_31 t_a0 (x := (nd + 1)) (rgi (by omega) (by omega))
      refine wb ec13 ?_
      have e38 := (Zfr.gr fc13 t_a0 (by decide)).trans e33
      have e39 := (Zfr.ai fc13 tv5 (by decide)).trans e34
      have va40 := (vaf_fr fc13 t_a0 (gf_64_1 WXc_31 t_a0) (by decide) (by decide)).trans va35
      have cz41 := CZm_fr k0Zcmxc_31 fc13 t_a0 WXc_31 (by decide)
      have F42 := Zfr.tr F37 fc13 (by decide)
      obtain ⟨w15, ew15⟩ := go_64 Wc13 t_a0
      refine wb ew15 ?_
      obtain ⟨q14, eq14, Wq14, fq14⟩ := p_Mo_changed hn Wc13  t_a0
      refine wb eq14 ?_
      have e43 := (Zfr.gr fq14 t_a0 (by decide)).trans e38
      have e44 := (Zfr.ai fq14 tv5 (by decide)).trans e39
      have e45 := (Zfr.gi fq14 t_a0 (by decide)).trans gc13
      have va46 := (vaf_fr fq14 t_a0 (gf_64_1 Wc13 t_a0) (by decide) (by decide)).trans va40
      have cz47 := CZm_fr cz41 fq14 t_a0 Wc13 (by decide)
      have F48 := Zfr.tr F42 fq14 (by decide)
      refine wb e45 ?_
      have := i_sub (a := (nd + 1)) (b := 1) (by omega) (by omega)
      exact ⟨_, rfl, Wq14, F48, .inr ⟨by rw [vfi_e e45]; omega, va46⟩, .inr ⟨by rw [vfi_e e45]; omega, cz47⟩, ⟨(nd + 1), e45, by (try dsimp only); omega, by (try dsimp only); omega, by (try dsimp only); omega⟩⟩

abbrev M_Graph_strip__g : List (Nat × Nat) := [(1, 8), (1, 9), (15, 0), (16, 0), (19, 0)]
set_option maxRecDepth 100000 in
set_option maxHeartbeats 2000000 in
theorem p_Graph_strip__g {nf : Nat} (hn : 8589934592 ≤ nf) {G : List Nat} {c : Zc} (W : Zwt zty G c) {a0 : Nat} {a1 : Int32}  (t_a0 : G[a0]? = some 1) (pl_a1 : 0 ≤ a1.toInt) (pu_a1 : a1.toInt ≤ 15) : ∃ q, f_Graph_strip nf a0 a1 c = some q ∧ Zwt zty G q.2 ∧ Zfr G M_Graph_strip__g c q.2 ∧ gaf q.2 a0 0 = upd (gaf c a0 0) a1.toInt.toNat 0 ∧ CZg q.2 a0 (gaf c a0 1) (4 * a1.toInt) 4 := by
  have F0 : Zfr G M_Graph_strip__g c c := Zfr.rf
  unfold f_Graph_strip
  have vaGM : gaf c a0 0 = gaf c a0 0 := rfl
  have vaGC : gaf c a0 1 = gaf c a0 1 := rfl
  unfold f_Graph_strip_4
  have := li_0
  have L1 : ∃ b, zlp (fun a : Nat × Int32 × Int32 × Int32 × Zc => g_Graph_strip_4 nf a.1 a.2.1 a.2.2.1 a.2.2.2.1 a.2.2.2.2) nf (a0, a1, 0, 0, c) = some b ∧ (fun b : (Nat × Int32 × Int32 × Zc) => a0 = b.1 ∧ a1 = b.2.1 ∧ Zwt zty G b.2.2.2 ∧ Zfr G ([(1, 8), (1, 9), (19, 0)] : List (Nat × Nat)) c b.2.2.2) b := by
    refine wlp (fun a : Nat × Int32 × Int32 × Int32 × Zc => a0 = a.1 ∧ a1 = a.2.1 ∧ Zwt zty G a.2.2.2.2 ∧ Zfr G ([(1, 8), (1, 9), (19, 0)] : List (Nat × Nat)) c a.2.2.2.2 ∧ 0 ≤ a.2.2.2.1.toInt ∧ a.2.2.2.1.toInt ≤ 100) (fun a => (100 - a.2.2.2.1.toInt).toNat) (fun b : (Nat × Int32 × Int32 × Zc) => a0 = b.1 ∧ a1 = b.2.1 ∧ Zwt zty G b.2.2.2 ∧ Zfr G ([(1, 8), (1, 9), (19, 0)] : List (Nat × Nat)) c b.2.2.2) ?_ ?_ ?_
    · rintro ⟨x0_2, x1_2, x2_2, x3_2, c_2⟩ hI
      try dsimp only at hI ⊢
      obtain ⟨rfl, rfl, WLc_2, FLc_2, j3, j4⟩ := hI
      have va5 := (gaf_fr FLc_2 t_a0 (gf_1_0 W t_a0) (by decide) (by decide)).trans vaGM
      have va6 := (gaf_fr FLc_2 t_a0 (gf_1_1 W t_a0) (by decide) (by decide)).trans vaGC
      unfold g_Graph_strip_4
      refine wi (fun hq7 => ?_) (fun hq7 => ?_)
      · have := li_100
        have hq7 := i_le hq7
        exact lInr ⟨rfl, rfl, WLc_2, FLc_2⟩
      · have := li_100
        have hq7 := i_nle hq7
        obtain ⟨v2, ev2, tv2⟩ := gf_1_4 WLc_2 t_a0
        refine wb ev2 ?_
        obtain ⟨v3, ev3, lv3, uv3⟩ := ga_19 WLc_2 tv2 (i := x3_2) (by omega) (by omega)
        refine wb ev3 ?_
        refine wi (fun hq8 => ?_) (fun hq8 => ?_)
        · have := li_m1
          have hq8 := i_eq hq8
          unfold f_Graph_strip_48
          have := li_1
          have := i_add (a := x3_2) (b := 1) (by omega) (by omega)
          exact lInl ⟨rfl, rfl, WLc_2, FLc_2, by (try dsimp only); omega, by (try dsimp only); omega⟩ (by (try dsimp only); omega)
        · have := li_m1
          have hq8 := i_ne hq8
          obtain ⟨v5, ev5, tv5⟩ := gf_1_2 WLc_2 t_a0
          refine wb ev5 ?_
          obtain ⟨v6, ev6, lv6, uv6⟩ := ga_17 WLc_2 tv5 (i := x3_2) (by omega) (by omega)
          refine wb ev6 ?_
          refine wi (fun hq9 => ?_) (fun hq9 => ?_)
          · have hq9 := i_eq hq9
            unfold f_Graph_strip_40
            obtain ⟨w9, ew9⟩ := go_1 WLc_2 t_a0
            refine wb ew9 ?_
            obtain ⟨q8, eq8, Wq8, fq8⟩ := p_Graph_removeArc hn WLc_2 (a1 := x3_2) t_a0 (by omega) (by omega)
            refine wb eq8 ?_
            have e10 := (Zfr.gr fq8 t_a0 (by decide)).trans ev2
            have e11 := (Zfr.ai fq8 tv5 (by decide)).trans ev6
            have va12 := (gaf_fr fq8 t_a0 (gf_1_0 WLc_2 t_a0) (by decide) (by decide)).trans va5
            have va13 := (gaf_fr fq8 t_a0 (gf_1_1 WLc_2 t_a0) (by decide) (by decide)).trans va6
            have F14 := Zfr.tr FLc_2 fq8 (by decide)
            unfold f_Graph_strip_48
            have := li_1
            have := i_add (a := x3_2) (b := 1) (by omega) (by omega)
            exact lInl ⟨rfl, rfl, Wq8, F14, by (try dsimp only); omega, by (try dsimp only); omega⟩ (by (try dsimp only); omega)
          · have hq9 := i_ne hq9
            obtain ⟨v10, ev10, tv10⟩ := gf_1_3 WLc_2 t_a0
            refine wb ev10 ?_
            obtain ⟨v11, ev11, lv11, uv11⟩ := ga_18 WLc_2 tv10 (i := x3_2) (by omega) (by omega)
            refine wb ev11 ?_
            refine wi (fun hq15 => ?_) (fun hq15 => ?_)
            · have hq15 := i_eq hq15
              unfold f_Graph_strip_40
              obtain ⟨w9, ew9⟩ := go_1 WLc_2 t_a0
              refine wb ew9 ?_
              obtain ⟨q8, eq8, Wq8, fq8⟩ := p_Graph_removeArc hn WLc_2 (a1 := x3_2) t_a0 (by omega) (by omega)
              refine wb eq8 ?_
              have e16 := (Zfr.gr fq8 t_a0 (by decide)).trans ev2
              have e17 := (Zfr.ai fq8 tv5 (by decide)).trans ev6
              have e18 := (Zfr.ai fq8 tv10 (by decide)).trans ev11
              have va19 := (gaf_fr fq8 t_a0 (gf_1_0 WLc_2 t_a0) (by decide) (by decide)).trans va5
              have va20 := (gaf_fr fq8 t_a0 (gf_1_1 WLc_2 t_a0) (by decide) (by decide)).trans va6
              have F21 := Zfr.tr FLc_2 fq8 (by decide)
              unfold f_Graph_strip_48
              have := li_1
              have := i_add (a := x3_2) (b := 1) (by omega) (by omega)
              exact lInl ⟨rfl, rfl, Wq8, F21, by (try dsimp only); omega, by (try dsimp only); omega⟩ (by (try dsimp only); omega)
            · have hq15 := i_ne hq15
              unfold f_Graph_strip_48
              have := li_1
              have := i_add (a := x3_2) (b := 1) (by omega) (by omega)
              exact lInl ⟨rfl, rfl, WLc_2, FLc_2, by (try dsimp only); omega, by (try dsimp only); omega⟩ (by (try dsimp only); omega)
    · exact ⟨rfl, rfl, W, Zfr.rf, by (try dsimp only); omega, by (try dsimp only); omega⟩
    · (try dsimp only); omega
  obtain ⟨b, eb, hb⟩ := L1
  refine wb eb ?_
  clear eb
  obtain ⟨z0_22, z1_22, z2_22, c_22⟩ := b
  try dsimp only at hb ⊢
  obtain ⟨rfl, rfl, WXc_22, FXc_22⟩ := hb
  have va23 := (gaf_fr FXc_22 t_a0 (gf_1_0 W t_a0) (by decide) (by decide)).trans vaGM
  have va24 := (gaf_fr FXc_22 t_a0 (gf_1_1 W t_a0) (by decide) (by decide)).trans vaGC
  have F25 := Zfr.tr F0 FXc_22 (by decide)
  obtain ⟨v13, ev13, tv13⟩ := gf_1_0 WXc_22 t_a0
  refine wb ev13 ?_
  obtain ⟨c14, ec14, Wc14, fc14, gc14⟩ := pa_15 WXc_22 tv13 (i := a1) (by omega) (by omega) (x := 0) (rgi (by omega) (by omega))
  refine wb ec14 ?_
  have e26 := (Zfr.gr fc14 t_a0 (by decide)).trans ev13
  have va27 := (((gaf_w ev13 ec14).1).trans (congrArg (fun f_ => upd f_ a1.toInt.toNat 0) va23))
  have va28 := (gaf_fr fc14 t_a0 (gf_1_1 WXc_22 t_a0) (by decide) (by decide)).trans va24
  have F29 := Zfr.tr F25 fc14 (by decide)
  unfold f_Graph_strip_63
  have L30 : ∃ b, zlp (fun a : Nat × Int32 × Int32 × Int32 × Zc => g_Graph_strip_63 nf a.1 a.2.1 a.2.2.1 a.2.2.2.1 a.2.2.2.2) nf (a0, a1, z2_22, 0, c14) = some b ∧ (fun b : (Nat × Int32 × Zc) => a0 = b.1 ∧ z2_22 = b.2.1 ∧ Zwt zty G b.2.2 ∧ Zfr G ([(16, 0)] : List (Nat × Nat)) c14 b.2.2 ∧ Zcg G b.2.2 a0 (gaf c a0 1) (4 * a1.toInt) 4) b := by
    refine wlp (fun a : Nat × Int32 × Int32 × Int32 × Zc => a0 = a.1 ∧ a1 = a.2.1 ∧ z2_22 = a.2.2.1 ∧ Zwt zty G a.2.2.2.2 ∧ Zfr G ([(16, 0)] : List (Nat × Nat)) c14 a.2.2.2.2 ∧ 0 ≤ a.2.2.2.1.toInt ∧ a.2.2.2.1.toInt ≤ 4 ∧ Zcg G a.2.2.2.2 a0 (gaf c a0 1) (4 * a1.toInt) a.2.2.2.1) (fun a => (4 - a.2.2.2.1.toInt).toNat) (fun b : (Nat × Int32 × Zc) => a0 = b.1 ∧ z2_22 = b.2.1 ∧ Zwt zty G b.2.2 ∧ Zfr G ([(16, 0)] : List (Nat × Nat)) c14 b.2.2 ∧ Zcg G b.2.2 a0 (gaf c a0 1) (4 * a1.toInt) 4) ?_ ?_ ?_
    · rintro ⟨x0_31, x1_31, x2_31, x3_31, c_31⟩ hI
      try dsimp only at hI ⊢
      obtain ⟨rfl, rfl, rfl, WLc_31, FLc_31, j32, j33, hBZcg_31⟩ := hI
      have e34 := (Zfr.gr FLc_31 t_a0 (by decide)).trans e26
      have e35 := (Zfr.ai FLc_31 tv13 (by decide)).trans gc14
      have va36 := (gaf_fr FLc_31 t_a0 (gf_1_0 Wc14 t_a0) (by decide) (by decide)).trans va27
      have k0Zcg_31 := hBZcg_31
      unfold g_Graph_strip_63
      refine wi (fun hq38 => ?_) (fun hq38 => ?_)
      · have := li_4
        have hq38 := i_le hq38
        exact lInr ⟨rfl, rfl, WLc_31, FLc_31, CZ_g k0Zcg_31 (by omega)⟩
      · have := li_4
        have hq38 := i_nle hq38
        obtain ⟨v16, ev16, tv16⟩ := gf_1_1 WLc_31 t_a0
        refine wb ev16 ?_
        have := i_mulr (a := a1) (b := 4) (n := 4) li_4 (by omega) (by omega)
        have := i_add (a := (a1 * 4)) (b := x3_31) (by omega) (by omega)
        obtain ⟨c17, ec17, Wc17, fc17, gc17⟩ := pa_16 WLc_31 tv16 (i := ((a1 * 4) + x3_31)) (by omega) (by omega) (x := 0) (rgi (by omega) (by omega))
        refine wb ec17 ?_
        have e39 := (Zfr.gr fc17 t_a0 (by decide)).trans e34
        have e40 := (Zfr.ai fc17 tv13 (by decide)).trans e35
        have e41 := (Zfr.gr fc17 t_a0 (by decide)).trans ev16
        have va42 := (gaf_fr fc17 t_a0 (gf_1_0 WLc_31 t_a0) (by decide) (by decide)).trans va36
        have := li_1
        have := i_add (a := x3_31) (b := 1) (by omega) (by omega)
        have cz43 := CZg_w (k' := (x3_31 + 1)) k0Zcg_31 ev16 ec17 (by omega) (by omega) (by omega) (by omega)
        have F44 := Zfr.tr FLc_31 fc17 (by decide)
        exact lInl ⟨rfl, rfl, rfl, Wc17, F44, by (try dsimp only); omega, by (try dsimp only); omega, cz43⟩ (by (try dsimp only); omega)
    · exact ⟨rfl, rfl, rfl, Wc14, Zfr.rf, by (try dsimp only); omega, by (try dsimp only); omega, CzF_0 va28 (by omega)⟩
    · (try dsimp only); omega
  obtain ⟨b, eb, hb⟩ := L30
  refine wb eb ?_
  clear eb
  obtain ⟨z0_45, z1_45, c_45⟩ := b
  try dsimp only at hb ⊢
  obtain ⟨rfl, rfl, WXc_45, FXc_45, hXZcgc_45⟩ := hb
  have e46 := (Zfr.gr FXc_45 t_a0 (by decide)).trans e26
  have e47 := (Zfr.ai FXc_45 tv13 (by decide)).trans gc14
  have va48 := (gaf_fr FXc_45 t_a0 (gf_1_0 Wc14 t_a0) (by decide) (by decide)).trans va27
  have F50 := Zfr.tr F29 FXc_45 (by decide)
  have := li_4
  have k0Zcgxc_45 := hXZcgc_45
  obtain ⟨v18, ev18, _⟩ := gf_1_9 WXc_45 t_a0
  refine wb ev18 ?_
  obtain ⟨c19, ec19, Wc19, fc19, gc19⟩ := pf_1_9 WXc_45 t_a0 (x := (v18 + 1)) (trivial)
  refine wb ec19 ?_
  have e51 := (Zfr.gr fc19 t_a0 (by decide)).trans e46
  have e52 := (Zfr.ai fc19 tv13 (by decide)).trans e47
  have va53 := (gaf_fr fc19 t_a0 (gf_1_0 WXc_45 t_a0) (by decide) (by decide)).trans va48
  have cz54 := CZg_fr k0Zcgxc_45 fc19 t_a0 WXc_45 (by decide)
  have F55 := Zfr.tr F50 fc19 (by decide)
  exact ⟨_, rfl, Wc19, F55, va53, cz54⟩

abbrev M_PQ_bare__g : List (Nat × Nat) := [(1, 8), (1, 9), (15, 0), (16, 0), (19, 0)]
set_option maxRecDepth 100000 in
set_option maxHeartbeats 2000000 in
theorem p_PQ_bare__g {nf : Nat} (hn : 8589934592 ≤ nf) {G : List Nat} {c : Zc} (W : Zwt zty G c) {a0 : Nat} {a1 : Int32} {gp : Nat} {nd : Int32} (t_a0 : G[a0]? = some 14) (pl_nd : 0 ≤ nd.toInt) (pu_nd : nd.toInt ≤ 16) (eh_gp : zgr c a0 11 1 = some gp) (eh_nd : zgi c gp 0 7 = some nd) : ∃ q, f_PQ_bare nf a0 a1 c = some q ∧ Zwt zty G q.2 ∧ Zfr G M_PQ_bare__g c q.2 ∧ ((¬ (0 ≤ a1.toInt ∧ a1.toInt < nd.toInt) ∧ q.1.toInt = -1 ∧ gaf q.2 gp 0 = gaf c gp 0 ∧ gaf q.2 gp 1 = gaf c gp 1) ∨ ((0 ≤ a1.toInt ∧ a1.toInt < nd.toInt) ∧ gaf q.2 gp 0 = upd (gaf c gp 0) a1.toInt.toNat 0 ∧ CZg q.2 gp (gaf c gp 1) (4 * a1.toInt) 4)) := by
  have F0 : Zfr G M_PQ_bare__g c c := Zfr.rf
  unfold f_PQ_bare
  obtain ⟨xq, xe, tqw_1⟩ := gf_14_1 W t_a0
  rw [eh_gp] at xe; cases xe
  have vaGM : gaf c gp 0 = gaf c gp 0 := rfl
  have vaGC : gaf c gp 1 = gaf c gp 1 := rfl
  refine wb eh_gp ?_
  obtain ⟨w3, ew3⟩ := go_1 W tqw_1
  refine wb ew3 ?_
  obtain ⟨q2, eq2, Wq2, fq2, po0q2, po1q2, pl2q2, pu2q2⟩ := p_Graph_isNode__g hn W (a1 := a1) tqw_1 (by omega) (by omega) eh_nd
  refine wb eq2 ?_
  have e3 := (Zfr.gr fq2 t_a0 (by decide)).trans eh_gp
  have e4 := (Zfr.gi fq2 tqw_1 (by decide)).trans eh_nd
  have va5 := (gaf_fr fq2 tqw_1 (gf_1_0 W tqw_1) (by decide) (by decide)).trans vaGM
  have va6 := (gaf_fr fq2 tqw_1 (gf_1_1 W tqw_1) (by decide) (by decide)).trans vaGC
  have F7 := Zfr.tr F0 fq2 (by decide)
  refine wi (fun hq8 => ?_) (fun hq8 => ?_)
  · have := li_0
    have hq8 := i_eq hq8
    have := li_m1
    exact ⟨_, rfl, Wq2, F7, .inl ⟨by omega, by omega, va5, va6⟩⟩
  · have := li_0
    have hq8 := i_ne hq8
    refine wb e3 ?_
    obtain ⟨w7, ew7⟩ := go_1 Wq2 tqw_1
    refine wb ew7 ?_
    have vaJ := va6
    obtain ⟨q6, eq6, Wq6, fq6, po0q6, po1q6⟩ := p_Graph_strip__g hn Wq2 (a1 := a1) tqw_1 (by omega) (by omega)
    refine wb eq6 ?_
    have e9 := (Zfr.gr fq6 t_a0 (by decide)).trans e3
    have e10 := (Zfr.gi fq6 tqw_1 (by decide)).trans e4
    have va11 := po0q6.trans (congrArg (fun f_ => (upd f_ a1.toInt.toNat 0)) va5)
    have F13 := Zfr.tr F7 fq6 (by decide)
    exact ⟨_, rfl, Wq6, F13, .inr ⟨⟨by omega, by omega⟩, va11, (by rw [← vaJ]; exact po1q6)⟩⟩

abbrev M_Mo_bare__g : List (Nat × Nat) := [(64, 8), (64, 10), (65, 0), (66, 0), (67, 0), (131, 0)]
set_option maxRecDepth 100000 in
set_option maxHeartbeats 2000000 in
theorem p_Mo_bare__g {nf : Nat} (hn : 8589934592 ≤ nf) {G : List Nat} {c : Zc} (W : Zwt zty G c) {a0 : Nat} {a1 : Int32} {nd : Int32} (t_a0 : G[a0]? = some 64) (pl_nd : 0 ≤ nd.toInt) (pu_nd : nd.toInt ≤ 16) (eh_nd : zgi c a0 12 0 = some nd) (hb_Zac : Zac G c a0) : ∃ q, f_Mo_bare nf a0 a1 c = some q ∧ Zwt zty G q.2 ∧ Zfr G M_Mo_bare__g c q.2 ∧ ((¬ (0 ≤ a1.toInt ∧ a1.toInt < nd.toInt) ∧ q.1.toInt = -1 ∧ vaf q.2 a0 1 = vaf c a0 1 ∧ vaf q.2 a0 2 = vaf c a0 2) ∨ ((0 ≤ a1.toInt ∧ a1.toInt < nd.toInt) ∧ vaf q.2 a0 1 = upd (vaf c a0 1) a1.toInt.toNat 0 ∧ CZm q.2 a0 (vaf c a0 2) (4 * a1.toInt) 4)) ∧ Zac G q.2 a0 := by
  have F0 : Zfr G M_Mo_bare__g c c := Zfr.rf
  unfold f_Mo_bare
  obtain ⟨bna0, h0Zac0, r0Zac0, r1Zac0, k0Zac0⟩ := hb_Zac
  have vaMM : vaf c a0 1 = vaf c a0 1 := rfl
  have vaMC : vaf c a0 2 = vaf c a0 2 := rfl
  refine wb eh_nd ?_
  obtain ⟨q2, eq2, Wq2, fq2, po0q2, po1q2, pl2q2, pu2q2⟩ := p_Mo_isIn hn W (a0 := a1) (a1 := nd) 
  refine wb eq2 ?_
  have e1 := (Zfr.gi fq2 t_a0 (by decide)).trans eh_nd
  have e2 := (Zfr.gi fq2 t_a0 (by decide)).trans h0Zac0
  have k3 := AcN_fr k0Zac0 fq2 t_a0 W (by decide)
  have va4 := (vaf_fr fq2 t_a0 (gf_64_1 W t_a0) (by decide) (by decide)).trans vaMM
  have va5 := (vaf_fr fq2 t_a0 (gf_64_2 W t_a0) (by decide) (by decide)).trans vaMC
  have F6 := Zfr.tr F0 fq2 (by decide)
  refine wi (fun hq7 => ?_) (fun hq7 => ?_)
  · have := li_0
    have hq7 := i_eq hq7
    have := li_m1
    exact ⟨_, rfl, Wq2, F6, .inl ⟨by omega, by omega, va4, va5⟩, ⟨bna0, e2, by (try dsimp only); omega, by (try dsimp only); omega, k3⟩⟩
  · have := li_0
    have hq7 := i_ne hq7
    unfold f_Mo_bare_17
    have L9 : ∃ b, zlp (fun a : Nat × Int32 × Int32 × Int32 × Zc => g_Mo_bare_17 nf a.1 a.2.1 a.2.2.1 a.2.2.2.1 a.2.2.2.2) nf (a0, a1, 0, 0, q2.2) = some b ∧ (fun b : (Nat × Int32 × Int32 × Zc) => a0 = b.1 ∧ a1 = b.2.1 ∧ Zwt zty G b.2.2.2 ∧ Zfr G ([(64, 8), (67, 0)] : List (Nat × Nat)) q2.2 b.2.2.2 ∧ 0 ≤ b.2.2.1.toInt ∧ b.2.2.1.toInt ≤ 100 ∧ Zac G b.2.2.2 a0) b := by
      refine wlp (fun a : Nat × Int32 × Int32 × Int32 × Zc => a0 = a.1 ∧ a1 = a.2.1 ∧ Zwt zty G a.2.2.2.2 ∧ Zfr G ([(64, 8), (67, 0)] : List (Nat × Nat)) q2.2 a.2.2.2.2 ∧ 0 ≤ a.2.2.1.toInt ∧ a.2.2.1.toInt ≤ 100 ∧ 0 ≤ a.2.2.2.1.toInt ∧ a.2.2.2.1.toInt ≤ 100 ∧ a.2.2.1.toInt ≤ a.2.2.2.1.toInt ∧ Zac G a.2.2.2.2 a0) (fun a => (100 - a.2.2.2.1.toInt).toNat) (fun b : (Nat × Int32 × Int32 × Zc) => a0 = b.1 ∧ a1 = b.2.1 ∧ Zwt zty G b.2.2.2 ∧ Zfr G ([(64, 8), (67, 0)] : List (Nat × Nat)) q2.2 b.2.2.2 ∧ 0 ≤ b.2.2.1.toInt ∧ b.2.2.1.toInt ≤ 100 ∧ Zac G b.2.2.2 a0) ?_ ?_ ?_
      · rintro ⟨x0_10, x1_10, x2_10, x3_10, c_10⟩ hI
        try dsimp only at hI ⊢
        obtain ⟨rfl, rfl, WLc_10, FLc_10, j11, j12, j13, j14, j15, hBZac_10⟩ := hI
        have e16 := (Zfr.gi FLc_10 t_a0 (by decide)).trans e1
        have va17 := (vaf_fr FLc_10 t_a0 (gf_64_1 Wq2 t_a0) (by decide) (by decide)).trans va4
        have va18 := (vaf_fr FLc_10 t_a0 (gf_64_2 Wq2 t_a0) (by decide) (by decide)).trans va5
        obtain ⟨bna_10, h0Zac_10, r0Zac_10, r1Zac_10, k0Zac_10⟩ := hBZac_10
        unfold g_Mo_bare_17
        refine wi (fun hq19 => ?_) (fun hq19 => ?_)
        · have := li_100
          have hq19 := i_le hq19
          exact lInr ⟨rfl, rfl, WLc_10, FLc_10, by (try dsimp only); omega, by (try dsimp only); omega, ⟨bna_10, h0Zac_10, by (try dsimp only); omega, by (try dsimp only); omega, k0Zac_10⟩⟩
        · have := li_100
          have hq19 := i_nle hq19
          obtain ⟨v5, ev5, tv5⟩ := gf_64_3 WLc_10 t_a0
          refine wb ev5 ?_
          obtain ⟨v6, ev6, lv6, uv6⟩ := ga_67 WLc_10 tv5 (i := x3_10) (by omega) (by omega)
          refine wb ev6 ?_
          refine wi (fun hq21 => ?_) (fun hq21 => ?_)
          · have hq21 := i_eq hq21
            unfold f_Mo_bare_72
            have := li_1
            have := i_add (a := x3_10) (b := 1) (by omega) (by omega)
            exact lInl ⟨rfl, rfl, WLc_10, FLc_10, by (try dsimp only); omega, by (try dsimp only); omega, by (try dsimp only); omega, by (try dsimp only); omega, by (try dsimp only); omega, ⟨bna_10, h0Zac_10, by (try dsimp only); omega, by (try dsimp only); omega, k0Zac_10⟩⟩ (by (try dsimp only); omega)
          · have hq21 := i_ne hq21
            obtain ⟨v8, ev8, tv8⟩ := gf_64_4 WLc_10 t_a0
            refine wb ev8 ?_
            obtain ⟨v9, ev9, lv9, uv9⟩ := ga_68 WLc_10 tv8 (i := x3_10) (by omega) (by omega)
            refine wb ev9 ?_
            refine wi (fun hq23 => ?_) (fun hq23 => ?_)
            · have hq23 := i_eq hq23
              unfold f_Mo_bare_52
              refine wb ev5 ?_
              have := nb_0
              obtain ⟨c12, ec12, Wc12, fc12, gc12⟩ := pa_67 WLc_10 tv5 (i := x3_10) (by omega) (by omega) (x := (vp_nar .boolean 0)) (rgi (by omega) (by omega))
              refine wb ec12 ?_
              have e24 := (Zfr.gi fc12 t_a0 (by decide)).trans e16
              have e25 := (Zfr.gi fc12 t_a0 (by decide)).trans h0Zac_10
              have e26 := (Zfr.gr fc12 t_a0 (by decide)).trans ev5
              have e27 := (Zfr.ai fc12 tv8 (by decide)).trans ev9
              have va28 := (vaf_fr fc12 t_a0 (gf_64_1 WLc_10 t_a0) (by decide) (by decide)).trans va17
              have va29 := (vaf_fr fc12 t_a0 (gf_64_2 WLc_10 t_a0) (by decide) (by decide)).trans va18
              have := AcN_ps k0Zac_10 ev5 ev6 (by omega) (by omega)
              have := li_1
              have := i_sub (a := bna_10) (b := 1) (by omega) (by omega)
              have k30 := AcN_dn (n' := (bna_10 - 1)) k0Zac_10 ev5 ev6 ec12 (by omega) (by omega) (by omega) (by omega)
              have F31 := Zfr.tr FLc_10 fc12 (by decide)
              refine wb e25 ?_
              obtain ⟨c14, ec14, Wc14, fc14, gc14⟩ := pf_64_8 Wc12 t_a0 (x := (bna_10 - 1)) (rgi (by omega) (by omega))
              refine wb ec14 ?_
              have e32 := (Zfr.gi fc14 t_a0 (by decide)).trans e24
              have e33 := (Zfr.gr fc14 t_a0 (by decide)).trans e26
              have e34 := (Zfr.ai fc14 tv8 (by decide)).trans e27
              have e35 := (Zfr.ai fc14 tv5 (by decide)).trans gc12
              have va36 := (vaf_fr fc14 t_a0 (gf_64_1 Wc12 t_a0) (by decide) (by decide)).trans va28
              have va37 := (vaf_fr fc14 t_a0 (gf_64_2 Wc12 t_a0) (by decide) (by decide)).trans va29
              have k38 := AcN_fr k30 fc14 t_a0 Wc12 (by decide)
              have F39 := Zfr.tr F31 fc14 (by decide)
              unfold f_Mo_bare_72
              have := i_add (a := x2_10) (b := 1) (by omega) (by omega)
              have := i_add (a := x3_10) (b := 1) (by omega) (by omega)
              exact lInl ⟨rfl, rfl, Wc14, F39, by (try dsimp only); omega, by (try dsimp only); omega, by (try dsimp only); omega, by (try dsimp only); omega, by (try dsimp only); omega, ⟨(bna_10 - 1), gc14, by (try dsimp only); omega, by (try dsimp only); omega, k38⟩⟩ (by (try dsimp only); omega)
            · have hq23 := i_ne hq23
              obtain ⟨v15, ev15, tv15⟩ := gf_64_5 WLc_10 t_a0
              refine wb ev15 ?_
              obtain ⟨v16, ev16, lv16, uv16⟩ := ga_69 WLc_10 tv15 (i := x3_10) (by omega) (by omega)
              refine wb ev16 ?_
              refine wi (fun hq41 => ?_) (fun hq41 => ?_)
              · have hq41 := i_eq hq41
                unfold f_Mo_bare_52
                refine wb ev5 ?_
                have := nb_0
                obtain ⟨c12, ec12, Wc12, fc12, gc12⟩ := pa_67 WLc_10 tv5 (i := x3_10) (by omega) (by omega) (x := (vp_nar .boolean 0)) (rgi (by omega) (by omega))
                refine wb ec12 ?_
                have e42 := (Zfr.gi fc12 t_a0 (by decide)).trans e16
                have e43 := (Zfr.gi fc12 t_a0 (by decide)).trans h0Zac_10
                have e44 := (Zfr.gr fc12 t_a0 (by decide)).trans ev5
                have e45 := (Zfr.ai fc12 tv8 (by decide)).trans ev9
                have e46 := (Zfr.ai fc12 tv15 (by decide)).trans ev16
                have va47 := (vaf_fr fc12 t_a0 (gf_64_1 WLc_10 t_a0) (by decide) (by decide)).trans va17
                have va48 := (vaf_fr fc12 t_a0 (gf_64_2 WLc_10 t_a0) (by decide) (by decide)).trans va18
                have := AcN_ps k0Zac_10 ev5 ev6 (by omega) (by omega)
                have := li_1
                have := i_sub (a := bna_10) (b := 1) (by omega) (by omega)
                have k49 := AcN_dn (n' := (bna_10 - 1)) k0Zac_10 ev5 ev6 ec12 (by omega) (by omega) (by omega) (by omega)
                have F50 := Zfr.tr FLc_10 fc12 (by decide)
                refine wb e43 ?_
                obtain ⟨c14, ec14, Wc14, fc14, gc14⟩ := pf_64_8 Wc12 t_a0 (x := (bna_10 - 1)) (rgi (by omega) (by omega))
                refine wb ec14 ?_
                have e51 := (Zfr.gi fc14 t_a0 (by decide)).trans e42
                have e52 := (Zfr.gr fc14 t_a0 (by decide)).trans e44
                have e53 := (Zfr.ai fc14 tv8 (by decide)).trans e45
                have e54 := (Zfr.ai fc14 tv15 (by decide)).trans e46
                have e55 := (Zfr.ai fc14 tv5 (by decide)).trans gc12
                have va56 := (vaf_fr fc14 t_a0 (gf_64_1 Wc12 t_a0) (by decide) (by decide)).trans va47
                have va57 := (vaf_fr fc14 t_a0 (gf_64_2 Wc12 t_a0) (by decide) (by decide)).trans va48
                have k58 := AcN_fr k49 fc14 t_a0 Wc12 (by decide)
                have F59 := Zfr.tr F50 fc14 (by decide)
                unfold f_Mo_bare_72
                have := i_add (a := x2_10) (b := 1) (by omega) (by omega)
                have := i_add (a := x3_10) (b := 1) (by omega) (by omega)
                exact lInl ⟨rfl, rfl, Wc14, F59, by (try dsimp only); omega, by (try dsimp only); omega, by (try dsimp only); omega, by (try dsimp only); omega, by (try dsimp only); omega, ⟨(bna_10 - 1), gc14, by (try dsimp only); omega, by (try dsimp only); omega, k58⟩⟩ (by (try dsimp only); omega)
              · have hq41 := i_ne hq41
                unfold f_Mo_bare_72
                have := li_1
                have := i_add (a := x3_10) (b := 1) (by omega) (by omega)
                exact lInl ⟨rfl, rfl, WLc_10, FLc_10, by (try dsimp only); omega, by (try dsimp only); omega, by (try dsimp only); omega, by (try dsimp only); omega, by (try dsimp only); omega, ⟨bna_10, h0Zac_10, by (try dsimp only); omega, by (try dsimp only); omega, k0Zac_10⟩⟩ (by (try dsimp only); omega)
      · exact ⟨rfl, rfl, Wq2, Zfr.rf, by (try dsimp only); omega, by (try dsimp only); omega, by (try dsimp only); omega, by (try dsimp only); omega, by (try dsimp only); omega, ⟨bna0, e2, by (try dsimp only); omega, by (try dsimp only); omega, k3⟩⟩
      · (try dsimp only); omega
    obtain ⟨b, eb, hb⟩ := L9
    refine wb eb ?_
    clear eb
    obtain ⟨z0_63, z1_63, z2_63, c_63⟩ := b
    try dsimp only at hb ⊢
    obtain ⟨rfl, rfl, WXc_63, FXc_63, j64, j65, hXZacc_63⟩ := hb
    have e66 := (Zfr.gi FXc_63 t_a0 (by decide)).trans e1
    have va68 := (vaf_fr FXc_63 t_a0 (gf_64_1 Wq2 t_a0) (by decide) (by decide)).trans va4
    have va69 := (vaf_fr FXc_63 t_a0 (gf_64_2 Wq2 t_a0) (by decide) (by decide)).trans va5
    have F70 := Zfr.tr F6 FXc_63 (by decide)
    obtain ⟨bnaxc_63, h0Zacxc_63, r0Zacxc_63, r1Zacxc_63, k0Zacxc_63⟩ := hXZacc_63
    obtain ⟨v18, ev18, tv18⟩ := gf_64_1 WXc_63 t_a0
    refine wb ev18 ?_
    obtain ⟨c19, ec19, Wc19, fc19, gc19⟩ := pa_65 WXc_63 tv18 (i := a1) (by omega) (by omega) (x := 0) (rgi (by omega) (by omega))
    refine wb ec19 ?_
    have e71 := (Zfr.gi fc19 t_a0 (by decide)).trans e66
    have e72 := (Zfr.gi fc19 t_a0 (by decide)).trans h0Zacxc_63
    have e73 := (Zfr.gr fc19 t_a0 (by decide)).trans ev18
    have va74 := (((vaf_w ev18 ec19).1).trans (congrArg (fun f_ => upd f_ a1.toInt.toNat 0) va68))
    have va75 := (vaf_fr fc19 t_a0 (gf_64_2 WXc_63 t_a0) (by decide) (by decide)).trans va69
    have k76 := AcN_fr k0Zacxc_63 fc19 t_a0 WXc_63 (by decide)
    have F77 := Zfr.tr F70 fc19 (by decide)
    unfold f_Mo_bare_87
    have L78 : ∃ b, zlp (fun a : Nat × Int32 × Int32 × Int32 × Zc => g_Mo_bare_87 nf a.1 a.2.1 a.2.2.1 a.2.2.2.1 a.2.2.2.2) nf (a0, a1, z2_63, 0, c19) = some b ∧ (fun b : (Nat × Int32 × Zc) => a0 = b.1 ∧ z2_63 = b.2.1 ∧ Zwt zty G b.2.2 ∧ Zfr G ([(66, 0)] : List (Nat × Nat)) c19 b.2.2 ∧ Zcm G b.2.2 a0 (vaf c a0 2) (4 * a1.toInt) 4) b := by
      refine wlp (fun a : Nat × Int32 × Int32 × Int32 × Zc => a0 = a.1 ∧ a1 = a.2.1 ∧ z2_63 = a.2.2.1 ∧ Zwt zty G a.2.2.2.2 ∧ Zfr G ([(66, 0)] : List (Nat × Nat)) c19 a.2.2.2.2 ∧ 0 ≤ a.2.2.2.1.toInt ∧ a.2.2.2.1.toInt ≤ 4 ∧ Zcm G a.2.2.2.2 a0 (vaf c a0 2) (4 * a1.toInt) a.2.2.2.1) (fun a => (4 - a.2.2.2.1.toInt).toNat) (fun b : (Nat × Int32 × Zc) => a0 = b.1 ∧ z2_63 = b.2.1 ∧ Zwt zty G b.2.2 ∧ Zfr G ([(66, 0)] : List (Nat × Nat)) c19 b.2.2 ∧ Zcm G b.2.2 a0 (vaf c a0 2) (4 * a1.toInt) 4) ?_ ?_ ?_
      · rintro ⟨x0_79, x1_79, x2_79, x3_79, c_79⟩ hI
        try dsimp only at hI ⊢
        obtain ⟨rfl, rfl, rfl, WLc_79, FLc_79, j80, j81, hBZcm_79⟩ := hI
        have e82 := (Zfr.gi FLc_79 t_a0 (by decide)).trans e71
        have e83 := (Zfr.gi FLc_79 t_a0 (by decide)).trans e72
        have e84 := (Zfr.gr FLc_79 t_a0 (by decide)).trans e73
        have e85 := (Zfr.ai FLc_79 tv18 (by decide)).trans gc19
        have va86 := (vaf_fr FLc_79 t_a0 (gf_64_1 Wc19 t_a0) (by decide) (by decide)).trans va74
        have k88 := AcN_fr k76 FLc_79 t_a0 Wc19 (by decide)
        have k0Zcm_79 := hBZcm_79
        unfold g_Mo_bare_87
        refine wi (fun hq89 => ?_) (fun hq89 => ?_)
        · have := li_4
          have hq89 := i_le hq89
          exact lInr ⟨rfl, rfl, WLc_79, FLc_79, CZ_m k0Zcm_79 (by omega)⟩
        · have := li_4
          have hq89 := i_nle hq89
          obtain ⟨v21, ev21, tv21⟩ := gf_64_2 WLc_79 t_a0
          refine wb ev21 ?_
          have := i_mull (a := 4) (b := a1) (n := 4) li_4 (by omega) (by omega)
          have := i_add (a := (4 * a1)) (b := x3_79) (by omega) (by omega)
          obtain ⟨c22, ec22, Wc22, fc22, gc22⟩ := pa_66 WLc_79 tv21 (i := ((4 * a1) + x3_79)) (by omega) (by omega) (x := 0) (rgi (by omega) (by omega))
          refine wb ec22 ?_
          have e90 := (Zfr.gi fc22 t_a0 (by decide)).trans e82
          have e91 := (Zfr.gi fc22 t_a0 (by decide)).trans e83
          have e92 := (Zfr.gr fc22 t_a0 (by decide)).trans e84
          have e93 := (Zfr.ai fc22 tv18 (by decide)).trans e85
          have e94 := (Zfr.gr fc22 t_a0 (by decide)).trans ev21
          have va95 := (vaf_fr fc22 t_a0 (gf_64_1 WLc_79 t_a0) (by decide) (by decide)).trans va86
          have k96 := AcN_fr k88 fc22 t_a0 WLc_79 (by decide)
          have := li_1
          have := i_add (a := x3_79) (b := 1) (by omega) (by omega)
          have cz97 := CZm_w (k' := (x3_79 + 1)) k0Zcm_79 ev21 ec22 (by omega) (by omega) (by omega) (by omega)
          have F98 := Zfr.tr FLc_79 fc22 (by decide)
          exact lInl ⟨rfl, rfl, rfl, Wc22, F98, by (try dsimp only); omega, by (try dsimp only); omega, cz97⟩ (by (try dsimp only); omega)
      · exact ⟨rfl, rfl, rfl, Wc19, Zfr.rf, by (try dsimp only); omega, by (try dsimp only); omega, CzF_0 va75 (by omega)⟩
      · (try dsimp only); omega
    obtain ⟨b, eb, hb⟩ := L78
    refine wb eb ?_
    clear eb
    obtain ⟨z0_99, z1_99, c_99⟩ := b
    try dsimp only at hb ⊢
    obtain ⟨rfl, rfl, WXc_99, FXc_99, hXZcmc_99⟩ := hb
    have e100 := (Zfr.gi FXc_99 t_a0 (by decide)).trans e71
    have e101 := (Zfr.gi FXc_99 t_a0 (by decide)).trans e72
    have e102 := (Zfr.gr FXc_99 t_a0 (by decide)).trans e73
    have e103 := (Zfr.ai FXc_99 tv18 (by decide)).trans gc19
    have va104 := (vaf_fr FXc_99 t_a0 (gf_64_1 Wc19 t_a0) (by decide) (by decide)).trans va74
    have k106 := AcN_fr k76 FXc_99 t_a0 Wc19 (by decide)
    have F107 := Zfr.tr F77 FXc_99 (by decide)
    have := li_4
    have k0Zcmxc_99 := hXZcmc_99
    obtain ⟨w24, ew24⟩ := go_64 WXc_99 t_a0
    refine wb ew24 ?_
    obtain ⟨q23, eq23, Wq23, fq23⟩ := p_Mo_changed hn WXc_99  t_a0
    refine wb eq23 ?_
    have e108 := (Zfr.gi fq23 t_a0 (by decide)).trans e100
    have e109 := (Zfr.gi fq23 t_a0 (by decide)).trans e101
    have e110 := (Zfr.gr fq23 t_a0 (by decide)).trans e102
    have e111 := (Zfr.ai fq23 tv18 (by decide)).trans e103
    have va112 := (vaf_fr fq23 t_a0 (gf_64_1 WXc_99 t_a0) (by decide) (by decide)).trans va104
    have k113 := AcN_fr k106 fq23 t_a0 WXc_99 (by decide)
    have cz114 := CZm_fr k0Zcmxc_99 fq23 t_a0 WXc_99 (by decide)
    have F115 := Zfr.tr F107 fq23 (by decide)
    exact ⟨_, rfl, Wq23, F115, .inr ⟨⟨by omega, by omega⟩, va112, cz114⟩, ⟨bnaxc_63, e109, by (try dsimp only); omega, by (try dsimp only); omega, k113⟩⟩

end ZzT
