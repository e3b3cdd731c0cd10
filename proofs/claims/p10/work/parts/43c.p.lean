section ZzT
abbrev M_Operators_between : List (Nat × Nat) := [(3, 12), (5, 0), (5, 4), (35, 0), (43, 0), (44, 0), (45, 0)]
set_option maxRecDepth 100000 in
set_option maxHeartbeats 400000 in
theorem p_Operators_between {nf : Nat} (hn : 8589934592 ≤ nf) {G : List Nat} {c : Zc} (W : Zwt zty G c) {a0 : Nat} {a1 : Int32} {a2 : Int32}  (t_a0 : G[a0]? = some 5) (pk_0 : okOp a2) : ∃ q, f_Operators_between nf a0 a1 a2 c = some q ∧ Zwt zty G q ∧ Zfr G M_Operators_between c q := by
  have F0 : Zfr G M_Operators_between c c := Zfr.rf
  unfold f_Operators_between
  have pq_0 : a2.toInt = 0 ∨ (5 ≤ a2.toInt ∧ a2.toInt ≤ 31) := pk_0
  obtain ⟨w2, ew2⟩ := go_5 W t_a0
  refine wb ew2 ?_
  obtain ⟨q1, eq1, Wq1, fq1⟩ := p_Operators_unwind hn W (a1 := a1) t_a0
  refine wb eq1 ?_
  have F1 := Zfr.tr F0 fq1 (by decide)
  obtain ⟨w4, ew4⟩ := go_5 Wq1 t_a0
  refine wb ew4 ?_
  obtain ⟨q3, eq3, Wq3, fq3, pbZotq3⟩ := p_Operators_push hn Wq1 (a1 := a1) (a2 := a2) t_a0 (pk_0)
  refine wb eq3 ?_
  have F2 := Zfr.tr F1 fq3 (by decide)
  obtain ⟨btpq3, h0Zotq3, r0Zotq3, r1Zotq3⟩ := pbZotq3
  refine wi (fun hq3 => ?_) (fun hq3 => ?_)
  · have := li_2
    have := i_ge a1
    have := i_up a1
    have hq3 := i_eq hq3
    unfold f_Operators_between_21
    obtain ⟨v6, ev6, tv6⟩ := gf_5_7 Wq3 t_a0
    refine wb ev6 ?_
    refine wb h0Zotq3 ?_
    obtain ⟨v8, ev8, tv8⟩ := gf_5_3 Wq3 t_a0
    refine wb ev8 ?_
    obtain ⟨w10, ew10⟩ := go_3 Wq3 tv8
    refine wb ew10 ?_
    have := li_0
    have := li_32
    have := i_mulr (a := 0) (b := 32) (n := 32) li_32 (by omega) (by omega)
    have := i_add (a := a2) (b := (0 * 32)) (by omega) (by omega)
    obtain ⟨q9, eq9, Wq9, fq9⟩ := p_Text_emit hn Wq3 (a1 := a2) (a2 := 0) tv8 (okCi (by omega) (by omega) (by omega) (by omega) (by omega) (by omega))
    refine wb eq9 ?_
    have F4 := Zfr.tr F2 fq9 (by decide)
    have := li_1
    have := i_sub (a := btpq3) (b := 1) (by omega) (by omega)
    obtain ⟨c11, ec11, Wc11, fc11, gc11⟩ := pa_45 Wq9 tv6 (i := (btpq3 - 1)) (by omega) (by omega) (x := q9.1) (trivial)
    refine wb ec11 ?_
    have F5 := Zfr.tr F4 fc11 (by decide)
    unfold f_Operators_between_41
    exact ⟨_, rfl, Wc11, F5⟩
  · have := li_2
    have := i_ge a1
    have := i_up a1
    have hq3 := i_ne hq3
    refine wi (fun hq6 => ?_) (fun hq6 => ?_)
    · have := li_1
      have hq6 := i_eq hq6
      unfold f_Operators_between_21
      obtain ⟨v6, ev6, tv6⟩ := gf_5_7 Wq3 t_a0
      refine wb ev6 ?_
      refine wb h0Zotq3 ?_
      obtain ⟨v8, ev8, tv8⟩ := gf_5_3 Wq3 t_a0
      refine wb ev8 ?_
      obtain ⟨w10, ew10⟩ := go_3 Wq3 tv8
      refine wb ew10 ?_
      have := li_0
      have := li_32
      have := i_mulr (a := 0) (b := 32) (n := 32) li_32 (by omega) (by omega)
      have := i_add (a := a2) (b := (0 * 32)) (by omega) (by omega)
      obtain ⟨q9, eq9, Wq9, fq9⟩ := p_Text_emit hn Wq3 (a1 := a2) (a2 := 0) tv8 (okCi (by omega) (by omega) (by omega) (by omega) (by omega) (by omega))
      refine wb eq9 ?_
      have F7 := Zfr.tr F2 fq9 (by decide)
      have := i_sub (a := btpq3) (b := 1) (by omega) (by omega)
      obtain ⟨c11, ec11, Wc11, fc11, gc11⟩ := pa_45 Wq9 tv6 (i := (btpq3 - 1)) (by omega) (by omega) (x := q9.1) (trivial)
      refine wb ec11 ?_
      have F8 := Zfr.tr F7 fc11 (by decide)
      unfold f_Operators_between_41
      exact ⟨_, rfl, Wc11, F8⟩
    · have := li_1
      have hq6 := i_ne hq6
      unfold f_Operators_between_41
      exact ⟨_, rfl, Wq3, F2⟩

abbrev M_Operators_openPrefix : List (Nat × Nat) := [(5, 0), (5, 4), (43, 0), (44, 0), (45, 0)]
set_option maxRecDepth 100000 in
set_option maxHeartbeats 400000 in
theorem p_Operators_openPrefix {nf : Nat} (hn : 8589934592 ≤ nf) {G : List Nat} {c : Zc} (W : Zwt zty G c) {a0 : Nat} {a1 : Int32} {a2 : Int32}  (t_a0 : G[a0]? = some 5) (pk_0 : okOp a2) : ∃ q, f_Operators_openPrefix nf a0 a1 a2 c = some q ∧ Zwt zty G q ∧ Zfr G M_Operators_openPrefix c q := by
  have F0 : Zfr G M_Operators_openPrefix c c := Zfr.rf
  unfold f_Operators_openPrefix
  have pq_0 : a2.toInt = 0 ∨ (5 ≤ a2.toInt ∧ a2.toInt ≤ 31) := pk_0
  obtain ⟨w2, ew2⟩ := go_5 W t_a0
  refine wb ew2 ?_
  obtain ⟨q1, eq1, Wq1, fq1, pbZotq1⟩ := p_Operators_push hn W (a1 := a1) (a2 := a2) t_a0 (pk_0)
  refine wb eq1 ?_
  have F1 := Zfr.tr F0 fq1 (by decide)
  obtain ⟨btpq1, h0Zotq1, r0Zotq1, r1Zotq1⟩ := pbZotq1
  obtain ⟨v3, ev3, _⟩ := gf_5_0 Wq1 t_a0
  refine wb ev3 ?_
  obtain ⟨c4, ec4, Wc4, fc4, gc4⟩ := pf_5_0 Wq1 t_a0 (x := (v3 + 1)) (trivial)
  refine wb ec4 ?_
  have F2 := Zfr.tr F1 fc4 (by decide)
  exact ⟨_, rfl, Wc4, F2⟩

abbrev M_Operators_openParen : List (Nat × Nat) := [(5, 0), (5, 1), (5, 4), (43, 0), (44, 0), (45, 0)]
set_option maxRecDepth 100000 in
set_option maxHeartbeats 400000 in
theorem p_Operators_openParen {nf : Nat} (hn : 8589934592 ≤ nf) {G : List Nat} {c : Zc} (W : Zwt zty G c) {a0 : Nat}  (t_a0 : G[a0]? = some 5) : ∃ q, f_Operators_openParen nf a0 c = some q ∧ Zwt zty G q ∧ Zfr G M_Operators_openParen c q := by
  have F0 : Zfr G M_Operators_openParen c c := Zfr.rf
  unfold f_Operators_openParen
  obtain ⟨w2, ew2⟩ := go_5 W t_a0
  refine wb ew2 ?_
  have := li_0
  obtain ⟨q1, eq1, Wq1, fq1⟩ := p_Operators_openPrefix hn W (a1 := 0) (a2 := 0) t_a0 (okOi (by omega))
  refine wb eq1 ?_
  have F1 := Zfr.tr F0 fq1 (by decide)
  obtain ⟨v3, ev3, _⟩ := gf_5_1 Wq1 t_a0
  refine wb ev3 ?_
  obtain ⟨c4, ec4, Wc4, fc4, gc4⟩ := pf_5_1 Wq1 t_a0 (x := (v3 + 1)) (trivial)
  refine wb ec4 ?_
  have F2 := Zfr.tr F1 fc4 (by decide)
  exact ⟨_, rfl, Wc4, F2⟩

abbrev M_Operators_openBracket : List (Nat × Nat) := [(5, 0), (5, 2), (5, 4), (43, 0), (44, 0), (45, 0)]
set_option maxRecDepth 100000 in
set_option maxHeartbeats 400000 in
theorem p_Operators_openBracket {nf : Nat} (hn : 8589934592 ≤ nf) {G : List Nat} {c : Zc} (W : Zwt zty G c) {a0 : Nat}  (t_a0 : G[a0]? = some 5) : ∃ q, f_Operators_openBracket nf a0 c = some q ∧ Zwt zty G q ∧ Zfr G M_Operators_openBracket c q := by
  have F0 : Zfr G M_Operators_openBracket c c := Zfr.rf
  unfold f_Operators_openBracket
  obtain ⟨w2, ew2⟩ := go_5 W t_a0
  refine wb ew2 ?_
  have := li_0
  obtain ⟨q1, eq1, Wq1, fq1⟩ := p_Operators_openPrefix hn W (a1 := 0) (a2 := 0) t_a0 (okOi (by omega))
  refine wb eq1 ?_
  have F1 := Zfr.tr F0 fq1 (by decide)
  obtain ⟨v3, ev3, _⟩ := gf_5_2 Wq1 t_a0
  refine wb ev3 ?_
  obtain ⟨c4, ec4, Wc4, fc4, gc4⟩ := pf_5_2 Wq1 t_a0 (x := (v3 + 1)) (trivial)
  refine wb ec4 ?_
  have F2 := Zfr.tr F1 fc4 (by decide)
  exact ⟨_, rfl, Wc4, F2⟩

abbrev M_Operators_popOpen : List (Nat × Nat) := [(5, 0), (5, 4)]
set_option maxRecDepth 100000 in
set_option maxHeartbeats 400000 in
theorem p_Operators_popOpen {nf : Nat} (hn : 8589934592 ≤ nf) {G : List Nat} {c : Zc} (W : Zwt zty G c) {a0 : Nat}  (t_a0 : G[a0]? = some 5) : ∃ q, f_Operators_popOpen nf a0 c = some q ∧ Zwt zty G q ∧ Zfr G M_Operators_popOpen c q := by
  have F0 : Zfr G M_Operators_popOpen c c := Zfr.rf
  unfold f_Operators_popOpen
  obtain ⟨v1, ev1, lv1, uv1⟩ := gf_5_4 W t_a0
  refine wb ev1 ?_
  refine wi (fun hq1 => ?_) (fun hq1 => ?_)
  · have := li_0
    have hq1 := i_le hq1
    unfold f_Operators_popOpen_17
    obtain ⟨v3, ev3, _⟩ := gf_5_0 W t_a0
    refine wb ev3 ?_
    obtain ⟨c4, ec4, Wc4, fc4, gc4⟩ := pf_5_0 W t_a0 (x := (v3 - 1)) (trivial)
    refine wb ec4 ?_
    have F2 := Zfr.tr F0 fc4 (by decide)
    exact ⟨_, rfl, Wc4, F2⟩
  · have := li_0
    have hq1 := i_nle hq1
    refine wb ev1 ?_
    have := li_1
    have := i_sub (a := v1) (b := 1) (by omega) (by omega)
    obtain ⟨c6, ec6, Wc6, fc6, gc6⟩ := pf_5_4 W t_a0 (x := (v1 - 1)) (rgi (by omega) (by omega))
    refine wb ec6 ?_
    have F3 := Zfr.tr F0 fc6 (by decide)
    unfold f_Operators_popOpen_17
    obtain ⟨v3, ev3, _⟩ := gf_5_0 Wc6 t_a0
    refine wb ev3 ?_
    obtain ⟨c4, ec4, Wc4, fc4, gc4⟩ := pf_5_0 Wc6 t_a0 (x := (v3 - 1)) (trivial)
    refine wb ec4 ?_
    have F4 := Zfr.tr F3 fc4 (by decide)
    exact ⟨_, rfl, Wc4, F4⟩

abbrev M_Operators_closeParen : List (Nat × Nat) := [(3, 12), (5, 0), (5, 1), (5, 4), (35, 0)]
set_option maxRecDepth 100000 in
set_option maxHeartbeats 400000 in
theorem p_Operators_closeParen {nf : Nat} (hn : 8589934592 ≤ nf) {G : List Nat} {c : Zc} (W : Zwt zty G c) {a0 : Nat}  (t_a0 : G[a0]? = some 5) : ∃ q, f_Operators_closeParen nf a0 c = some q ∧ Zwt zty G q ∧ Zfr G M_Operators_closeParen c q := by
  have F0 : Zfr G M_Operators_closeParen c c := Zfr.rf
  unfold f_Operators_closeParen
  obtain ⟨w2, ew2⟩ := go_5 W t_a0
  refine wb ew2 ?_
  have := li_5
  obtain ⟨q1, eq1, Wq1, fq1⟩ := p_Operators_unwind hn W (a1 := 5) t_a0
  refine wb eq1 ?_
  have F1 := Zfr.tr F0 fq1 (by decide)
  obtain ⟨v3, ev3, _⟩ := gf_5_1 Wq1 t_a0
  refine wb ev3 ?_
  obtain ⟨c4, ec4, Wc4, fc4, gc4⟩ := pf_5_1 Wq1 t_a0 (x := (v3 - 1)) (trivial)
  refine wb ec4 ?_
  have F2 := Zfr.tr F1 fc4 (by decide)
  obtain ⟨w6, ew6⟩ := go_5 Wc4 t_a0
  refine wb ew6 ?_
  obtain ⟨q5, eq5, Wq5, fq5⟩ := p_Operators_popOpen hn Wc4  t_a0
  refine wb eq5 ?_
  have F3 := Zfr.tr F2 fq5 (by decide)
  obtain ⟨w8, ew8⟩ := go_5 Wq5 t_a0
  refine wb ew8 ?_
  have := li_7
  obtain ⟨q7, eq7, Wq7, fq7⟩ := p_Operators_unwind hn Wq5 (a1 := 7) t_a0
  refine wb eq7 ?_
  have F4 := Zfr.tr F3 fq7 (by decide)
  exact ⟨_, rfl, Wq7, F4⟩

abbrev M_Operators_closeBracket : List (Nat × Nat) := [(3, 12), (5, 0), (5, 2), (5, 4), (35, 0)]
set_option maxRecDepth 100000 in
set_option maxHeartbeats 400000 in
theorem p_Operators_closeBracket {nf : Nat} (hn : 8589934592 ≤ nf) {G : List Nat} {c : Zc} (W : Zwt zty G c) {a0 : Nat}  (t_a0 : G[a0]? = some 5) : ∃ q, f_Operators_closeBracket nf a0 c = some q ∧ Zwt zty G q ∧ Zfr G M_Operators_closeBracket c q := by
  have F0 : Zfr G M_Operators_closeBracket c c := Zfr.rf
  unfold f_Operators_closeBracket
  obtain ⟨w2, ew2⟩ := go_5 W t_a0
  refine wb ew2 ?_
  have := li_1
  obtain ⟨q1, eq1, Wq1, fq1⟩ := p_Operators_unwind hn W (a1 := 1) t_a0
  refine wb eq1 ?_
  have F1 := Zfr.tr F0 fq1 (by decide)
  obtain ⟨v3, ev3, _⟩ := gf_5_2 Wq1 t_a0
  refine wb ev3 ?_
  obtain ⟨c4, ec4, Wc4, fc4, gc4⟩ := pf_5_2 Wq1 t_a0 (x := (v3 - 1)) (trivial)
  refine wb ec4 ?_
  have F2 := Zfr.tr F1 fc4 (by decide)
  obtain ⟨w6, ew6⟩ := go_5 Wc4 t_a0
  refine wb ew6 ?_
  obtain ⟨q5, eq5, Wq5, fq5⟩ := p_Operators_popOpen hn Wc4  t_a0
  refine wb eq5 ?_
  have F3 := Zfr.tr F2 fq5 (by decide)
  obtain ⟨w8, ew8⟩ := go_5 Wq5 t_a0
  refine wb ew8 ?_
  have := li_3
  obtain ⟨q7, eq7, Wq7, fq7⟩ := p_Operators_unwind hn Wq5 (a1 := 3) t_a0
  refine wb eq7 ?_
  have F4 := Zfr.tr F3 fq7 (by decide)
  exact ⟨_, rfl, Wq7, F4⟩

abbrev M_Search_candidates : List (Nat × Nat) := []
set_option maxRecDepth 100000 in
set_option maxHeartbeats 400000 in
theorem p_Search_candidates {nf : Nat} (hn : 8589934592 ≤ nf) {G : List Nat} {c : Zc} (W : Zwt zty G c) {a0 : Nat} {a1 : Int32}  (t_a0 : G[a0]? = some 7) (pl_a1 : 0 ≤ a1.toInt) (pu_a1 : a1.toInt ≤ 7) : ∃ q, f_Search_candidates nf a0 a1 c = some q ∧ Zwt zty G q.2 ∧ Zfr G M_Search_candidates c q.2 ∧ 0 ≤ q.1.toInt ∧ q.1.toInt ≤ 65535 := by
  have F0 : Zfr G M_Search_candidates c c := Zfr.rf
  unfold f_Search_candidates
  obtain ⟨v1, ev1, tv1⟩ := gf_7_2 W t_a0
  refine wb ev1 ?_
  obtain ⟨v2, ev2, lv2, uv2⟩ := ga_48 W tv1 (i := a1) (by omega) (by omega)
  refine wb ev2 ?_
  obtain ⟨v3, ev3, tv3⟩ := gf_7_3 W t_a0
  refine wb ev3 ?_
  obtain ⟨v4, ev4, _⟩ := ga_49 W tv3 (i := a1) (by omega) (by omega)
  refine wb ev4 ?_
  obtain ⟨v5, ev5, tv5⟩ := gf_7_0 W t_a0
  refine wb ev5 ?_
  obtain ⟨v6, ev6, lv6, uv6⟩ := gf_1_7 W tv5
  refine wb ev6 ?_
  obtain ⟨v7, ev7, lv7, uv7⟩ := gf_7_8 W t_a0
  refine wb ev7 ?_
  unfold f_Search_candidates_33
  have := li_1
  have := i_shl16 (b := v6) (by omega) (by omega)
  have := i_sub (a := ((1 : Int32) <<< (v6 &&& 31))) (b := 1) (by omega) (by omega)
  have L1 : ∃ b, zlp (fun a : Nat × Int32 × Int32 × Int32 × Int32 × Zc => g_Search_candidates_33 nf a.1 a.2.1 a.2.2.1 a.2.2.2.1 a.2.2.2.2.1 a.2.2.2.2.2) nf (a0, v2, v4, (((1 : Int32) <<< (v6 &&& 31)) - 1), v7, c) = some b ∧ (fun b : (Nat × Int32 × Int32 × Int32 × Zc) => a0 = b.1 ∧ v2 = b.2.1 ∧ v4 = b.2.2.1 ∧ Zwt zty G b.2.2.2.2 ∧ Zfr G ([] : List (Nat × Nat)) c b.2.2.2.2 ∧ 0 ≤ b.2.2.2.1.toInt ∧ b.2.2.2.1.toInt ≤ 65535) b := by
    refine wlp (fun a : Nat × Int32 × Int32 × Int32 × Int32 × Zc => a0 = a.1 ∧ v2 = a.2.1 ∧ v4 = a.2.2.1 ∧ Zwt zty G a.2.2.2.2.2 ∧ Zfr G ([] : List (Nat × Nat)) c a.2.2.2.2.2 ∧ 0 ≤ a.2.2.2.1.toInt ∧ a.2.2.2.1.toInt ≤ 65535 ∧ 0 ≤ a.2.2.2.2.1.toInt ∧ a.2.2.2.2.1.toInt ≤ 70) (fun a => (70 - a.2.2.2.2.1.toInt).toNat) (fun b : (Nat × Int32 × Int32 × Int32 × Zc) => a0 = b.1 ∧ v2 = b.2.1 ∧ v4 = b.2.2.1 ∧ Zwt zty G b.2.2.2.2 ∧ Zfr G ([] : List (Nat × Nat)) c b.2.2.2.2 ∧ 0 ≤ b.2.2.2.1.toInt ∧ b.2.2.2.1.toInt ≤ 65535) ?_ ?_ ?_
    · rintro ⟨x0_2, x2_2, x3_2, x4_2, x5_2, c_2⟩ hI
      try dsimp only at hI ⊢
      obtain ⟨rfl, rfl, rfl, WLc_2, FLc_2, j3, j4, j5, j6⟩ := hI
      have e7 := (Zfr.ai FLc_2 tv1 (by decide)).trans ev2
      have e8 := (Zfr.ai FLc_2 tv3 (by decide)).trans ev4
      unfold g_Search_candidates_33
      obtain ⟨v8, ev8, lv8, uv8⟩ := gf_7_9 WLc_2 t_a0
      refine wb ev8 ?_
      refine wi (fun hq9 => ?_) (fun hq9 => ?_)
      · have hq9 := i_le hq9
        exact lInr ⟨rfl, rfl, rfl, WLc_2, FLc_2, by (try dsimp only); omega, by (try dsimp only); omega⟩
      · have hq9 := i_nle hq9
        obtain ⟨v10, ev10, tv10⟩ := gf_7_5 WLc_2 t_a0
        refine wb ev10 ?_
        obtain ⟨v11, ev11, tv11⟩ := gf_3_6 WLc_2 tv10
        refine wb ev11 ?_
        obtain ⟨v12, ev12, lv12, uv12⟩ := ga_30 WLc_2 tv11 (i := x5_2) (by omega) (by omega)
        refine wb ev12 ?_
        refine wi (fun hq10 => ?_) (fun hq10 => ?_)
        · have := li_256
          have := i_div (a := v12) (b := 256) (n := 256) li_256 (by decide) (by omega)
          have hq10 := i_eq hq10
          refine wb ev10 ?_
          obtain ⟨v16, ev16, tv16⟩ := gf_3_7 WLc_2 tv10
          refine wb ev16 ?_
          obtain ⟨v17, ev17, _⟩ := ga_31 WLc_2 tv16 (i := x5_2) (by omega) (by omega)
          refine wb ev17 ?_
          unfold f_Search_candidates_75
          have := i_andl (a := x4_2) (b := v17) (by omega)
          have := i_add (a := x5_2) (b := 1) (by omega) (by omega)
          exact lInl ⟨rfl, rfl, rfl, WLc_2, FLc_2, by (try dsimp only); omega, by (try dsimp only); omega, by (try dsimp only); omega, by (try dsimp only); omega⟩ (by (try dsimp only); omega)
        · have := li_256
          have := i_div (a := v12) (b := 256) (n := 256) li_256 (by decide) (by omega)
          have hq10 := i_ne hq10
          unfold f_Search_candidates_75
          have := i_add (a := x5_2) (b := 1) (by omega) (by omega)
          exact lInl ⟨rfl, rfl, rfl, WLc_2, FLc_2, by (try dsimp only); omega, by (try dsimp only); omega, by (try dsimp only); omega, by (try dsimp only); omega⟩ (by (try dsimp only); omega)
    · exact ⟨rfl, rfl, rfl, W, Zfr.rf, by (try dsimp only); omega, by (try dsimp only); omega, by (try dsimp only); omega, by (try dsimp only); omega⟩
    · (try dsimp only); omega
  obtain ⟨b, eb, hb⟩ := L1
  refine wb eb ?_
  clear eb
  obtain ⟨z0_11, z1_11, z2_11, z3_11, c_11⟩ := b
  try dsimp only at hb ⊢
  obtain ⟨rfl, rfl, rfl, WXc_11, FXc_11, j12, j13⟩ := hb
  have e14 := (Zfr.ai FXc_11 tv1 (by decide)).trans ev2
  have e15 := (Zfr.ai FXc_11 tv3 (by decide)).trans ev4
  have F16 := Zfr.tr F0 FXc_11 (by decide)
  obtain ⟨v18, ev18, lv18, uv18⟩ := gf_7_6 WXc_11 t_a0
  refine wb ev18 ?_
  unfold f_Search_candidates_87
  have L17 : ∃ b, zlp (fun a : Nat × Int32 × Int32 × Int32 × Int32 × Zc => g_Search_candidates_87 nf a.1 a.2.1 a.2.2.1 a.2.2.2.1 a.2.2.2.2.1 a.2.2.2.2.2) nf (a0, v2, v4, z3_11, v18, c_11) = some b ∧ (fun b : (Int32 × Zc) => Zwt zty G b.2 ∧ Zfr G ([] : List (Nat × Nat)) c_11 b.2 ∧ 0 ≤ b.1.toInt ∧ b.1.toInt ≤ 65535) b := by
    refine wlp (fun a : Nat × Int32 × Int32 × Int32 × Int32 × Zc => a0 = a.1 ∧ v2 = a.2.1 ∧ v4 = a.2.2.1 ∧ Zwt zty G a.2.2.2.2.2 ∧ Zfr G ([] : List (Nat × Nat)) c_11 a.2.2.2.2.2 ∧ 0 ≤ a.2.2.2.1.toInt ∧ a.2.2.2.1.toInt ≤ 65535 ∧ 0 ≤ a.2.2.2.2.1.toInt ∧ a.2.2.2.2.1.toInt ≤ 10) (fun a => (10 - a.2.2.2.2.1.toInt).toNat) (fun b : (Int32 × Zc) => Zwt zty G b.2 ∧ Zfr G ([] : List (Nat × Nat)) c_11 b.2 ∧ 0 ≤ b.1.toInt ∧ b.1.toInt ≤ 65535) ?_ ?_ ?_
    · rintro ⟨x0_18, x2_18, x3_18, x4_18, x5_18, c_18⟩ hI
      try dsimp only at hI ⊢
      obtain ⟨rfl, rfl, rfl, WLc_18, FLc_18, j19, j20, j21, j22⟩ := hI
      have e23 := (Zfr.ai FLc_18 tv1 (by decide)).trans e14
      have e24 := (Zfr.ai FLc_18 tv3 (by decide)).trans e15
      unfold g_Search_candidates_87
      obtain ⟨v19, ev19, lv19, uv19⟩ := gf_7_7 WLc_18 t_a0
      refine wb ev19 ?_
      refine wi (fun hq25 => ?_) (fun hq25 => ?_)
      · have hq25 := i_le hq25
        exact lInr ⟨WLc_18, FLc_18, by (try dsimp only); omega, by (try dsimp only); omega⟩
      · have hq25 := i_nle hq25
        refine wi (fun hq26 => ?_) (fun hq26 => ?_)
        · have := li_0
          have hq26 := i_eq hq26
          exact lInr ⟨WLc_18, FLc_18, by (try dsimp only); omega, by (try dsimp only); omega⟩
        · have := li_0
          have hq26 := i_ne hq26
          obtain ⟨v22, ev22, tv22⟩ := gf_7_5 WLc_18 t_a0
          refine wb ev22 ?_
          obtain ⟨v23, ev23, tv23⟩ := gf_3_4 WLc_18 tv22
          refine wb ev23 ?_
          obtain ⟨v24, ev24, tv24⟩ := ga_29 WLc_18 tv23 (i := x5_18) (by omega) (by omega)
          refine wb ev24 ?_
          obtain ⟨v25, ev25, lv25, uv25⟩ := gf_2_0 WLc_18 tv24
          refine wb ev25 ?_
          refine wi (fun hq27 => ?_) (fun hq27 => ?_)
          · have hq27 := i_eq hq27
            obtain ⟨v45, ev45, lv45, uv45⟩ := gf_2_1 WLc_18 tv24
            refine wb ev45 ?_
            refine wi (fun hq28 => ?_) (fun hq28 => ?_)
            · have hq28 := i_eq hq28
              obtain ⟨v47, ev47, _⟩ := gf_2_16 WLc_18 tv24
              refine wb ev47 ?_
              unfold f_Search_candidates_231
              have := i_andl (a := x4_18) (b := v47) (by omega)
              have := i_add (a := x5_18) (b := 1) (by omega) (by omega)
              exact lInl ⟨rfl, rfl, rfl, WLc_18, FLc_18, by (try dsimp only); omega, by (try dsimp only); omega, by (try dsimp only); omega, by (try dsimp only); omega⟩ (by (try dsimp only); omega)
            · have hq28 := i_ne hq28
              unfold f_Search_candidates_144
              refine wb ev25 ?_
              refine wi (fun hq29 => ?_) (fun hq29 => ?_)
              · have hq29 := i_eq hq29
                refine wb ev45 ?_
                refine wi (fun hq30 => ?_) (fun hq30 => ?_)
                · have := i_andr (a := (v4 >>> (v45 &&& 31))) (b := 1) (by omega)
                  have hq30 := i_eq hq30
                  unfold f_Search_candidates_189
                  refine wb ev45 ?_
                  refine wi (fun hq31 => ?_) (fun hq31 => ?_)
                  · have hq31 := i_eq hq31
                    refine wb ev25 ?_
                    refine wi (fun hq32 => ?_) (fun hq32 => ?_)
                    · have := i_andr (a := (v4 >>> (v25 &&& 31))) (b := 1) (by omega)
                      have hq32 := i_eq hq32
                      unfold f_Search_candidates_231
                      have := i_add (a := x5_18) (b := 1) (by omega) (by omega)
                      exact lInl ⟨rfl, rfl, rfl, WLc_18, FLc_18, by (try dsimp only); omega, by (try dsimp only); omega, by (try dsimp only); omega, by (try dsimp only); omega⟩ (by (try dsimp only); omega)
                    · have := i_andr (a := (v4 >>> (v25 &&& 31))) (b := 1) (by omega)
                      have hq32 := i_ne hq32
                      obtain ⟨v33, ev33, tv33⟩ := gf_2_14 WLc_18 tv24
                      refine wb ev33 ?_
                      obtain ⟨v34, ev34, tv34⟩ := gf_7_1 WLc_18 t_a0
                      refine wb ev34 ?_
                      refine wb ev25 ?_
                      obtain ⟨v36, ev36, lv36, uv36⟩ := ga_47 WLc_18 tv34 (i := v25) (by omega) (by omega)
                      refine wb ev36 ?_
                      obtain ⟨v37, ev37, _⟩ := ga_27 WLc_18 tv33 (i := v36) (by omega) (by omega)
                      refine wb ev37 ?_
                      unfold f_Search_candidates_231
                      have := i_andl (a := x4_18) (b := v37) (by omega)
                      have := i_add (a := x5_18) (b := 1) (by omega) (by omega)
                      exact lInl ⟨rfl, rfl, rfl, WLc_18, FLc_18, by (try dsimp only); omega, by (try dsimp only); omega, by (try dsimp only); omega, by (try dsimp only); omega⟩ (by (try dsimp only); omega)
                  · have hq31 := i_ne hq31
                    unfold f_Search_candidates_231
                    have := i_add (a := x5_18) (b := 1) (by omega) (by omega)
                    exact lInl ⟨rfl, rfl, rfl, WLc_18, FLc_18, by (try dsimp only); omega, by (try dsimp only); omega, by (try dsimp only); omega, by (try dsimp only); omega⟩ (by (try dsimp only); omega)
                · have := i_andr (a := (v4 >>> (v45 &&& 31))) (b := 1) (by omega)
                  have hq30 := i_ne hq30
                  obtain ⟨v40, ev40, tv40⟩ := gf_2_15 WLc_18 tv24
                  refine wb ev40 ?_
                  obtain ⟨v41, ev41, tv41⟩ := gf_7_1 WLc_18 t_a0
                  refine wb ev41 ?_
                  refine wb ev45 ?_
                  obtain ⟨v43, ev43, lv43, uv43⟩ := ga_47 WLc_18 tv41 (i := v45) (by omega) (by omega)
                  refine wb ev43 ?_
                  obtain ⟨v44, ev44, _⟩ := ga_28 WLc_18 tv40 (i := v43) (by omega) (by omega)
                  refine wb ev44 ?_
                  unfold f_Search_candidates_231
                  have := i_andl (a := x4_18) (b := v44) (by omega)
                  have := i_add (a := x5_18) (b := 1) (by omega) (by omega)
                  exact lInl ⟨rfl, rfl, rfl, WLc_18, FLc_18, by (try dsimp only); omega, by (try dsimp only); omega, by (try dsimp only); omega, by (try dsimp only); omega⟩ (by (try dsimp only); omega)
              · have hq29 := i_ne hq29
                unfold f_Search_candidates_189
                refine wb ev45 ?_
                refine wi (fun hq33 => ?_) (fun hq33 => ?_)
                · have hq33 := i_eq hq33
                  refine wb ev25 ?_
                  refine wi (fun hq34 => ?_) (fun hq34 => ?_)
                  · have := i_andr (a := (v4 >>> (v25 &&& 31))) (b := 1) (by omega)
                    have hq34 := i_eq hq34
                    unfold f_Search_candidates_231
                    have := i_add (a := x5_18) (b := 1) (by omega) (by omega)
                    exact lInl ⟨rfl, rfl, rfl, WLc_18, FLc_18, by (try dsimp only); omega, by (try dsimp only); omega, by (try dsimp only); omega, by (try dsimp only); omega⟩ (by (try dsimp only); omega)
                  · have := i_andr (a := (v4 >>> (v25 &&& 31))) (b := 1) (by omega)
                    have hq34 := i_ne hq34
                    obtain ⟨v33, ev33, tv33⟩ := gf_2_14 WLc_18 tv24
                    refine wb ev33 ?_
                    obtain ⟨v34, ev34, tv34⟩ := gf_7_1 WLc_18 t_a0
                    refine wb ev34 ?_
                    refine wb ev25 ?_
                    obtain ⟨v36, ev36, lv36, uv36⟩ := ga_47 WLc_18 tv34 (i := v25) (by omega) (by omega)
                    refine wb ev36 ?_
                    obtain ⟨v37, ev37, _⟩ := ga_27 WLc_18 tv33 (i := v36) (by omega) (by omega)
                    refine wb ev37 ?_
                    unfold f_Search_candidates_231
                    have := i_andl (a := x4_18) (b := v37) (by omega)
                    have := i_add (a := x5_18) (b := 1) (by omega) (by omega)
                    exact lInl ⟨rfl, rfl, rfl, WLc_18, FLc_18, by (try dsimp only); omega, by (try dsimp only); omega, by (try dsimp only); omega, by (try dsimp only); omega⟩ (by (try dsimp only); omega)
                · have hq33 := i_ne hq33
                  unfold f_Search_candidates_231
                  have := i_add (a := x5_18) (b := 1) (by omega) (by omega)
                  exact lInl ⟨rfl, rfl, rfl, WLc_18, FLc_18, by (try dsimp only); omega, by (try dsimp only); omega, by (try dsimp only); omega, by (try dsimp only); omega⟩ (by (try dsimp only); omega)
          · have hq27 := i_ne hq27
            unfold f_Search_candidates_144
            refine wb ev25 ?_
            refine wi (fun hq35 => ?_) (fun hq35 => ?_)
            · have hq35 := i_eq hq35
              obtain ⟨v38, ev38, lv38, uv38⟩ := gf_2_1 WLc_18 tv24
              refine wb ev38 ?_
              refine wi (fun hq36 => ?_) (fun hq36 => ?_)
              · have := i_andr (a := (v4 >>> (v38 &&& 31))) (b := 1) (by omega)
                have hq36 := i_eq hq36
                unfold f_Search_candidates_189
                refine wb ev38 ?_
                refine wi (fun hq37 => ?_) (fun hq37 => ?_)
                · have hq37 := i_eq hq37
                  refine wb ev25 ?_
                  refine wi (fun hq38 => ?_) (fun hq38 => ?_)
                  · have := i_andr (a := (v4 >>> (v25 &&& 31))) (b := 1) (by omega)
                    have hq38 := i_eq hq38
                    unfold f_Search_candidates_231
                    have := i_add (a := x5_18) (b := 1) (by omega) (by omega)
                    exact lInl ⟨rfl, rfl, rfl, WLc_18, FLc_18, by (try dsimp only); omega, by (try dsimp only); omega, by (try dsimp only); omega, by (try dsimp only); omega⟩ (by (try dsimp only); omega)
                  · have := i_andr (a := (v4 >>> (v25 &&& 31))) (b := 1) (by omega)
                    have hq38 := i_ne hq38
                    obtain ⟨v33, ev33, tv33⟩ := gf_2_14 WLc_18 tv24
                    refine wb ev33 ?_
                    obtain ⟨v34, ev34, tv34⟩ := gf_7_1 WLc_18 t_a0
                    refine wb ev34 ?_
                    refine wb ev25 ?_
                    obtain ⟨v36, ev36, lv36, uv36⟩ := ga_47 WLc_18 tv34 (i := v25) (by omega) (by omega)
                    refine wb ev36 ?_
                    obtain ⟨v37, ev37, _⟩ := ga_27 WLc_18 tv33 (i := v36) (by omega) (by omega)
                    refine wb ev37 ?_
                    unfold f_Search_candidates_231
                    have := i_andl (a := x4_18) (b := v37) (by omega)
                    have := i_add (a := x5_18) (b := 1) (by omega) (by omega)
                    exact lInl ⟨rfl, rfl, rfl, WLc_18, FLc_18, by (try dsimp only); omega, by (try dsimp only); omega, by (try dsimp only); omega, by (try dsimp only); omega⟩ (by (try dsimp only); omega)
                · have hq37 := i_ne hq37
                  unfold f_Search_candidates_231
                  have := i_add (a := x5_18) (b := 1) (by omega) (by omega)
                  exact lInl ⟨rfl, rfl, rfl, WLc_18, FLc_18, by (try dsimp only); omega, by (try dsimp only); omega, by (try dsimp only); omega, by (try dsimp only); omega⟩ (by (try dsimp only); omega)
              · have := i_andr (a := (v4 >>> (v38 &&& 31))) (b := 1) (by omega)
                have hq36 := i_ne hq36
                obtain ⟨v40, ev40, tv40⟩ := gf_2_15 WLc_18 tv24
                refine wb ev40 ?_
                obtain ⟨v41, ev41, tv41⟩ := gf_7_1 WLc_18 t_a0
                refine wb ev41 ?_
                refine wb ev38 ?_
                obtain ⟨v43, ev43, lv43, uv43⟩ := ga_47 WLc_18 tv41 (i := v38) (by omega) (by omega)
                refine wb ev43 ?_
                obtain ⟨v44, ev44, _⟩ := ga_28 WLc_18 tv40 (i := v43) (by omega) (by omega)
                refine wb ev44 ?_
                unfold f_Search_candidates_231
                have := i_andl (a := x4_18) (b := v44) (by omega)
                have := i_add (a := x5_18) (b := 1) (by omega) (by omega)
                exact lInl ⟨rfl, rfl, rfl, WLc_18, FLc_18, by (try dsimp only); omega, by (try dsimp only); omega, by (try dsimp only); omega, by (try dsimp only); omega⟩ (by (try dsimp only); omega)
            · have hq35 := i_ne hq35
              unfold f_Search_candidates_189
              obtain ⟨v29, ev29, lv29, uv29⟩ := gf_2_1 WLc_18 tv24
              refine wb ev29 ?_
              refine wi (fun hq39 => ?_) (fun hq39 => ?_)
              · have hq39 := i_eq hq39
                refine wb ev25 ?_
                refine wi (fun hq40 => ?_) (fun hq40 => ?_)
                · have := i_andr (a := (v4 >>> (v25 &&& 31))) (b := 1) (by omega)
                  have hq40 := i_eq hq40
                  unfold f_Search_candidates_231
                  have := i_add (a := x5_18) (b := 1) (by omega) (by omega)
                  exact lInl ⟨rfl, rfl, rfl, WLc_18, FLc_18, by (try dsimp only); omega, by (try dsimp only); omega, by (try dsimp only); omega, by (try dsimp only); omega⟩ (by (try dsimp only); omega)
                · have := i_andr (a := (v4 >>> (v25 &&& 31))) (b := 1) (by omega)
                  have hq40 := i_ne hq40
                  obtain ⟨v33, ev33, tv33⟩ := gf_2_14 WLc_18 tv24
                  refine wb ev33 ?_
                  obtain ⟨v34, ev34, tv34⟩ := gf_7_1 WLc_18 t_a0
                  refine wb ev34 ?_
                  refine wb ev25 ?_
                  obtain ⟨v36, ev36, lv36, uv36⟩ := ga_47 WLc_18 tv34 (i := v25) (by omega) (by omega)
                  refine wb ev36 ?_
                  obtain ⟨v37, ev37, _⟩ := ga_27 WLc_18 tv33 (i := v36) (by omega) (by omega)
                  refine wb ev37 ?_
                  unfold f_Search_candidates_231
                  have := i_andl (a := x4_18) (b := v37) (by omega)
                  have := i_add (a := x5_18) (b := 1) (by omega) (by omega)
                  exact lInl ⟨rfl, rfl, rfl, WLc_18, FLc_18, by (try dsimp only); omega, by (try dsimp only); omega, by (try dsimp only); omega, by (try dsimp only); omega⟩ (by (try dsimp only); omega)
              · have hq39 := i_ne hq39
                unfold f_Search_candidates_231
                have := i_add (a := x5_18) (b := 1) (by omega) (by omega)
                exact lInl ⟨rfl, rfl, rfl, WLc_18, FLc_18, by (try dsimp only); omega, by (try dsimp only); omega, by (try dsimp only); omega, by (try dsimp only); omega⟩ (by (try dsimp only); omega)
    · exact ⟨rfl, rfl, rfl, WXc_11, Zfr.rf, by (try dsimp only); omega, by (try dsimp only); omega, by (try dsimp only); omega, by (try dsimp only); omega⟩
    · (try dsimp only); omega
  obtain ⟨b, eb, hb⟩ := L17
  refine wb eb ?_
  clear eb
  obtain ⟨z0_41, c_41⟩ := b
  try dsimp only at hb ⊢
  obtain ⟨WXc_41, FXc_41, j42, j43⟩ := hb
  have F44 := Zfr.tr F16 FXc_41 (by decide)
  unfold f_Search_candidates_237
  exact ⟨_, rfl, WXc_41, F44, by (try dsimp only); omega, by (try dsimp only); omega⟩

abbrev M_Search_begin : List (Nat × Nat) := [(7, 5), (7, 6), (7, 7), (7, 8), (7, 9), (7, 10), (7, 11), (48, 0), (49, 0), (50, 0)]
set_option maxRecDepth 100000 in
set_option maxHeartbeats 400000 in
theorem p_Search_begin {nf : Nat} (hn : 8589934592 ≤ nf) {G : List Nat} {c : Zc} (W : Zwt zty G c) {a0 : Nat} {a1 : Nat} {a2 : Int32}  (t_a0 : G[a0]? = some 7) (t_a1 : G[a1]? = some 3) (pl_a2 : 0 ≤ a2.toInt) (pu_a2 : a2.toInt ≤ 69) : ∃ q, f_Search_begin nf a0 a1 a2 c = some q ∧ Zwt zty G q ∧ Zfr G M_Search_begin c q := by
  have F0 : Zfr G M_Search_begin c c := Zfr.rf
  unfold f_Search_begin
  obtain ⟨c1, ec1, Wc1, fc1, gc1⟩ := pf_7_5 W t_a0 t_a1 (by decide)
  refine wb ec1 ?_
  have F1 := Zfr.tr F0 fc1 (by decide)
  refine wi (fun hq2 => ?_) (fun hq2 => ?_)
  · have := li_0
    have hq2 := i_eq hq2
    unfold f_Search_begin_25
    obtain ⟨c6, ec6, Wc6, fc6, gc6⟩ := pf_7_6 Wc1 t_a0 (x := 0) (rgi (by omega) (by omega))
    refine wb ec6 ?_
    have e3 := (Zfr.gr fc6 t_a0 (by decide)).trans gc1
    have F4 := Zfr.tr F1 fc6 (by decide)
    refine wb e3 ?_
    obtain ⟨v8, ev8, tv8⟩ := gf_3_10 Wc6 t_a1
    refine wb ev8 ?_
    obtain ⟨v9, ev9, lv9, uv9⟩ := ga_33 Wc6 tv8 (i := a2) (by omega) (by omega)
    refine wb ev9 ?_
    obtain ⟨c10, ec10, Wc10, fc10, gc10⟩ := pf_7_7 Wc6 t_a0 (x := v9) (rgi (by omega) (by omega))
    refine wb ec10 ?_
    have e5 := (Zfr.gr fc10 t_a0 (by decide)).trans e3
    have e6 := (Zfr.ai fc10 tv8 (by decide)).trans ev9
    have F7 := Zfr.tr F4 fc10 (by decide)
    refine wi (fun hq8 => ?_) (fun hq8 => ?_)
    · have hq8 := i_eq hq8
      unfold f_Search_begin_61
      obtain ⟨c15, ec15, Wc15, fc15, gc15⟩ := pf_7_8 Wc10 t_a0 (x := 0) (rgi (by omega) (by omega))
      refine wb ec15 ?_
      have e9 := (Zfr.gr fc15 t_a0 (by decide)).trans e5
      have e10 := (Zfr.ai fc15 tv8 (by decide)).trans e6
      have F11 := Zfr.tr F7 fc15 (by decide)
      refine wb e9 ?_
      obtain ⟨v17, ev17, tv17⟩ := gf_3_11 Wc15 t_a1
      refine wb ev17 ?_
      obtain ⟨v18, ev18, lv18, uv18⟩ := ga_34 Wc15 tv17 (i := a2) (by omega) (by omega)
      refine wb ev18 ?_
      obtain ⟨c19, ec19, Wc19, fc19, gc19⟩ := pf_7_9 Wc15 t_a0 (x := v18) (rgi (by omega) (by omega))
      refine wb ec19 ?_
      have e12 := (Zfr.gr fc19 t_a0 (by decide)).trans e9
      have e13 := (Zfr.ai fc19 tv8 (by decide)).trans e10
      have e14 := (Zfr.ai fc19 tv17 (by decide)).trans ev18
      have F15 := Zfr.tr F11 fc19 (by decide)
      obtain ⟨c20, ec20, Wc20, fc20, gc20⟩ := pf_7_10 Wc19 t_a0 (x := 0) (rgi (by omega) (by omega))
      refine wb ec20 ?_
      have e16 := (Zfr.gr fc20 t_a0 (by decide)).trans e12
      have e17 := (Zfr.ai fc20 tv8 (by decide)).trans e13
      have e18 := (Zfr.ai fc20 tv17 (by decide)).trans e14
      have F19 := Zfr.tr F15 fc20 (by decide)
      refine wi (fun hq20 => ?_) (fun hq20 => ?_)
      · have hq20 := i_eq hq20
        unfold f_Search_begin_99
        unfold f_Search_begin_103
        have L21 : ∃ b, zlp (fun a : Nat × Int32 × Int32 × Int32 × Zc => g_Search_begin_103 nf a.1 a.2.1 a.2.2.1 a.2.2.2.1 a.2.2.2.2) nf (a0, a2, 0, 0, c20) = some b ∧ (fun b : (Nat × Zc) => a0 = b.1 ∧ Zwt zty G b.2 ∧ Zfr G ([(7, 10), (48, 0), (49, 0)] : List (Nat × Nat)) c20 b.2) b := by
          refine wlp (fun a : Nat × Int32 × Int32 × Int32 × Zc => a0 = a.1 ∧ a2 = a.2.1 ∧ Zwt zty G a.2.2.2.2 ∧ Zfr G ([(7, 10), (48, 0), (49, 0)] : List (Nat × Nat)) c20 a.2.2.2.2 ∧ 0 ≤ a.2.2.2.1.toInt ∧ a.2.2.2.1.toInt ≤ 8 ∧ ∃ nH, zgi a.2.2.2.2 a0 6 10 = some nH ∧ 0 ≤ nH.toInt ∧ nH.toInt ≤ a.2.2.2.1.toInt) (fun a => (8 - a.2.2.2.1.toInt).toNat) (fun b : (Nat × Zc) => a0 = b.1 ∧ Zwt zty G b.2 ∧ Zfr G ([(7, 10), (48, 0), (49, 0)] : List (Nat × Nat)) c20 b.2) ?_ ?_ ?_
          · rintro ⟨x0_22, x2_22, x3_22, x4_22, c_22⟩ hI
            try dsimp only at hI ⊢
            obtain ⟨rfl, rfl, WLc_22, FLc_22, j23, j24, n_22, ehn_22, j25, j26⟩ := hI
            have e27 := (Zfr.gr FLc_22 t_a0 (by decide)).trans e16
            have e28 := (Zfr.ai FLc_22 tv8 (by decide)).trans e17
            have e29 := (Zfr.ai FLc_22 tv17 (by decide)).trans e18
            unfold g_Search_begin_103
            refine wi (fun hq30 => ?_) (fun hq30 => ?_)
            · have := li_8
              have hq30 := i_le hq30
              exact lInr ⟨rfl, WLc_22, FLc_22⟩
            · have := li_8
              have hq30 := i_nle hq30
              refine wb e27 ?_
              obtain ⟨v27, ev27, tv27⟩ := gf_3_9 WLc_22 t_a1
              refine wb ev27 ?_
              obtain ⟨v28, ev28, _⟩ := ga_32 WLc_22 tv27 (i := a2) (by omega) (by omega)
              refine wb ev28 ?_
              refine wi (fun hq31 => ?_) (fun hq31 => ?_)
              · have := li_1
                have := i_andr (a := (v28 >>> (x4_22 &&& 31))) (b := 1) (by omega)
                have hq31 := i_eq hq31
                unfold f_Search_begin_165
                have := i_add (a := x4_22) (b := 1) (by omega) (by omega)
                exact lInl ⟨rfl, rfl, WLc_22, FLc_22, by (try dsimp only); omega, by (try dsimp only); omega, n_22, ehn_22, by (try dsimp only); omega, by (try dsimp only); omega⟩ (by (try dsimp only); omega)
              · have := li_1
                have := i_andr (a := (v28 >>> (x4_22 &&& 31))) (b := 1) (by omega)
                have hq31 := i_ne hq31
                obtain ⟨v30, ev30, tv30⟩ := gf_7_2 WLc_22 t_a0
                refine wb ev30 ?_
                refine wb ehn_22 ?_
                obtain ⟨c32, ec32, Wc32, fc32, gc32⟩ := pa_48 WLc_22 tv30 (i := n_22) (by omega) (by omega) (x := x4_22) (rgi (by omega) (by omega))
                refine wb ec32 ?_
                have e33 := (Zfr.gi fc32 t_a0 (by decide)).trans ehn_22
                have F34 := Zfr.tr FLc_22 fc32 (by decide)
                obtain ⟨v33, ev33, tv33⟩ := gf_7_3 Wc32 t_a0
                refine wb ev33 ?_
                refine wb e33 ?_
                obtain ⟨c35, ec35, Wc35, fc35, gc35⟩ := pa_49 Wc32 tv33 (i := n_22) (by omega) (by omega) (x := x3_22) (trivial)
                refine wb ec35 ?_
                have e35 := (Zfr.gi fc35 t_a0 (by decide)).trans e33
                have F36 := Zfr.tr F34 fc35 (by decide)
                refine wb e35 ?_
                have := i_add (a := n_22) (b := 1) (by omega) (by omega)
                obtain ⟨c37, ec37, Wc37, fc37, gc37⟩ := pf_7_10 Wc35 t_a0 (x := (n_22 + 1)) (rgi (by omega) (by omega))
                refine wb ec37 ?_
                have F37 := Zfr.tr F36 fc37 (by decide)
                unfold f_Search_begin_165
                have := i_shl7 (b := x4_22) (by omega) (by omega)
                have := i_add (a := x4_22) (b := 1) (by omega) (by omega)
                exact lInl ⟨rfl, rfl, Wc37, F37, by (try dsimp only); omega, by (try dsimp only); omega, (n_22 + 1), gc37, by (try dsimp only); omega, by (try dsimp only); omega⟩ (by (try dsimp only); omega)
          · exact ⟨rfl, rfl, Wc20, Zfr.rf, by (try dsimp only); omega, by (try dsimp only); omega, (0 : Int32), gc20, by (try dsimp only); omega, by (try dsimp only); omega⟩
          · (try dsimp only); omega
        obtain ⟨b, eb, hb⟩ := L21
        refine wb eb ?_
        clear eb
        obtain ⟨z0_40, c_40⟩ := b
        try dsimp only at hb ⊢
        obtain ⟨rfl, WXc_40, FXc_40⟩ := hb
        have F41 := Zfr.tr F19 FXc_40 (by decide)
        obtain ⟨c38, ec38, Wc38, fc38, gc38⟩ := pf_7_11 WXc_40 t_a0 (x := 0) (rgi (by omega) (by omega))
        refine wb ec38 ?_
        have F42 := Zfr.tr F41 fc38 (by decide)
        obtain ⟨v39, ev39, tv39⟩ := gf_7_4 Wc38 t_a0
        refine wb ev39 ?_
        obtain ⟨v40, ev40, lv40, uv40⟩ := gf_7_10 Wc38 t_a0
        refine wb ev40 ?_
        refine wi (fun hq43 => ?_) (fun hq43 => ?_)
        · have hq43 := i_eq hq43
          unfold f_Search_begin_197
          obtain ⟨c44, ec44, Wc44, fc44, gc44⟩ := pa_50 Wc38 tv39 (i := 0) (by omega) (by omega) (x := 0) (rgi (by omega) (by omega))
          refine wb ec44 ?_
          have F44 := Zfr.tr F42 fc44 (by decide)
          exact ⟨_, rfl, Wc44, F44⟩
        · have hq43 := i_ne hq43
          obtain ⟨w43, ew43⟩ := go_7 Wc38 t_a0
          refine wb ew43 ?_
          obtain ⟨q42, eq42, Wq42, fq42, pl0q42, pu0q42⟩ := p_Search_candidates hn Wc38 (a1 := 0) t_a0 (by omega) (by omega)
          refine wb eq42 ?_
          have F45 := Zfr.tr F42 fq42 (by decide)
          unfold f_Search_begin_197
          obtain ⟨c44, ec44, Wc44, fc44, gc44⟩ := pa_50 Wq42 tv39 (i := 0) (by omega) (by omega) (x := q42.1) (rgi (by omega) (by omega))
          refine wb ec44 ?_
          have F46 := Zfr.tr F45 fc44 (by decide)
          exact ⟨_, rfl, Wc44, F46⟩
      · have hq20 := i_ne hq20
        exfalso
        omega
    · have hq8 := i_ne hq8
      exfalso
      omega
  · have := li_0
    have hq2 := i_ne hq2
    refine wb gc1 ?_
    obtain ⟨v4, ev4, tv4⟩ := gf_3_10 Wc1 t_a1
    refine wb ev4 ?_
    have := li_1
    have := i_sub (a := a2) (b := 1) (by omega) (by omega)
    obtain ⟨v5, ev5, lv5, uv5⟩ := ga_33 Wc1 tv4 (i := (a2 - 1)) (by omega) (by omega)
    refine wb ev5 ?_
    unfold f_Search_begin_25
    obtain ⟨c6, ec6, Wc6, fc6, gc6⟩ := pf_7_6 Wc1 t_a0 (x := v5) (rgi (by omega) (by omega))
    refine wb ec6 ?_
    have e47 := (Zfr.gr fc6 t_a0 (by decide)).trans gc1
    have e48 := (Zfr.gr fc6 t_a1 (by decide)).trans ev4
    have e49 := (Zfr.ai fc6 tv4 (by decide)).trans ev5
    have F50 := Zfr.tr F1 fc6 (by decide)
    refine wb e47 ?_
    refine wb e48 ?_
    obtain ⟨v9, ev9, lv9, uv9⟩ := ga_33 Wc6 tv4 (i := a2) (by omega) (by omega)
    refine wb ev9 ?_
    obtain ⟨c10, ec10, Wc10, fc10, gc10⟩ := pf_7_7 Wc6 t_a0 (x := v9) (rgi (by omega) (by omega))
    refine wb ec10 ?_
    have e51 := (Zfr.gr fc10 t_a0 (by decide)).trans e47
    have e52 := (Zfr.ai fc10 tv4 (by decide)).trans e49
    have e53 := (Zfr.ai fc10 tv4 (by decide)).trans ev9
    have F54 := Zfr.tr F50 fc10 (by decide)
    refine wi (fun hq55 => ?_) (fun hq55 => ?_)
    · have hq55 := i_eq hq55
      exfalso
      omega
    · have hq55 := i_ne hq55
      refine wb e51 ?_
      obtain ⟨v13, ev13, tv13⟩ := gf_3_11 Wc10 t_a1
      refine wb ev13 ?_
      obtain ⟨v14, ev14, lv14, uv14⟩ := ga_34 Wc10 tv13 (i := (a2 - 1)) (by omega) (by omega)
      refine wb ev14 ?_
      unfold f_Search_begin_61
      obtain ⟨c15, ec15, Wc15, fc15, gc15⟩ := pf_7_8 Wc10 t_a0 (x := v14) (rgi (by omega) (by omega))
      refine wb ec15 ?_
      have e56 := (Zfr.gr fc15 t_a0 (by decide)).trans e51
      have e57 := (Zfr.ai fc15 tv4 (by decide)).trans e52
      have e58 := (Zfr.ai fc15 tv4 (by decide)).trans e53
      have e59 := (Zfr.gr fc15 t_a1 (by decide)).trans ev13
      have e60 := (Zfr.ai fc15 tv13 (by decide)).trans ev14
      have F61 := Zfr.tr F54 fc15 (by decide)
      refine wb e56 ?_
      refine wb e59 ?_
      obtain ⟨v18, ev18, lv18, uv18⟩ := ga_34 Wc15 tv13 (i := a2) (by omega) (by omega)
      refine wb ev18 ?_
      obtain ⟨c19, ec19, Wc19, fc19, gc19⟩ := pf_7_9 Wc15 t_a0 (x := v18) (rgi (by omega) (by omega))
      refine wb ec19 ?_
      have e62 := (Zfr.gr fc19 t_a0 (by decide)).trans e56
      have e63 := (Zfr.ai fc19 tv4 (by decide)).trans e57
      have e64 := (Zfr.ai fc19 tv4 (by decide)).trans e58
      have e65 := (Zfr.ai fc19 tv13 (by decide)).trans e60
      have e66 := (Zfr.ai fc19 tv13 (by decide)).trans ev18
      have F67 := Zfr.tr F61 fc19 (by decide)
      obtain ⟨c20, ec20, Wc20, fc20, gc20⟩ := pf_7_10 Wc19 t_a0 (x := 0) (rgi (by omega) (by omega))
      refine wb ec20 ?_
      have e68 := (Zfr.gr fc20 t_a0 (by decide)).trans e62
      have e69 := (Zfr.ai fc20 tv4 (by decide)).trans e63
      have e70 := (Zfr.ai fc20 tv4 (by decide)).trans e64
      have e71 := (Zfr.ai fc20 tv13 (by decide)).trans e65
      have e72 := (Zfr.ai fc20 tv13 (by decide)).trans e66
      have F73 := Zfr.tr F67 fc20 (by decide)
      refine wi (fun hq74 => ?_) (fun hq74 => ?_)
      · have hq74 := i_eq hq74
        exfalso
        omega
      · have hq74 := i_ne hq74
        refine wb e68 ?_
        obtain ⟨v23, ev23, tv23⟩ := gf_3_9 Wc20 t_a1
        refine wb ev23 ?_
        obtain ⟨v24, ev24, _⟩ := ga_32 Wc20 tv23 (i := 0) (by omega) (by omega)
        refine wb ev24 ?_
        unfold f_Search_begin_99
        unfold f_Search_begin_103
        have L75 : ∃ b, zlp (fun a : Nat × Int32 × Int32 × Int32 × Zc => g_Search_begin_103 nf a.1 a.2.1 a.2.2.1 a.2.2.2.1 a.2.2.2.2) nf (a0, a2, v24, 0, c20) = some b ∧ (fun b : (Nat × Zc) => a0 = b.1 ∧ Zwt zty G b.2 ∧ Zfr G ([(7, 10), (48, 0), (49, 0)] : List (Nat × Nat)) c20 b.2) b := by
          refine wlp (fun a : Nat × Int32 × Int32 × Int32 × Zc => a0 = a.1 ∧ a2 = a.2.1 ∧ Zwt zty G a.2.2.2.2 ∧ Zfr G ([(7, 10), (48, 0), (49, 0)] : List (Nat × Nat)) c20 a.2.2.2.2 ∧ 0 ≤ a.2.2.2.1.toInt ∧ a.2.2.2.1.toInt ≤ 8 ∧ ∃ nH, zgi a.2.2.2.2 a0 6 10 = some nH ∧ 0 ≤ nH.toInt ∧ nH.toInt ≤ a.2.2.2.1.toInt) (fun a => (8 - a.2.2.2.1.toInt).toNat) (fun b : (Nat × Zc) => a0 = b.1 ∧ Zwt zty G b.2 ∧ Zfr G ([(7, 10), (48, 0), (49, 0)] : List (Nat × Nat)) c20 b.2) ?_ ?_ ?_
          · rintro ⟨x0_76, x2_76, x3_76, x4_76, c_76⟩ hI
            try dsimp only at hI ⊢
            obtain ⟨rfl, rfl, WLc_76, FLc_76, j77, j78, n_76, ehn_76, j79, j80⟩ := hI
            have e81 := (Zfr.gr FLc_76 t_a0 (by decide)).trans e68
            have e82 := (Zfr.ai FLc_76 tv4 (by decide)).trans e69
            have e83 := (Zfr.ai FLc_76 tv4 (by decide)).trans e70
            have e84 := (Zfr.ai FLc_76 tv13 (by decide)).trans e71
            have e85 := (Zfr.ai FLc_76 tv13 (by decide)).trans e72
            have e86 := (Zfr.gr FLc_76 t_a1 (by decide)).trans ev23
            have e87 := (Zfr.ai FLc_76 tv23 (by decide)).trans ev24
            unfold g_Search_begin_103
            refine wi (fun hq88 => ?_) (fun hq88 => ?_)
            · have := li_8
              have hq88 := i_le hq88
              exact lInr ⟨rfl, WLc_76, FLc_76⟩
            · have := li_8
              have hq88 := i_nle hq88
              refine wb e81 ?_
              refine wb e86 ?_
              obtain ⟨v28, ev28, _⟩ := ga_32 WLc_76 tv23 (i := a2) (by omega) (by omega)
              refine wb ev28 ?_
              refine wi (fun hq89 => ?_) (fun hq89 => ?_)
              · have := i_andr (a := (v28 >>> (x4_76 &&& 31))) (b := 1) (by omega)
                have hq89 := i_eq hq89
                unfold f_Search_begin_165
                have := i_add (a := x4_76) (b := 1) (by omega) (by omega)
                exact lInl ⟨rfl, rfl, WLc_76, FLc_76, by (try dsimp only); omega, by (try dsimp only); omega, n_76, ehn_76, by (try dsimp only); omega, by (try dsimp only); omega⟩ (by (try dsimp only); omega)
              · have := i_andr (a := (v28 >>> (x4_76 &&& 31))) (b := 1) (by omega)
                have hq89 := i_ne hq89
                obtain ⟨v30, ev30, tv30⟩ := gf_7_2 WLc_76 t_a0
                refine wb ev30 ?_
                refine wb ehn_76 ?_
                obtain ⟨c32, ec32, Wc32, fc32, gc32⟩ := pa_48 WLc_76 tv30 (i := n_76) (by omega) (by omega) (x := x4_76) (rgi (by omega) (by omega))
                refine wb ec32 ?_
                have e91 := (Zfr.gi fc32 t_a0 (by decide)).trans ehn_76
                have F92 := Zfr.tr FLc_76 fc32 (by decide)
                obtain ⟨v33, ev33, tv33⟩ := gf_7_3 Wc32 t_a0
                refine wb ev33 ?_
                refine wb e91 ?_
                obtain ⟨c35, ec35, Wc35, fc35, gc35⟩ := pa_49 Wc32 tv33 (i := n_76) (by omega) (by omega) (x := x3_76) (trivial)
                refine wb ec35 ?_
                have e93 := (Zfr.gi fc35 t_a0 (by decide)).trans e91
                have F94 := Zfr.tr F92 fc35 (by decide)
                refine wb e93 ?_
                have := i_add (a := n_76) (b := 1) (by omega) (by omega)
                obtain ⟨c37, ec37, Wc37, fc37, gc37⟩ := pf_7_10 Wc35 t_a0 (x := (n_76 + 1)) (rgi (by omega) (by omega))
                refine wb ec37 ?_
                have F95 := Zfr.tr F94 fc37 (by decide)
                unfold f_Search_begin_165
                have := i_shl7 (b := x4_76) (by omega) (by omega)
                have := i_add (a := x4_76) (b := 1) (by omega) (by omega)
                exact lInl ⟨rfl, rfl, Wc37, F95, by (try dsimp only); omega, by (try dsimp only); omega, (n_76 + 1), gc37, by (try dsimp only); omega, by (try dsimp only); omega⟩ (by (try dsimp only); omega)
          · exact ⟨rfl, rfl, Wc20, Zfr.rf, by (try dsimp only); omega, by (try dsimp only); omega, (0 : Int32), gc20, by (try dsimp only); omega, by (try dsimp only); omega⟩
          · (try dsimp only); omega
        obtain ⟨b, eb, hb⟩ := L75
        refine wb eb ?_
        clear eb
        obtain ⟨z0_98, c_98⟩ := b
        try dsimp only at hb ⊢
        obtain ⟨rfl, WXc_98, FXc_98⟩ := hb
        have F99 := Zfr.tr F73 FXc_98 (by decide)
        obtain ⟨c38, ec38, Wc38, fc38, gc38⟩ := pf_7_11 WXc_98 t_a0 (x := 0) (rgi (by omega) (by omega))
        refine wb ec38 ?_
        have F100 := Zfr.tr F99 fc38 (by decide)
        obtain ⟨v39, ev39, tv39⟩ := gf_7_4 Wc38 t_a0
        refine wb ev39 ?_
        obtain ⟨v40, ev40, lv40, uv40⟩ := gf_7_10 Wc38 t_a0
        refine wb ev40 ?_
        refine wi (fun hq101 => ?_) (fun hq101 => ?_)
        · have hq101 := i_eq hq101
          unfold f_Search_begin_197
          obtain ⟨c44, ec44, Wc44, fc44, gc44⟩ := pa_50 Wc38 tv39 (i := 0) (by omega) (by omega) (x := 0) (rgi (by omega) (by omega))
          refine wb ec44 ?_
          have F102 := Zfr.tr F100 fc44 (by decide)
          exact ⟨_, rfl, Wc44, F102⟩
        · have hq101 := i_ne hq101
          obtain ⟨w43, ew43⟩ := go_7 Wc38 t_a0
          refine wb ew43 ?_
          obtain ⟨q42, eq42, Wq42, fq42, pl0q42, pu0q42⟩ := p_Search_candidates hn Wc38 (a1 := 0) t_a0 (by omega) (by omega)
          refine wb eq42 ?_
          have F103 := Zfr.tr F100 fq42 (by decide)
          unfold f_Search_begin_197
          obtain ⟨c44, ec44, Wc44, fc44, gc44⟩ := pa_50 Wq42 tv39 (i := 0) (by omega) (by omega) (x := q42.1) (rgi (by omega) (by omega))
          refine wb ec44 ?_
          have F104 := Zfr.tr F103 fc44 (by decide)
          exact ⟨_, rfl, Wc44, F104⟩

abbrev M_Search_next : List (Nat × Nat) := [(7, 11), (47, 0), (50, 0)]
set_option maxRecDepth 100000 in
set_option maxHeartbeats 400000 in
theorem p_Search_next {nf : Nat} (hn : 8589934592 ≤ nf) {G : List Nat} {c : Zc} (W : Zwt zty G c) {a0 : Nat}  (t_a0 : G[a0]? = some 7) : ∃ q, f_Search_next nf a0 c = some q ∧ Zwt zty G q.2 ∧ Zfr G M_Search_next c q.2 ∧ 0 ≤ q.1.toInt ∧ q.1.toInt ≤ 1 := by
  have F0 : Zfr G M_Search_next c c := Zfr.rf
  unfold f_Search_next
  unfold f_Search_next_2
  have := li_0
  have L1 : ∃ b, zlp (fun a : Nat × Int32 × Zc => g_Search_next_2 nf a.1 a.2.1 a.2.2) nf (a0, 0, c) = some b ∧ (fun b : ((Zc) ⊕ (Zc)) => (match b with | .inl b => Zwt zty G b ∧ Zfr G ([(7, 11), (47, 0), (50, 0)] : List (Nat × Nat)) c b | .inr b => Zwt zty G b ∧ Zfr G ([(7, 11), (47, 0), (50, 0)] : List (Nat × Nat)) c b)) b := by
    refine wlp (fun a : Nat × Int32 × Zc => a0 = a.1 ∧ Zwt zty G a.2.2 ∧ Zfr G ([(7, 11), (47, 0), (50, 0)] : List (Nat × Nat)) c a.2.2 ∧ 0 ≤ a.2.1.toInt ∧ a.2.1.toInt ≤ 1000000) (fun a => (1000000 - a.2.1.toInt).toNat) (fun b : ((Zc) ⊕ (Zc)) => (match b with | .inl b => Zwt zty G b ∧ Zfr G ([(7, 11), (47, 0), (50, 0)] : List (Nat × Nat)) c b | .inr b => Zwt zty G b ∧ Zfr G ([(7, 11), (47, 0), (50, 0)] : List (Nat × Nat)) c b)) ?_ ?_ ?_
    · rintro ⟨x0_2, x1_2, c_2⟩ hI
      try dsimp only at hI ⊢
      obtain ⟨rfl, WLc_2, FLc_2, j3, j4⟩ := hI
      unfold g_Search_next_2
      refine wi (fun hq5 => ?_) (fun hq5 => ?_)
      · have := li_1000000
        have hq5 := i_le hq5
        exact lInr ⟨WLc_2, FLc_2⟩
      · have := li_1000000
        have hq5 := i_nle hq5
        obtain ⟨v2, ev2, lv2, uv2⟩ := gf_7_11 WLc_2 t_a0
        refine wb ev2 ?_
        refine wi (fun hq6 => ?_) (fun hq6 => ?_)
        · have hq6 := i_lt hq6
          exact lInr ⟨WLc_2, FLc_2⟩
        · have hq6 := i_nlt hq6
          obtain ⟨v4, ev4, tv4⟩ := gf_7_4 WLc_2 t_a0
          refine wb ev4 ?_
          refine wb ev2 ?_
          obtain ⟨v6, ev6, lv6, uv6⟩ := ga_50 WLc_2 tv4 (i := v2) (by omega) (by omega)
          refine wb ev6 ?_
          refine wi (fun hq7 => ?_) (fun hq7 => ?_)
          · have hq7 := i_eq hq7
            refine wb ev2 ?_
            have := li_1
            have := i_sub (a := v2) (b := 1) (by omega) (by omega)
            obtain ⟨c29, ec29, Wc29, fc29, gc29⟩ := pf_7_11 WLc_2 t_a0 (x := (v2 - 1)) (rgi (by omega) (by omega))
            refine wb ec29 ?_
            have F8 := Zfr.tr FLc_2 fc29 (by decide)
            unfold f_Search_next_116
            have := i_add (a := x1_2) (b := 1) (by omega) (by omega)
            exact lInl ⟨rfl, Wc29, F8, by (try dsimp only); omega, by (try dsimp only); omega⟩ (by (try dsimp only); omega)
          · have hq7 := i_ne hq7
            refine wb ev4 ?_
            refine wb ev2 ?_
            have := li_1
            have := i_sub (a := v6) (b := 1) (by omega) (by omega)
            have := i_andr (a := v6) (b := (v6 - 1)) (by omega)
            have := i_andl (a := v6) (b := (v6 - 1)) (by omega)
            obtain ⟨c10, ec10, Wc10, fc10, gc10⟩ := pa_50 WLc_2 tv4 (i := v2) (by omega) (by omega) (x := (v6 &&& (v6 - 1))) (rgi (by omega) (by omega))
            refine wb ec10 ?_
            have e9 := (Zfr.gi fc10 t_a0 (by decide)).trans ev2
            have e10 := (Zfr.gr fc10 t_a0 (by decide)).trans ev4
            have F11 := Zfr.tr FLc_2 fc10 (by decide)
            obtain ⟨v11, ev11, tv11⟩ := gf_7_1 Wc10 t_a0
            refine wb ev11 ?_
            obtain ⟨v12, ev12, tv12⟩ := gf_7_2 Wc10 t_a0
            refine wb ev12 ?_
            refine wb e9 ?_
            obtain ⟨v14, ev14, lv14, uv14⟩ := ga_48 Wc10 tv12 (i := v2) (by omega) (by omega)
            refine wb ev14 ?_
            obtain ⟨q15, eq15, Wq15, fq15, pl0q15, pu0q15⟩ := p_Integer_numberOfTrailingZeros hn Wc10 (a0 := v6) (by omega) (by omega)
            refine wb eq15 ?_
            have e12 := (Zfr.gi fq15 t_a0 (by decide)).trans e9
            have e13 := (Zfr.gr fq15 t_a0 (by decide)).trans e10
            have F14 := Zfr.tr F11 fq15 (by decide)
            obtain ⟨c16, ec16, Wc16, fc16, gc16⟩ := pa_47 Wq15 tv11 (i := v14) (by omega) (by omega) (x := q15.1) (rgi (by omega) (by omega))
            refine wb ec16 ?_
            have e15 := (Zfr.gi fc16 t_a0 (by decide)).trans e12
            have e16 := (Zfr.gr fc16 t_a0 (by decide)).trans e13
            have F17 := Zfr.tr F14 fc16 (by decide)
            refine wb e15 ?_
            obtain ⟨v18, ev18, lv18, uv18⟩ := gf_7_10 Wc16 t_a0
            refine wb ev18 ?_
            refine wi (fun hq18 => ?_) (fun hq18 => ?_)
            · have := i_add (a := v2) (b := 1) (by omega) (by omega)
              have hq18 := i_lt hq18
              refine wb e15 ?_
              obtain ⟨c21, ec21, Wc21, fc21, gc21⟩ := pf_7_11 Wc16 t_a0 (x := (v2 + 1)) (rgi (by omega) (by omega))
              refine wb ec21 ?_
              have e19 := (Zfr.gr fc21 t_a0 (by decide)).trans e16
              have F20 := Zfr.tr F17 fc21 (by decide)
              refine wb e19 ?_
              refine wb gc21 ?_
              refine wb gc21 ?_
              obtain ⟨w26, ew26⟩ := go_7 Wc21 t_a0
              refine wb ew26 ?_
              obtain ⟨q25, eq25, Wq25, fq25, pl0q25, pu0q25⟩ := p_Search_candidates hn Wc21 (a1 := (v2 + 1)) t_a0 (by omega) (by omega)
              refine wb eq25 ?_
              have F21 := Zfr.tr F20 fq25 (by decide)
              obtain ⟨c27, ec27, Wc27, fc27, gc27⟩ := pa_50 Wq25 tv4 (i := (v2 + 1)) (by omega) (by omega) (x := q25.1) (rgi (by omega) (by omega))
              refine wb ec27 ?_
              have F22 := Zfr.tr F21 fc27 (by decide)
              unfold f_Search_next_116
              have := i_add (a := x1_2) (b := 1) (by omega) (by omega)
              exact lInl ⟨rfl, Wc27, F22, by (try dsimp only); omega, by (try dsimp only); omega⟩ (by (try dsimp only); omega)
            · have := i_add (a := v2) (b := 1) (by omega) (by omega)
              have hq18 := i_nlt hq18
              exact lInr ⟨Wc16, F17⟩
    · exact ⟨rfl, W, Zfr.rf, by (try dsimp only); omega, by (try dsimp only); omega⟩
    · (try dsimp only); omega
  obtain ⟨b, eb, hb⟩ := L1
  refine wb eb ?_
  clear eb
  rcases b with b | b
  · obtain c_23 := b
    try dsimp only at hb ⊢
    obtain ⟨WXc_23, FXc_23⟩ := hb
    have F24 := Zfr.tr F0 FXc_23 (by decide)
    have := li_1
    exact wz (rgi (by omega) (by omega)) ⟨WXc_23, F24, by (try dsimp only); omega, by (try dsimp only); omega⟩
  · obtain c_25 := b
    try dsimp only at hb ⊢
    obtain ⟨WXc_25, FXc_25⟩ := hb
    have F26 := Zfr.tr F0 FXc_25 (by decide)
    unfold f_Search_next_122
    exact wz (rgi (by omega) (by omega)) ⟨WXc_25, F26, by (try dsimp only); omega, by (try dsimp only); omega⟩

abbrev M_Search_knownFit : List (Nat × Nat) := []
set_option maxRecDepth 100000 in
set_option maxHeartbeats 400000 in
theorem p_Search_knownFit {nf : Nat} (hn : 8589934592 ≤ nf) {G : List Nat} {c : Zc} (W : Zwt zty G c) {a0 : Nat} {a1 : Int32}  (t_a0 : G[a0]? = some 7) : ∃ q, f_Search_knownFit nf a0 a1 c = some q ∧ Zwt zty G q.2 ∧ Zfr G M_Search_knownFit c q.2 ∧ 0 ≤ q.1.toInt ∧ q.1.toInt ≤ 1 := by
  have F0 : Zfr G M_Search_knownFit c c := Zfr.rf
  unfold f_Search_knownFit
  obtain ⟨v1, ev1, lv1, uv1⟩ := gf_7_8 W t_a0
  refine wb ev1 ?_
  unfold f_Search_knownFit_5
  have L1 : ∃ b, zlp (fun a : Nat × Int32 × Int32 × Zc => g_Search_knownFit_5 nf a.1 a.2.1 a.2.2.1 a.2.2.2) nf (a0, a1, v1, c) = some b ∧ (fun b : ((Zc) ⊕ (Nat × Int32 × Zc)) => (match b with | .inl b => Zwt zty G b ∧ Zfr G ([] : List (Nat × Nat)) c b | .inr b => a0 = b.1 ∧ a1 = b.2.1 ∧ Zwt zty G b.2.2 ∧ Zfr G ([] : List (Nat × Nat)) c b.2.2)) b := by
    refine wlp (fun a : Nat × Int32 × Int32 × Zc => a0 = a.1 ∧ a1 = a.2.1 ∧ Zwt zty G a.2.2.2 ∧ Zfr G ([] : List (Nat × Nat)) c a.2.2.2 ∧ 0 ≤ a.2.2.1.toInt ∧ a.2.2.1.toInt ≤ 70) (fun a => (70 - a.2.2.1.toInt).toNat) (fun b : ((Zc) ⊕ (Nat × Int32 × Zc)) => (match b with | .inl b => Zwt zty G b ∧ Zfr G ([] : List (Nat × Nat)) c b | .inr b => a0 = b.1 ∧ a1 = b.2.1 ∧ Zwt zty G b.2.2 ∧ Zfr G ([] : List (Nat × Nat)) c b.2.2)) ?_ ?_ ?_
    · rintro ⟨x0_2, x1_2, x2_2, c_2⟩ hI
      try dsimp only at hI ⊢
      obtain ⟨rfl, rfl, WLc_2, FLc_2, j3, j4⟩ := hI
      unfold g_Search_knownFit_5
      obtain ⟨v2, ev2, lv2, uv2⟩ := gf_7_9 WLc_2 t_a0
      refine wb ev2 ?_
      refine wi (fun hq5 => ?_) (fun hq5 => ?_)
      · have hq5 := i_le hq5
        exact lInr ⟨rfl, rfl, WLc_2, FLc_2⟩
      · have hq5 := i_nle hq5
        obtain ⟨v4, ev4, tv4⟩ := gf_7_5 WLc_2 t_a0
        refine wb ev4 ?_
        obtain ⟨v5, ev5, tv5⟩ := gf_3_6 WLc_2 tv4
        refine wb ev5 ?_
        obtain ⟨v6, ev6, lv6, uv6⟩ := ga_30 WLc_2 tv5 (i := x2_2) (by omega) (by omega)
        refine wb ev6 ?_
        refine wi (fun hq6 => ?_) (fun hq6 => ?_)
        · have := li_256
          have := i_div (a := v6) (b := 256) (n := 256) li_256 (by decide) (by omega)
          have := li_1
          have := i_andr (a := (a1 >>> ((v6 / 256) &&& 31))) (b := 1) (by omega)
          have := li_0
          have hq6 := i_eq hq6
          unfold f_Search_knownFit_58
          have := i_add (a := x2_2) (b := 1) (by omega) (by omega)
          exact lInl ⟨rfl, rfl, WLc_2, FLc_2, by (try dsimp only); omega, by (try dsimp only); omega⟩ (by (try dsimp only); omega)
        · have := li_256
          have := i_div (a := v6) (b := 256) (n := 256) li_256 (by decide) (by omega)
          have := li_1
          have := i_andr (a := (a1 >>> ((v6 / 256) &&& 31))) (b := 1) (by omega)
          have := li_0
          have hq6 := i_ne hq6
          refine wb ev4 ?_
          obtain ⟨v10, ev10, tv10⟩ := gf_3_7 WLc_2 tv4
          refine wb ev10 ?_
          obtain ⟨v11, ev11, _⟩ := ga_31 WLc_2 tv10 (i := x2_2) (by omega) (by omega)
          refine wb ev11 ?_
          obtain ⟨v12, ev12, tv12⟩ := gf_7_1 WLc_2 t_a0
          refine wb ev12 ?_
          obtain ⟨v13, ev13, lv13, uv13⟩ := ga_47 WLc_2 tv12 (i := (v6 / 256)) (by omega) (by omega)
          refine wb ev13 ?_
          refine wi (fun hq7 => ?_) (fun hq7 => ?_)
          · have := i_andr (a := (v11 >>> (v13 &&& 31))) (b := 1) (by omega)
            have hq7 := i_eq hq7
            exact lInr ⟨WLc_2, FLc_2⟩
          · have := i_andr (a := (v11 >>> (v13 &&& 31))) (b := 1) (by omega)
            have hq7 := i_ne hq7
            unfold f_Search_knownFit_58
            have := i_add (a := x2_2) (b := 1) (by omega) (by omega)
            exact lInl ⟨rfl, rfl, WLc_2, FLc_2, by (try dsimp only); omega, by (try dsimp only); omega⟩ (by (try dsimp only); omega)
    · exact ⟨rfl, rfl, W, Zfr.rf, by (try dsimp only); omega, by (try dsimp only); omega⟩
    · (try dsimp only); omega
  obtain ⟨b, eb, hb⟩ := L1
  refine wb eb ?_
  clear eb
  rcases b with b | b
  · obtain c_8 := b
    try dsimp only at hb ⊢
    obtain ⟨WXc_8, FXc_8⟩ := hb
    have F9 := Zfr.tr F0 FXc_8 (by decide)
    have := li_0
    exact wz (rgi (by omega) (by omega)) ⟨WXc_8, F9, by (try dsimp only); omega, by (try dsimp only); omega⟩
  · obtain ⟨z0_10, z1_10, c_10⟩ := b
    try dsimp only at hb ⊢
    obtain ⟨rfl, rfl, WXc_10, FXc_10⟩ := hb
    have F11 := Zfr.tr F0 FXc_10 (by decide)
    obtain ⟨v15, ev15, lv15, uv15⟩ := gf_7_6 WXc_10 t_a0
    refine wb ev15 ?_
    unfold f_Search_knownFit_69
    have L12 : ∃ b, zlp (fun a : Nat × Int32 × Int32 × Zc => g_Search_knownFit_69 nf a.1 a.2.1 a.2.2.1 a.2.2.2) nf (a0, a1, v15, c_10) = some b ∧ (fun b : ((Zc) ⊕ (Zc)) => (match b with | .inl b => Zwt zty G b ∧ Zfr G ([] : List (Nat × Nat)) c_10 b | .inr b => Zwt zty G b ∧ Zfr G ([] : List (Nat × Nat)) c_10 b)) b := by
      refine wlp (fun a : Nat × Int32 × Int32 × Zc => a0 = a.1 ∧ a1 = a.2.1 ∧ Zwt zty G a.2.2.2 ∧ Zfr G ([] : List (Nat × Nat)) c_10 a.2.2.2 ∧ 0 ≤ a.2.2.1.toInt ∧ a.2.2.1.toInt ≤ 10) (fun a => (10 - a.2.2.1.toInt).toNat) (fun b : ((Zc) ⊕ (Zc)) => (match b with | .inl b => Zwt zty G b ∧ Zfr G ([] : List (Nat × Nat)) c_10 b | .inr b => Zwt zty G b ∧ Zfr G ([] : List (Nat × Nat)) c_10 b)) ?_ ?_ ?_
      · rintro ⟨x0_13, x1_13, x2_13, c_13⟩ hI
        try dsimp only at hI ⊢
        obtain ⟨rfl, rfl, WLc_13, FLc_13, j14, j15⟩ := hI
        unfold g_Search_knownFit_69
        obtain ⟨v16, ev16, lv16, uv16⟩ := gf_7_7 WLc_13 t_a0
        refine wb ev16 ?_
        refine wi (fun hq16 => ?_) (fun hq16 => ?_)
        · have hq16 := i_le hq16
          exact lInr ⟨WLc_13, FLc_13⟩
        · have hq16 := i_nle hq16
          obtain ⟨v18, ev18, tv18⟩ := gf_7_5 WLc_13 t_a0
          refine wb ev18 ?_
          obtain ⟨v19, ev19, tv19⟩ := gf_3_4 WLc_13 tv18
          refine wb ev19 ?_
          obtain ⟨v20, ev20, tv20⟩ := ga_29 WLc_13 tv19 (i := x2_13) (by omega) (by omega)
          refine wb ev20 ?_
          obtain ⟨v21, ev21, lv21, uv21⟩ := gf_2_0 WLc_13 tv20
          refine wb ev21 ?_
          obtain ⟨v22, ev22, lv22, uv22⟩ := gf_2_1 WLc_13 tv20
          refine wb ev22 ?_
          refine wi (fun hq17 => ?_) (fun hq17 => ?_)
          · have := li_1
            have := i_andr (a := ((a1 >>> (v21 &&& 31)) &&& (a1 >>> (v22 &&& 31)))) (b := 1) (by omega)
            have := li_0
            have hq17 := i_eq hq17
            unfold f_Search_knownFit_110
            refine wi (fun hq18 => ?_) (fun hq18 => ?_)
            · have hq18 := i_eq hq18
              unfold f_Search_knownFit_148
              have := i_add (a := x2_13) (b := 1) (by omega) (by omega)
              exact lInl ⟨rfl, rfl, WLc_13, FLc_13, by (try dsimp only); omega, by (try dsimp only); omega⟩ (by (try dsimp only); omega)
            · have hq18 := i_ne hq18
              obtain ⟨v25, ev25, tv25⟩ := gf_2_14 WLc_13 tv20
              refine wb ev25 ?_
              obtain ⟨v26, ev26, tv26⟩ := gf_7_1 WLc_13 t_a0
              refine wb ev26 ?_
              refine wb ev21 ?_
              obtain ⟨v28, ev28, lv28, uv28⟩ := ga_47 WLc_13 tv26 (i := v21) (by omega) (by omega)
              refine wb ev28 ?_
              obtain ⟨v29, ev29, _⟩ := ga_27 WLc_13 tv25 (i := v28) (by omega) (by omega)
              refine wb ev29 ?_
              refine wb ev26 ?_
              refine wb ev22 ?_
              obtain ⟨v32, ev32, lv32, uv32⟩ := ga_47 WLc_13 tv26 (i := v22) (by omega) (by omega)
              refine wb ev32 ?_
              refine wi (fun hq19 => ?_) (fun hq19 => ?_)
              · have := i_andr (a := (v29 >>> (v32 &&& 31))) (b := 1) (by omega)
                have hq19 := i_eq hq19
                exact lInr ⟨WLc_13, FLc_13⟩
              · have := i_andr (a := (v29 >>> (v32 &&& 31))) (b := 1) (by omega)
                have hq19 := i_ne hq19
                unfold f_Search_knownFit_148
                have := i_add (a := x2_13) (b := 1) (by omega) (by omega)
                exact lInl ⟨rfl, rfl, WLc_13, FLc_13, by (try dsimp only); omega, by (try dsimp only); omega⟩ (by (try dsimp only); omega)
          · have := li_1
            have := i_andr (a := ((a1 >>> (v21 &&& 31)) &&& (a1 >>> (v22 &&& 31)))) (b := 1) (by omega)
            have := li_0
            have hq17 := i_ne hq17
            unfold f_Search_knownFit_110
            refine wi (fun hq20 => ?_) (fun hq20 => ?_)
            · have hq20 := i_eq hq20
              unfold f_Search_knownFit_148
              have := i_add (a := x2_13) (b := 1) (by omega) (by omega)
              exact lInl ⟨rfl, rfl, WLc_13, FLc_13, by (try dsimp only); omega, by (try dsimp only); omega⟩ (by (try dsimp only); omega)
            · have hq20 := i_ne hq20
              obtain ⟨v25, ev25, tv25⟩ := gf_2_14 WLc_13 tv20
              refine wb ev25 ?_
              obtain ⟨v26, ev26, tv26⟩ := gf_7_1 WLc_13 t_a0
              refine wb ev26 ?_
              refine wb ev21 ?_
              obtain ⟨v28, ev28, lv28, uv28⟩ := ga_47 WLc_13 tv26 (i := v21) (by omega) (by omega)
              refine wb ev28 ?_
              obtain ⟨v29, ev29, _⟩ := ga_27 WLc_13 tv25 (i := v28) (by omega) (by omega)
              refine wb ev29 ?_
              refine wb ev26 ?_
              refine wb ev22 ?_
              obtain ⟨v32, ev32, lv32, uv32⟩ := ga_47 WLc_13 tv26 (i := v22) (by omega) (by omega)
              refine wb ev32 ?_
              refine wi (fun hq21 => ?_) (fun hq21 => ?_)
              · have := i_andr (a := (v29 >>> (v32 &&& 31))) (b := 1) (by omega)
                have hq21 := i_eq hq21
                exact lInr ⟨WLc_13, FLc_13⟩
              · have := i_andr (a := (v29 >>> (v32 &&& 31))) (b := 1) (by omega)
                have hq21 := i_ne hq21
                unfold f_Search_knownFit_148
                have := i_add (a := x2_13) (b := 1) (by omega) (by omega)
                exact lInl ⟨rfl, rfl, WLc_13, FLc_13, by (try dsimp only); omega, by (try dsimp only); omega⟩ (by (try dsimp only); omega)
      · exact ⟨rfl, rfl, WXc_10, Zfr.rf, by (try dsimp only); omega, by (try dsimp only); omega⟩
      · (try dsimp only); omega
    obtain ⟨b, eb, hb⟩ := L12
    refine wb eb ?_
    clear eb
    rcases b with b | b
    · obtain c_22 := b
      try dsimp only at hb ⊢
      obtain ⟨WXc_22, FXc_22⟩ := hb
      have F23 := Zfr.tr F11 FXc_22 (by decide)
      have := li_0
      exact wz (rgi (by omega) (by omega)) ⟨WXc_22, F23, by (try dsimp only); omega, by (try dsimp only); omega⟩
    · obtain c_24 := b
      try dsimp only at hb ⊢
      obtain ⟨WXc_24, FXc_24⟩ := hb
      have F25 := Zfr.tr F11 FXc_24 (by decide)
      have := li_1
      exact wz (rgi (by omega) (by omega)) ⟨WXc_24, F25, by (try dsimp only); omega, by (try dsimp only); omega⟩

end ZzT
