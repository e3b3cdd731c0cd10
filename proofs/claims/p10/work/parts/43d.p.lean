section ZzT
abbrev M_Search_fits : List (Nat × Nat) := [(7, 5), (7, 6), (7, 7), (7, 8), (7, 9), (7, 10), (7, 11), (47, 0), (48, 0), (49, 0), (50, 0)]
set_option maxRecDepth 100000 in
set_option maxHeartbeats 400000 in
theorem p_Search_fits {nf : Nat} (hn : 8589934592 ≤ nf) {G : List Nat} {c : Zc} (W : Zwt zty G c) {a0 : Nat} {a1 : Nat} {a2 : Int32}  (t_a0 : G[a0]? = some 7) (t_a1 : G[a1]? = some 3) (pl_a2 : 0 ≤ a2.toInt) (pu_a2 : a2.toInt ≤ 69) : ∃ q, f_Search_fits nf a0 a1 a2 c = some q ∧ Zwt zty G q.2 ∧ Zfr G M_Search_fits c q.2 ∧ 0 ≤ q.1.toInt ∧ q.1.toInt ≤ 1 := by
  have F0 : Zfr G M_Search_fits c c := Zfr.rf
  unfold f_Search_fits
  obtain ⟨w2, ew2⟩ := go_7 W t_a0
  refine wb ew2 ?_
  obtain ⟨q1, eq1, Wq1, fq1⟩ := p_Search_begin hn W (a2 := a2) t_a0 t_a1 (by omega) (by omega)
  refine wb eq1 ?_
  have F1 := Zfr.tr F0 fq1 (by decide)
  obtain ⟨v3, ev3, tv3⟩ := gf_3_9 Wq1 t_a1
  refine wb ev3 ?_
  have := li_0
  obtain ⟨v4, ev4, _⟩ := ga_32 Wq1 tv3 (i := 0) (by omega) (by omega)
  refine wb ev4 ?_
  obtain ⟨w6, ew6⟩ := go_7 Wq1 t_a0
  refine wb ew6 ?_
  obtain ⟨q5, eq5, Wq5, fq5, pl0q5, pu0q5⟩ := p_Search_knownFit hn Wq1 (a1 := v4) t_a0
  refine wb eq5 ?_
  have F2 := Zfr.tr F1 fq5 (by decide)
  refine wi (fun hq3 => ?_) (fun hq3 => ?_)
  · have hq3 := i_eq hq3
    unfold f_Search_fits_37
    unfold f_Search_fits_38
    exact wz (rgi (by omega) (by omega)) ⟨Wq5, F2, by (try dsimp only); omega, by (try dsimp only); omega⟩
  · have hq3 := i_ne hq3
    obtain ⟨v8, ev8, lv8, uv8⟩ := gf_7_10 Wq5 t_a0
    refine wb ev8 ?_
    refine wi (fun hq4 => ?_) (fun hq4 => ?_)
    · have hq4 := i_eq hq4
      unfold f_Search_fits_33
      unfold f_Search_fits_38
      have := li_1
      exact wz (rgi (by omega) (by omega)) ⟨Wq5, F2, by (try dsimp only); omega, by (try dsimp only); omega⟩
    · have hq4 := i_ne hq4
      obtain ⟨w11, ew11⟩ := go_7 Wq5 t_a0
      refine wb ew11 ?_
      obtain ⟨q10, eq10, Wq10, fq10, pl0q10, pu0q10⟩ := p_Search_next hn Wq5  t_a0
      refine wb eq10 ?_
      have F5 := Zfr.tr F2 fq10 (by decide)
      refine wi (fun hq6 => ?_) (fun hq6 => ?_)
      · have hq6 := i_eq hq6
        unfold f_Search_fits_37
        unfold f_Search_fits_38
        exact wz (rgi (by omega) (by omega)) ⟨Wq10, F5, by (try dsimp only); omega, by (try dsimp only); omega⟩
      · have hq6 := i_ne hq6
        unfold f_Search_fits_33
        unfold f_Search_fits_38
        have := li_1
        exact wz (rgi (by omega) (by omega)) ⟨Wq10, F5, by (try dsimp only); omega, by (try dsimp only); omega⟩

end ZzT
