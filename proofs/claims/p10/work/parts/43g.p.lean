section ZzT
abbrev M_Finder_nextRow : List (Nat × Nat) := [(7, 5), (7, 6), (7, 7), (7, 8), (7, 9), (7, 10), (7, 11), (47, 0), (48, 0), (49, 0), (50, 0), (51, 0)]
set_option maxRecDepth 100000 in
set_option maxHeartbeats 400000 in
theorem p_Finder_nextRow {nf : Nat} (hn : 8589934592 ≤ nf) {G : List Nat} {c : Zc} (W : Zwt zty G c) {a0 : Nat}  (t_a0 : G[a0]? = some 8) : ∃ q, f_Finder_nextRow nf a0 c = some q ∧ Zwt zty G q.2 ∧ Zfr G M_Finder_nextRow c q.2 ∧ 0 ≤ q.1.toInt ∧ q.1.toInt ≤ 1 := by
  have F0 : Zfr G M_Finder_nextRow c c := Zfr.rf
  unfold f_Finder_nextRow
  unfold f_Finder_nextRow_2
  have := li_0
  have L1 : ∃ b, zlp (fun a : Nat × Int32 × Zc => g_Finder_nextRow_2 nf a.1 a.2.1 a.2.2) nf (a0, 0, c) = some b ∧ (fun b : ((Zc) ⊕ (Zc)) => (match b with | .inl b => Zwt zty G b ∧ Zfr G ([(7, 5), (7, 6), (7, 7), (7, 8), (7, 9), (7, 10), (7, 11), (47, 0), (48, 0), (49, 0), (50, 0), (51, 0)] : List (Nat × Nat)) c b | .inr b => Zwt zty G b ∧ Zfr G ([(7, 5), (7, 6), (7, 7), (7, 8), (7, 9), (7, 10), (7, 11), (47, 0), (48, 0), (49, 0), (50, 0), (51, 0)] : List (Nat × Nat)) c b)) b := by
    refine wlp (fun a : Nat × Int32 × Zc => a0 = a.1 ∧ Zwt zty G a.2.2 ∧ Zfr G ([(7, 5), (7, 6), (7, 7), (7, 8), (7, 9), (7, 10), (7, 11), (47, 0), (48, 0), (49, 0), (50, 0), (51, 0)] : List (Nat × Nat)) c a.2.2 ∧ 0 ≤ a.2.1.toInt ∧ a.2.1.toInt ≤ 1000000) (fun a => (1000000 - a.2.1.toInt).toNat) (fun b : ((Zc) ⊕ (Zc)) => (match b with | .inl b => Zwt zty G b ∧ Zfr G ([(7, 5), (7, 6), (7, 7), (7, 8), (7, 9), (7, 10), (7, 11), (47, 0), (48, 0), (49, 0), (50, 0), (51, 0)] : List (Nat × Nat)) c b | .inr b => Zwt zty G b ∧ Zfr G ([(7, 5), (7, 6), (7, 7), (7, 8), (7, 9), (7, 10), (7, 11), (47, 0), (48, 0), (49, 0), (50, 0), (51, 0)] : List (Nat × Nat)) c b)) ?_ ?_ ?_
    · rintro ⟨x0_2, x1_2, c_2⟩ hI
      try dsimp only at hI ⊢
      obtain ⟨rfl, WLc_2, FLc_2, j3, j4⟩ := hI
      unfold g_Finder_nextRow_2
      refine wi (fun hq5 => ?_) (fun hq5 => ?_)
      · have := li_1000000
        have hq5 := i_le hq5
        exact lInr ⟨WLc_2, FLc_2⟩
      · have := li_1000000
        have hq5 := i_nle hq5
        obtain ⟨v2, ev2, tv2⟩ := gf_8_2 WLc_2 t_a0
        refine wb ev2 ?_
        obtain ⟨w4, ew4⟩ := go_7 WLc_2 tv2
        refine wb ew4 ?_
        obtain ⟨q3, eq3, Wq3, fq3, pl0q3, pu0q3⟩ := p_Search_next hn WLc_2  tv2
        refine wb eq3 ?_
        have F6 := Zfr.tr FLc_2 fq3 (by decide)
        refine wi (fun hq7 => ?_) (fun hq7 => ?_)
        · have hq7 := i_eq hq7
          exact lInr ⟨Wq3, F6⟩
        · have hq7 := i_ne hq7
          obtain ⟨v6, ev6, tv6⟩ := gf_8_8 Wq3 t_a0
          refine wb ev6 ?_
          obtain ⟨v7, ev7, lv7, uv7⟩ := gf_3_14 Wq3 tv6
          refine wb ev7 ?_
          refine wi (fun hq8 => ?_) (fun hq8 => ?_)
          · have hq8 := i_eq hq8
            exact lInr ⟨Wq3, F6⟩
          · have hq8 := i_ne hq8
            refine wb ev6 ?_
            refine wb ev7 ?_
            obtain ⟨w12, ew12⟩ := go_8 Wq3 t_a0
            refine wb ew12 ?_
            obtain ⟨q11, eq11, Wq11, fq11⟩ := p_Finder_evaluate hn Wq3 (a1 := 0) (a2 := v7) t_a0 (by omega) (by omega) (by omega) (by omega)
            refine wb eq11 ?_
            have F9 := Zfr.tr F6 fq11 (by decide)
            refine wi (fun hq10 => ?_) (fun hq10 => ?_)
            · have := i_ge q11.1
              have := i_up q11.1
              have hq10 := i_eq hq10
              have := li_1
              have := i_add (a := x1_2) (b := 1) (by omega) (by omega)
              exact lInl ⟨rfl, Wq11, F9, by (try dsimp only); omega, by (try dsimp only); omega⟩ (by (try dsimp only); omega)
            · have := i_ge q11.1
              have := i_up q11.1
              have hq10 := i_ne hq10
              exact lInr ⟨Wq11, F9⟩
    · exact ⟨rfl, W, Zfr.rf, by (try dsimp only); omega, by (try dsimp only); omega⟩
    · (try dsimp only); omega
  obtain ⟨b, eb, hb⟩ := L1
  refine wb eb ?_
  clear eb
  rcases b with b | b
  · obtain c_11 := b
    try dsimp only at hb ⊢
    obtain ⟨WXc_11, FXc_11⟩ := hb
    have F12 := Zfr.tr F0 FXc_11 (by decide)
    unfold f_Finder_nextRow_43
    have := li_1
    exact wz (rgi (by omega) (by omega)) ⟨WXc_11, F12, by (try dsimp only); omega, by (try dsimp only); omega⟩
  · obtain c_13 := b
    try dsimp only at hb ⊢
    obtain ⟨WXc_13, FXc_13⟩ := hb
    have F14 := Zfr.tr F0 FXc_13 (by decide)
    unfold f_Finder_nextRow_51
    exact wz (rgi (by omega) (by omega)) ⟨WXc_13, F14, by (try dsimp only); omega, by (try dsimp only); omega⟩

abbrev M_RuleBook_has : List (Nat × Nat) := []
set_option maxRecDepth 100000 in
set_option maxHeartbeats 400000 in
theorem p_RuleBook_has {nf : Nat} (hn : 8589934592 ≤ nf) {G : List Nat} {c : Zc} (W : Zwt zty G c) {a0 : Nat} {a1 : Int32}  (t_a0 : G[a0]? = some 9) (pl_a1 : 0 ≤ a1.toInt) (pu_a1 : a1.toInt ≤ 3) : ∃ q, f_RuleBook_has nf a0 a1 c = some q ∧ Zwt zty G q.2 ∧ Zfr G M_RuleBook_has c q.2 ∧ 0 ≤ q.1.toInt ∧ q.1.toInt ≤ 1 := by
  have F0 : Zfr G M_RuleBook_has c c := Zfr.rf
  unfold f_RuleBook_has
  obtain ⟨v1, ev1, tv1⟩ := gf_9_0 W t_a0
  refine wb ev1 ?_
  obtain ⟨v2, ev2, tv2⟩ := ga_55 W tv1 (i := a1) (by omega) (by omega)
  refine wb ev2 ?_
  obtain ⟨v3, ev3, lv3, uv3⟩ := gf_3_0 W tv2
  refine wb ev3 ?_
  exact wz (rgi (by omega) (by omega)) ⟨W, F0, by (try dsimp only); omega, by (try dsimp only); omega⟩

abbrev M_RuleBook_replace : List (Nat × Nat) := [(55, 0)]
set_option maxRecDepth 100000 in
set_option maxHeartbeats 400000 in
theorem p_RuleBook_replace {nf : Nat} (hn : 8589934592 ≤ nf) {G : List Nat} {c : Zc} (W : Zwt zty G c) {a0 : Nat} {a1 : Nat}  (t_a0 : G[a0]? = some 9) (t_a1 : G[a1]? = some 3) : ∃ q, f_RuleBook_replace nf a0 a1 c = some q ∧ Zwt zty G q.2 ∧ Zfr G M_RuleBook_replace c q.2 ∧ G[q.1]? = some 3 := by
  have F0 : Zfr G M_RuleBook_replace c c := Zfr.rf
  unfold f_RuleBook_replace
  obtain ⟨v1, ev1, tv1⟩ := gf_9_0 W t_a0
  refine wb ev1 ?_
  obtain ⟨v2, ev2, lv2, uv2⟩ := gf_3_1 W t_a1
  refine wb ev2 ?_
  obtain ⟨v3, ev3, tv3⟩ := ga_55 W tv1 (i := v2) (by omega) (by omega)
  refine wb ev3 ?_
  refine wb ev1 ?_
  refine wb ev2 ?_
  obtain ⟨c6, ec6, Wc6, fc6, gc6⟩ := pa_55 W tv1 (i := v2) (by omega) (by omega) t_a1
  refine wb ec6 ?_
  have F1 := Zfr.tr F0 fc6 (by decide)
  exact ⟨_, rfl, Wc6, F1, tv3⟩

abbrev M_RuleBook_standing : List (Nat × Nat) := []
set_option maxRecDepth 100000 in
set_option maxHeartbeats 400000 in
theorem p_RuleBook_standing {nf : Nat} (hn : 8589934592 ≤ nf) {G : List Nat} {c : Zc} (W : Zwt zty G c) {a0 : Nat}  (t_a0 : G[a0]? = some 9) : ∃ q, f_RuleBook_standing nf a0 c = some q ∧ Zwt zty G q.2 ∧ Zfr G M_RuleBook_standing c q.2 := by
  have F0 : Zfr G M_RuleBook_standing c c := Zfr.rf
  unfold f_RuleBook_standing
  unfold f_RuleBook_standing_4
  have := li_0
  have L1 : ∃ b, zlp (fun a : Nat × Int32 × Int32 × Zc => g_RuleBook_standing_4 nf a.1 a.2.1 a.2.2.1 a.2.2.2) nf (a0, 0, 0, c) = some b ∧ (fun b : (Int32 × Zc) => Zwt zty G b.2 ∧ Zfr G ([] : List (Nat × Nat)) c b.2) b := by
    refine wlp (fun a : Nat × Int32 × Int32 × Zc => a0 = a.1 ∧ Zwt zty G a.2.2.2 ∧ Zfr G ([] : List (Nat × Nat)) c a.2.2.2 ∧ 0 ≤ a.2.2.1.toInt ∧ a.2.2.1.toInt ≤ 4) (fun a => (4 - a.2.2.1.toInt).toNat) (fun b : (Int32 × Zc) => Zwt zty G b.2 ∧ Zfr G ([] : List (Nat × Nat)) c b.2) ?_ ?_ ?_
    · rintro ⟨x0_2, x1_2, x2_2, c_2⟩ hI
      try dsimp only at hI ⊢
      obtain ⟨rfl, WLc_2, FLc_2, j3, j4⟩ := hI
      unfold g_RuleBook_standing_4
      refine wi (fun hq5 => ?_) (fun hq5 => ?_)
      · have := li_4
        have hq5 := i_le hq5
        exact lInr ⟨WLc_2, FLc_2⟩
      · have := li_4
        have hq5 := i_nle hq5
        obtain ⟨v2, ev2, tv2⟩ := gf_9_0 WLc_2 t_a0
        refine wb ev2 ?_
        obtain ⟨v3, ev3, tv3⟩ := ga_55 WLc_2 tv2 (i := x2_2) (by omega) (by omega)
        refine wb ev3 ?_
        obtain ⟨v4, ev4, lv4, uv4⟩ := gf_3_0 WLc_2 tv3
        refine wb ev4 ?_
        refine wi (fun hq6 => ?_) (fun hq6 => ?_)
        · have hq6 := i_eq hq6
          unfold f_RuleBook_standing_24
          have := li_1
          have := i_add (a := x2_2) (b := 1) (by omega) (by omega)
          exact lInl ⟨rfl, WLc_2, FLc_2, by (try dsimp only); omega, by (try dsimp only); omega⟩ (by (try dsimp only); omega)
        · have hq6 := i_ne hq6
          unfold f_RuleBook_standing_24
          have := li_1
          have := i_add (a := x2_2) (b := 1) (by omega) (by omega)
          exact lInl ⟨rfl, WLc_2, FLc_2, by (try dsimp only); omega, by (try dsimp only); omega⟩ (by (try dsimp only); omega)
    · exact ⟨rfl, W, Zfr.rf, by (try dsimp only); omega, by (try dsimp only); omega⟩
    · (try dsimp only); omega
  obtain ⟨b, eb, hb⟩ := L1
  refine wb eb ?_
  clear eb
  obtain ⟨z0_7, c_7⟩ := b
  try dsimp only at hb ⊢
  obtain ⟨WXc_7, FXc_7⟩ := hb
  have F8 := Zfr.tr F0 FXc_7 (by decide)
  exact ⟨_, rfl, WXc_7, F8⟩

abbrev M_RuleBook_isOneLarge : List (Nat × Nat) := []
set_option maxRecDepth 100000 in
set_option maxHeartbeats 400000 in
theorem p_RuleBook_isOneLarge {nf : Nat} (hn : 8589934592 ≤ nf) {G : List Nat} {c : Zc} (W : Zwt zty G c) {a0 : Nat}  (t_a0 : G[a0]? = some 9) : ∃ q, f_RuleBook_isOneLarge nf a0 c = some q ∧ Zwt zty G q.2 ∧ Zfr G M_RuleBook_isOneLarge c q.2 ∧ 0 ≤ q.1.toInt ∧ q.1.toInt ≤ 1 := by
  have F0 : Zfr G M_RuleBook_isOneLarge c c := Zfr.rf
  unfold f_RuleBook_isOneLarge
  unfold f_RuleBook_isOneLarge_2
  have := li_0
  have L1 : ∃ b, zlp (fun a : Nat × Int32 × Zc => g_RuleBook_isOneLarge_2 nf a.1 a.2.1 a.2.2) nf (a0, 0, c) = some b ∧ (fun b : ((Zc) ⊕ (Zc)) => (match b with | .inl b => Zwt zty G b ∧ Zfr G ([] : List (Nat × Nat)) c b | .inr b => Zwt zty G b ∧ Zfr G ([] : List (Nat × Nat)) c b)) b := by
    refine wlp (fun a : Nat × Int32 × Zc => a0 = a.1 ∧ Zwt zty G a.2.2 ∧ Zfr G ([] : List (Nat × Nat)) c a.2.2 ∧ 0 ≤ a.2.1.toInt ∧ a.2.1.toInt ≤ 4) (fun a => (4 - a.2.1.toInt).toNat) (fun b : ((Zc) ⊕ (Zc)) => (match b with | .inl b => Zwt zty G b ∧ Zfr G ([] : List (Nat × Nat)) c b | .inr b => Zwt zty G b ∧ Zfr G ([] : List (Nat × Nat)) c b)) ?_ ?_ ?_
    · rintro ⟨x0_2, x1_2, c_2⟩ hI
      try dsimp only at hI ⊢
      obtain ⟨rfl, WLc_2, FLc_2, j3, j4⟩ := hI
      unfold g_RuleBook_isOneLarge_2
      refine wi (fun hq5 => ?_) (fun hq5 => ?_)
      · have := li_4
        have hq5 := i_le hq5
        exact lInr ⟨WLc_2, FLc_2⟩
      · have := li_4
        have hq5 := i_nle hq5
        obtain ⟨v2, ev2, tv2⟩ := gf_9_0 WLc_2 t_a0
        refine wb ev2 ?_
        obtain ⟨v3, ev3, tv3⟩ := ga_55 WLc_2 tv2 (i := x1_2) (by omega) (by omega)
        refine wb ev3 ?_
        obtain ⟨v4, ev4, lv4, uv4⟩ := gf_3_0 WLc_2 tv3
        refine wb ev4 ?_
        refine wi (fun hq6 => ?_) (fun hq6 => ?_)
        · have hq6 := i_eq hq6
          unfold f_RuleBook_isOneLarge_44
          have := li_1
          have := i_add (a := x1_2) (b := 1) (by omega) (by omega)
          exact lInl ⟨rfl, WLc_2, FLc_2, by (try dsimp only); omega, by (try dsimp only); omega⟩ (by (try dsimp only); omega)
        · have hq6 := i_ne hq6
          refine wb ev2 ?_
          refine wb ev3 ?_
          obtain ⟨v8, ev8, tv8⟩ := gf_9_1 WLc_2 t_a0
          refine wb ev8 ?_
          obtain ⟨v9, ev9, lv9, uv9⟩ := gf_1_7 WLc_2 tv8
          refine wb ev9 ?_
          obtain ⟨w11, ew11⟩ := go_3 WLc_2 tv3
          refine wb ew11 ?_
          obtain ⟨q10, eq10, Wq10, fq10⟩ := p_Text_work hn WLc_2 (a1 := v9) tv3
          refine wb eq10 ?_
          have F7 := Zfr.tr FLc_2 fq10 (by decide)
          refine wi (fun hq8 => ?_) (fun hq8 => ?_)
          · have hq8 := i_le hq8
            unfold f_RuleBook_isOneLarge_44
            have := li_1
            have := i_add (a := x1_2) (b := 1) (by omega) (by omega)
            exact lInl ⟨rfl, Wq10, F7, by (try dsimp only); omega, by (try dsimp only); omega⟩ (by (try dsimp only); omega)
          · have hq8 := i_nle hq8
            exact lInr ⟨Wq10, F7⟩
    · exact ⟨rfl, W, Zfr.rf, by (try dsimp only); omega, by (try dsimp only); omega⟩
    · (try dsimp only); omega
  obtain ⟨b, eb, hb⟩ := L1
  refine wb eb ?_
  clear eb
  rcases b with b | b
  · obtain c_9 := b
    try dsimp only at hb ⊢
    obtain ⟨WXc_9, FXc_9⟩ := hb
    have F10 := Zfr.tr F0 FXc_9 (by decide)
    have := li_1
    exact wz (rgi (by omega) (by omega)) ⟨WXc_9, F10, by (try dsimp only); omega, by (try dsimp only); omega⟩
  · obtain c_11 := b
    try dsimp only at hb ⊢
    obtain ⟨WXc_11, FXc_11⟩ := hb
    have F12 := Zfr.tr F0 FXc_11 (by decide)
    exact wz (rgi (by omega) (by omega)) ⟨WXc_11, F12, by (try dsimp only); omega, by (try dsimp only); omega⟩

abbrev M_RuleBook_workOfAll : List (Nat × Nat) := []
set_option maxRecDepth 100000 in
set_option maxHeartbeats 400000 in
theorem p_RuleBook_workOfAll {nf : Nat} (hn : 8589934592 ≤ nf) {G : List Nat} {c : Zc} (W : Zwt zty G c) {a0 : Nat}  (t_a0 : G[a0]? = some 9) : ∃ q, f_RuleBook_workOfAll nf a0 c = some q ∧ Zwt zty G q.2 ∧ Zfr G M_RuleBook_workOfAll c q.2 := by
  have F0 : Zfr G M_RuleBook_workOfAll c c := Zfr.rf
  unfold f_RuleBook_workOfAll
  unfold f_RuleBook_workOfAll_4
  have := li_0
  have L1 : ∃ b, zlp (fun a : Nat × Int64 × Int32 × Zc => g_RuleBook_workOfAll_4 nf a.1 a.2.1 a.2.2.1 a.2.2.2) nf (a0, 0, 0, c) = some b ∧ (fun b : (Int64 × Zc) => Zwt zty G b.2 ∧ Zfr G ([] : List (Nat × Nat)) c b.2) b := by
    refine wlp (fun a : Nat × Int64 × Int32 × Zc => a0 = a.1 ∧ Zwt zty G a.2.2.2 ∧ Zfr G ([] : List (Nat × Nat)) c a.2.2.2 ∧ 0 ≤ a.2.2.1.toInt ∧ a.2.2.1.toInt ≤ 4) (fun a => (4 - a.2.2.1.toInt).toNat) (fun b : (Int64 × Zc) => Zwt zty G b.2 ∧ Zfr G ([] : List (Nat × Nat)) c b.2) ?_ ?_ ?_
    · rintro ⟨x0_2, x1_2, x3_2, c_2⟩ hI
      try dsimp only at hI ⊢
      obtain ⟨rfl, WLc_2, FLc_2, j3, j4⟩ := hI
      unfold g_RuleBook_workOfAll_4
      refine wi (fun hq5 => ?_) (fun hq5 => ?_)
      · have := li_4
        have hq5 := i_le hq5
        exact lInr ⟨WLc_2, FLc_2⟩
      · have := li_4
        have hq5 := i_nle hq5
        obtain ⟨v2, ev2, tv2⟩ := gf_9_0 WLc_2 t_a0
        refine wb ev2 ?_
        obtain ⟨v3, ev3, tv3⟩ := ga_55 WLc_2 tv2 (i := x3_2) (by omega) (by omega)
        refine wb ev3 ?_
        obtain ⟨v4, ev4, lv4, uv4⟩ := gf_3_0 WLc_2 tv3
        refine wb ev4 ?_
        refine wi (fun hq6 => ?_) (fun hq6 => ?_)
        · have hq6 := i_eq hq6
          unfold f_RuleBook_workOfAll_40
          have := li_1
          have := i_add (a := x3_2) (b := 1) (by omega) (by omega)
          exact lInl ⟨rfl, WLc_2, FLc_2, by (try dsimp only); omega, by (try dsimp only); omega⟩ (by (try dsimp only); omega)
        · have hq6 := i_ne hq6
          refine wb ev2 ?_
          refine wb ev3 ?_
          obtain ⟨v8, ev8, tv8⟩ := gf_9_1 WLc_2 t_a0
          refine wb ev8 ?_
          obtain ⟨v9, ev9, lv9, uv9⟩ := gf_1_7 WLc_2 tv8
          refine wb ev9 ?_
          obtain ⟨w11, ew11⟩ := go_3 WLc_2 tv3
          refine wb ew11 ?_
          obtain ⟨q10, eq10, Wq10, fq10⟩ := p_Text_work hn WLc_2 (a1 := v9) tv3
          refine wb eq10 ?_
          have F7 := Zfr.tr FLc_2 fq10 (by decide)
          unfold f_RuleBook_workOfAll_40
          have := li_1
          have := i_add (a := x3_2) (b := 1) (by omega) (by omega)
          exact lInl ⟨rfl, Wq10, F7, by (try dsimp only); omega, by (try dsimp only); omega⟩ (by (try dsimp only); omega)
    · exact ⟨rfl, W, Zfr.rf, by (try dsimp only); omega, by (try dsimp only); omega⟩
    · (try dsimp only); omega
  obtain ⟨b, eb, hb⟩ := L1
  refine wb eb ?_
  clear eb
  obtain ⟨z0_8, c_8⟩ := b
  try dsimp only at hb ⊢
  obtain ⟨WXc_8, FXc_8⟩ := hb
  have F9 := Zfr.tr F0 FXc_8 (by decide)
  exact ⟨_, rfl, WXc_8, F9⟩

abbrev M_RuleBook_forgetRuled : List (Nat × Nat) := [(2, 17)]
set_option maxRecDepth 100000 in
set_option maxHeartbeats 400000 in
theorem p_RuleBook_forgetRuled {nf : Nat} (hn : 8589934592 ≤ nf) {G : List Nat} {c : Zc} (W : Zwt zty G c) {a0 : Nat}  (t_a0 : G[a0]? = some 3) : ∃ q, f_RuleBook_forgetRuled nf a0 c = some q ∧ Zwt zty G q ∧ Zfr G M_RuleBook_forgetRuled c q := by
  have F0 : Zfr G M_RuleBook_forgetRuled c c := Zfr.rf
  unfold f_RuleBook_forgetRuled
  unfold f_RuleBook_forgetRuled_2
  have := li_0
  have L1 : ∃ b, zlp (fun a : Nat × Int32 × Zc => g_RuleBook_forgetRuled_2 nf a.1 a.2.1 a.2.2) nf (a0, 0, c) = some b ∧ (fun b : (Zc) => Zwt zty G b ∧ Zfr G ([(2, 17)] : List (Nat × Nat)) c b) b := by
    refine wlp (fun a : Nat × Int32 × Zc => a0 = a.1 ∧ Zwt zty G a.2.2 ∧ Zfr G ([(2, 17)] : List (Nat × Nat)) c a.2.2 ∧ 0 ≤ a.2.1.toInt ∧ a.2.1.toInt ≤ 10) (fun a => (10 - a.2.1.toInt).toNat) (fun b : (Zc) => Zwt zty G b ∧ Zfr G ([(2, 17)] : List (Nat × Nat)) c b) ?_ ?_ ?_
    · rintro ⟨x0_2, x1_2, c_2⟩ hI
      try dsimp only at hI ⊢
      obtain ⟨rfl, WLc_2, FLc_2, j3, j4⟩ := hI
      unfold g_RuleBook_forgetRuled_2
      obtain ⟨v1, ev1, lv1, uv1⟩ := gf_3_3 WLc_2 t_a0
      refine wb ev1 ?_
      refine wi (fun hq5 => ?_) (fun hq5 => ?_)
      · have hq5 := i_le hq5
        exact lInr ⟨WLc_2, FLc_2⟩
      · have hq5 := i_nle hq5
        obtain ⟨v3, ev3, tv3⟩ := gf_3_4 WLc_2 t_a0
        refine wb ev3 ?_
        obtain ⟨v4, ev4, tv4⟩ := ga_29 WLc_2 tv3 (i := x1_2) (by omega) (by omega)
        refine wb ev4 ?_
        obtain ⟨v5, ev5, lv5, uv5⟩ := gf_2_4 WLc_2 tv4
        refine wb ev5 ?_
        refine wi (fun hq6 => ?_) (fun hq6 => ?_)
        · have hq6 := i_eq hq6
          unfold f_RuleBook_forgetRuled_32
          have := li_1
          have := i_add (a := x1_2) (b := 1) (by omega) (by omega)
          exact lInl ⟨rfl, WLc_2, FLc_2, by (try dsimp only); omega, by (try dsimp only); omega⟩ (by (try dsimp only); omega)
        · have hq6 := i_ne hq6
          refine wb ev3 ?_
          refine wb ev4 ?_
          obtain ⟨c9, ec9, Wc9, fc9, gc9⟩ := pf_2_17 WLc_2 tv4 (x := (-1)) (trivial)
          refine wb ec9 ?_
          have F7 := Zfr.tr FLc_2 fc9 (by decide)
          unfold f_RuleBook_forgetRuled_32
          have := li_1
          have := i_add (a := x1_2) (b := 1) (by omega) (by omega)
          exact lInl ⟨rfl, Wc9, F7, by (try dsimp only); omega, by (try dsimp only); omega⟩ (by (try dsimp only); omega)
    · exact ⟨rfl, W, Zfr.rf, by (try dsimp only); omega, by (try dsimp only); omega⟩
    · (try dsimp only); omega
  obtain ⟨b, eb, hb⟩ := L1
  refine wb eb ?_
  clear eb
  obtain c_8 := b
  try dsimp only at hb ⊢
  obtain ⟨WXc_8, FXc_8⟩ := hb
  have F9 := Zfr.tr F0 FXc_8 (by decide)
  exact ⟨_, rfl, WXc_8, F9⟩

abbrev M_RuleBook_linkAll : List (Nat × Nat) := [(21, 0)]
set_option maxRecDepth 100000 in
set_option maxHeartbeats 400000 in
theorem p_RuleBook_linkAll {nf : Nat} (hn : 8589934592 ≤ nf) {G : List Nat} {c : Zc} (W : Zwt zty G c) {a0 : Nat} {a1 : Int32} {a2 : Int32} {a3 : Int32}  (t_a0 : G[a0]? = some 9) (pl_a1 : 0 ≤ a1.toInt) (pu_a1 : a1.toInt ≤ 12) (pl_a2 : 0 ≤ a2.toInt) (pu_a2 : a2.toInt ≤ 15) : ∃ q, f_RuleBook_linkAll nf a0 a1 a2 a3 c = some q ∧ Zwt zty G q ∧ Zfr G M_RuleBook_linkAll c q := by
  have F0 : Zfr G M_RuleBook_linkAll c c := Zfr.rf
  unfold f_RuleBook_linkAll
  unfold f_RuleBook_linkAll_3
  have := li_0
  have L1 : ∃ b, zlp (fun a : Nat × Int32 × Int32 × Int32 × Int32 × Zc => g_RuleBook_linkAll_3 nf a.1 a.2.1 a.2.2.1 a.2.2.2.1 a.2.2.2.2.1 a.2.2.2.2.2) nf (a0, a1, a2, a3, 0, c) = some b ∧ (fun b : (Zc) => Zwt zty G b ∧ Zfr G ([(21, 0)] : List (Nat × Nat)) c b) b := by
    refine wlp (fun a : Nat × Int32 × Int32 × Int32 × Int32 × Zc => a0 = a.1 ∧ a1 = a.2.1 ∧ a2 = a.2.2.1 ∧ a3 = a.2.2.2.1 ∧ Zwt zty G a.2.2.2.2.2 ∧ Zfr G ([(21, 0)] : List (Nat × Nat)) c a.2.2.2.2.2 ∧ 0 ≤ a.2.2.2.2.1.toInt ∧ a.2.2.2.2.1.toInt ≤ 16) (fun a => (16 - a.2.2.2.2.1.toInt).toNat) (fun b : (Zc) => Zwt zty G b ∧ Zfr G ([(21, 0)] : List (Nat × Nat)) c b) ?_ ?_ ?_
    · rintro ⟨x0_2, x1_2, x2_2, x3_2, x4_2, c_2⟩ hI
      try dsimp only at hI ⊢
      obtain ⟨rfl, rfl, rfl, rfl, WLc_2, FLc_2, j3, j4⟩ := hI
      unfold g_RuleBook_linkAll_3
      obtain ⟨v1, ev1, tv1⟩ := gf_9_1 WLc_2 t_a0
      refine wb ev1 ?_
      obtain ⟨v2, ev2, lv2, uv2⟩ := gf_1_7 WLc_2 tv1
      refine wb ev2 ?_
      refine wi (fun hq5 => ?_) (fun hq5 => ?_)
      · have hq5 := i_le hq5
        exact lInr ⟨WLc_2, FLc_2⟩
      · have hq5 := i_nle hq5
        refine wi (fun hq6 => ?_) (fun hq6 => ?_)
        · have := li_1
          have := i_andr (a := (a3 >>> (x4_2 &&& 31))) (b := 1) (by omega)
          have hq6 := i_eq hq6
          unfold f_RuleBook_linkAll_35
          have := i_add (a := x4_2) (b := 1) (by omega) (by omega)
          exact lInl ⟨rfl, rfl, rfl, rfl, WLc_2, FLc_2, by (try dsimp only); omega, by (try dsimp only); omega⟩ (by (try dsimp only); omega)
        · have := li_1
          have := i_andr (a := (a3 >>> (x4_2 &&& 31))) (b := 1) (by omega)
          have hq6 := i_ne hq6
          refine wb ev1 ?_
          obtain ⟨w7, ew7⟩ := go_1 WLc_2 tv1
          refine wb ew7 ?_
          obtain ⟨q6, eq6, Wq6, fq6⟩ := p_Graph_link hn WLc_2 (a1 := a1) (a2 := a2) (a3 := x4_2) tv1 (by omega) (by omega) (by omega) (by omega) (by omega) (by omega)
          refine wb eq6 ?_
          have F7 := Zfr.tr FLc_2 fq6 (by decide)
          unfold f_RuleBook_linkAll_35
          have := i_add (a := x4_2) (b := 1) (by omega) (by omega)
          exact lInl ⟨rfl, rfl, rfl, rfl, Wq6, F7, by (try dsimp only); omega, by (try dsimp only); omega⟩ (by (try dsimp only); omega)
    · exact ⟨rfl, rfl, rfl, rfl, W, Zfr.rf, by (try dsimp only); omega, by (try dsimp only); omega⟩
    · (try dsimp only); omega
  obtain ⟨b, eb, hb⟩ := L1
  refine wb eb ?_
  clear eb
  obtain c_8 := b
  try dsimp only at hb ⊢
  obtain ⟨WXc_8, FXc_8⟩ := hb
  have F9 := Zfr.tr F0 FXc_8 (by decide)
  exact ⟨_, rfl, WXc_8, F9⟩

abbrev M_RuleBook_goRound : List (Nat × Nat) := [(2, 16), (2, 17), (7, 5), (7, 6), (7, 7), (7, 8), (7, 9), (7, 10), (7, 11), (8, 8), (21, 0), (26, 0), (27, 0), (28, 0), (31, 0), (47, 0), (48, 0), (49, 0), (50, 0), (51, 0), (52, 0), (53, 0), (54, 0), (56, 0)]
set_option maxRecDepth 100000 in
set_option maxHeartbeats 400000 in
theorem p_RuleBook_goRound {nf : Nat} (hn : 8589934592 ≤ nf) {G : List Nat} {c : Zc} (W : Zwt zty G c) {a0 : Nat}  (t_a0 : G[a0]? = some 9) : ∃ q, f_RuleBook_goRound nf a0 c = some q ∧ Zwt zty G q.2 ∧ Zfr G M_RuleBook_goRound c q.2 ∧ 0 ≤ q.1.toInt ∧ q.1.toInt ≤ 1 := by
  have F0 : Zfr G M_RuleBook_goRound c c := Zfr.rf
  unfold f_RuleBook_goRound
  obtain ⟨v1, ev1, tv1⟩ := gf_9_3 W t_a0
  refine wb ev1 ?_
  have := li_0
  obtain ⟨q2, eq2, Wq2, fq2⟩ := p_Arrays_fill__BGained hn W (a1 := 0) tv1
  refine wb eq2 ?_
  have e1 := (Zfr.gr fq2 t_a0 (by decide)).trans ev1
  have F2 := Zfr.tr F0 fq2 (by decide)
  unfold f_RuleBook_goRound_10
  have L3 : ∃ b, zlp (fun a : Nat × Int32 × Zc => g_RuleBook_goRound_10 nf a.1 a.2.1 a.2.2) nf (a0, 0, q2) = some b ∧ (fun b : (Nat × Zc) => a0 = b.1 ∧ Zwt zty G b.2 ∧ Zfr G ([(2, 16), (2, 17), (7, 5), (7, 6), (7, 7), (7, 8), (7, 9), (7, 10), (7, 11), (8, 8), (26, 0), (27, 0), (28, 0), (31, 0), (47, 0), (48, 0), (49, 0), (50, 0), (51, 0), (52, 0), (53, 0), (54, 0), (56, 0)] : List (Nat × Nat)) q2 b.2) b := by
    refine wlp (fun a : Nat × Int32 × Zc => a0 = a.1 ∧ Zwt zty G a.2.2 ∧ Zfr G ([(2, 16), (2, 17), (7, 5), (7, 6), (7, 7), (7, 8), (7, 9), (7, 10), (7, 11), (8, 8), (26, 0), (27, 0), (28, 0), (31, 0), (47, 0), (48, 0), (49, 0), (50, 0), (51, 0), (52, 0), (53, 0), (54, 0), (56, 0)] : List (Nat × Nat)) q2 a.2.2 ∧ 0 ≤ a.2.1.toInt ∧ a.2.1.toInt ≤ 4) (fun a => (4 - a.2.1.toInt).toNat) (fun b : (Nat × Zc) => a0 = b.1 ∧ Zwt zty G b.2 ∧ Zfr G ([(2, 16), (2, 17), (7, 5), (7, 6), (7, 7), (7, 8), (7, 9), (7, 10), (7, 11), (8, 8), (26, 0), (27, 0), (28, 0), (31, 0), (47, 0), (48, 0), (49, 0), (50, 0), (51, 0), (52, 0), (53, 0), (54, 0), (56, 0)] : List (Nat × Nat)) q2 b.2) ?_ ?_ ?_
    · rintro ⟨x0_4, x1_4, c_4⟩ hI
      try dsimp only at hI ⊢
      obtain ⟨rfl, WLc_4, FLc_4, j5, j6⟩ := hI
      have e7 := (Zfr.gr FLc_4 t_a0 (by decide)).trans e1
      unfold g_RuleBook_goRound_10
      refine wi (fun hq8 => ?_) (fun hq8 => ?_)
      · have := li_4
        have hq8 := i_le hq8
        exact lInr ⟨rfl, WLc_4, FLc_4⟩
      · have := li_4
        have hq8 := i_nle hq8
        obtain ⟨v4, ev4, tv4⟩ := gf_9_0 WLc_4 t_a0
        refine wb ev4 ?_
        obtain ⟨v5, ev5, tv5⟩ := ga_55 WLc_4 tv4 (i := x1_4) (by omega) (by omega)
        refine wb ev5 ?_
        obtain ⟨v6, ev6, lv6, uv6⟩ := gf_3_0 WLc_4 tv5
        refine wb ev6 ?_
        refine wi (fun hq9 => ?_) (fun hq9 => ?_)
        · have hq9 := i_eq hq9
          unfold f_RuleBook_goRound_109
          have := li_1
          have := i_add (a := x1_4) (b := 1) (by omega) (by omega)
          exact lInl ⟨rfl, WLc_4, FLc_4, by (try dsimp only); omega, by (try dsimp only); omega⟩ (by (try dsimp only); omega)
        · have hq9 := i_ne hq9
          obtain ⟨q8, eq8, Wq8, fq8⟩ := p_RuleBook_forgetRuled hn WLc_4  tv5
          refine wb eq8 ?_
          have e10 := (Zfr.gr fq8 t_a0 (by decide)).trans e7
          have F11 := Zfr.tr FLc_4 fq8 (by decide)
          obtain ⟨v9, ev9, tv9⟩ := gf_9_2 Wq8 t_a0
          refine wb ev9 ?_
          obtain ⟨w11, ew11⟩ := go_8 Wq8 tv9
          refine wb ew11 ?_
          obtain ⟨q10, eq10, Wq10, fq10⟩ := p_Finder_start hn Wq8  tv9 tv5
          refine wb eq10 ?_
          have e12 := (Zfr.gr fq10 t_a0 (by decide)).trans e10
          have e13 := (Zfr.gr fq10 t_a0 (by decide)).trans ev9
          have F14 := Zfr.tr F11 fq10 (by decide)
          unfold f_RuleBook_goRound_43
          have L15 : ∃ b, zlp (fun a : Nat × Int32 × Nat × Int32 × Zc => g_RuleBook_goRound_43 nf a.1 a.2.1 a.2.2.1 a.2.2.2.1 a.2.2.2.2) nf (a0, x1_4, v5, 0, q10) = some b ∧ (fun b : (Nat × Int32 × Zc) => a0 = b.1 ∧ x1_4 = b.2.1 ∧ Zwt zty G b.2.2 ∧ Zfr G ([(7, 5), (7, 6), (7, 7), (7, 8), (7, 9), (7, 10), (7, 11), (47, 0), (48, 0), (49, 0), (50, 0), (51, 0), (56, 0)] : List (Nat × Nat)) q10 b.2.2) b := by
            refine wlp (fun a : Nat × Int32 × Nat × Int32 × Zc => a0 = a.1 ∧ x1_4 = a.2.1 ∧ v5 = a.2.2.1 ∧ Zwt zty G a.2.2.2.2 ∧ Zfr G ([(7, 5), (7, 6), (7, 7), (7, 8), (7, 9), (7, 10), (7, 11), (47, 0), (48, 0), (49, 0), (50, 0), (51, 0), (56, 0)] : List (Nat × Nat)) q10 a.2.2.2.2 ∧ 0 ≤ a.2.2.2.1.toInt ∧ a.2.2.2.1.toInt ≤ 20000) (fun a => (20000 - a.2.2.2.1.toInt).toNat) (fun b : (Nat × Int32 × Zc) => a0 = b.1 ∧ x1_4 = b.2.1 ∧ Zwt zty G b.2.2 ∧ Zfr G ([(7, 5), (7, 6), (7, 7), (7, 8), (7, 9), (7, 10), (7, 11), (47, 0), (48, 0), (49, 0), (50, 0), (51, 0), (56, 0)] : List (Nat × Nat)) q10 b.2.2) ?_ ?_ ?_
            · rintro ⟨x0_16, x1_16, x2_16, x3_16, c_16⟩ hI
              try dsimp only at hI ⊢
              obtain ⟨rfl, rfl, rfl, WLc_16, FLc_16, j17, j18⟩ := hI
              have e19 := (Zfr.gr FLc_16 t_a0 (by decide)).trans e12
              have e20 := (Zfr.gr FLc_16 t_a0 (by decide)).trans e13
              unfold g_RuleBook_goRound_43
              refine wi (fun hq21 => ?_) (fun hq21 => ?_)
              · have := li_20000
                have hq21 := i_le hq21
                exact lInr ⟨rfl, rfl, WLc_16, FLc_16⟩
              · have := li_20000
                have hq21 := i_nle hq21
                refine wb e20 ?_
                obtain ⟨w15, ew15⟩ := go_8 WLc_16 tv9
                refine wb ew15 ?_
                obtain ⟨q14, eq14, Wq14, fq14, pl0q14, pu0q14⟩ := p_Finder_nextRow hn WLc_16  tv9
                refine wb eq14 ?_
                have e22 := (Zfr.gr fq14 t_a0 (by decide)).trans e19
                have e23 := (Zfr.gr fq14 t_a0 (by decide)).trans e20
                have F24 := Zfr.tr FLc_16 fq14 (by decide)
                refine wi (fun hq25 => ?_) (fun hq25 => ?_)
                · have hq25 := i_eq hq25
                  exact lInr ⟨rfl, rfl, Wq14, F24⟩
                · have hq25 := i_ne hq25
                  refine wb e23 ?_
                  obtain ⟨v18, ev18, tv18⟩ := gf_8_0 Wq14 tv9
                  refine wb ev18 ?_
                  obtain ⟨v19, ev19, lv19, uv19⟩ := gf_3_19 Wq14 tv5
                  refine wb ev19 ?_
                  obtain ⟨v20, ev20, lv20, uv20⟩ := ga_47 Wq14 tv18 (i := v19) (by omega) (by omega)
                  refine wb ev20 ?_
                  refine wb e22 ?_
                  have := li_16
                  have := i_mulr (a := x1_4) (b := 16) (n := 16) li_16 (by omega) (by omega)
                  have := i_add (a := (x1_4 * 16)) (b := v20) (by omega) (by omega)
                  obtain ⟨v22, ev22, _⟩ := ga_56 Wq14 tv1 (i := ((x1_4 * 16) + v20)) (by omega) (by omega)
                  refine wb ev22 ?_
                  refine wb e23 ?_
                  refine wb ev18 ?_
                  obtain ⟨v25, ev25, lv25, uv25⟩ := gf_3_20 Wq14 tv5
                  refine wb ev25 ?_
                  obtain ⟨v26, ev26, lv26, uv26⟩ := ga_47 Wq14 tv18 (i := v25) (by omega) (by omega)
                  refine wb ev26 ?_
                  obtain ⟨c27, ec27, Wc27, fc27, gc27⟩ := pa_56 Wq14 tv1 (i := ((x1_4 * 16) + v20)) (by omega) (by omega) (x := (v22 ||| ((1 : Int32) <<< (v26 &&& 31)))) (trivial)
                  refine wb ec27 ?_
                  have F26 := Zfr.tr F24 fc27 (by decide)
                  have := li_1
                  have := i_add (a := x3_16) (b := 1) (by omega) (by omega)
                  exact lInl ⟨rfl, rfl, rfl, Wc27, F26, by (try dsimp only); omega, by (try dsimp only); omega⟩ (by (try dsimp only); omega)
            · exact ⟨rfl, rfl, rfl, Wq10, Zfr.rf, by (try dsimp only); omega, by (try dsimp only); omega⟩
            · (try dsimp only); omega
          obtain ⟨b, eb, hb⟩ := L15
          refine wb eb ?_
          clear eb
          obtain ⟨z0_27, z1_27, c_27⟩ := b
          try dsimp only at hb ⊢
          obtain ⟨rfl, rfl, WXc_27, FXc_27⟩ := hb
          have F28 := Zfr.tr F14 FXc_27 (by decide)
          unfold f_RuleBook_goRound_109
          have := li_1
          have := i_add (a := x1_4) (b := 1) (by omega) (by omega)
          exact lInl ⟨rfl, WXc_27, F28, by (try dsimp only); omega, by (try dsimp only); omega⟩ (by (try dsimp only); omega)
    · exact ⟨rfl, Wq2, Zfr.rf, by (try dsimp only); omega, by (try dsimp only); omega⟩
    · (try dsimp only); omega
  obtain ⟨b, eb, hb⟩ := L3
  refine wb eb ?_
  clear eb
  obtain ⟨z0_29, c_29⟩ := b
  try dsimp only at hb ⊢
  obtain ⟨rfl, WXc_29, FXc_29⟩ := hb
  have e30 := (Zfr.gr FXc_29 t_a0 (by decide)).trans e1
  have F31 := Zfr.tr F2 FXc_29 (by decide)
  unfold f_RuleBook_goRound_119
  have L32 : ∃ b, zlp (fun a : Nat × Int32 × Int32 × Zc => g_RuleBook_goRound_119 nf a.1 a.2.1 a.2.2.1 a.2.2.2) nf (a0, 0, 0, c_29) = some b ∧ (fun b : (Int32 × Zc) => Zwt zty G b.2 ∧ Zfr G ([(21, 0)] : List (Nat × Nat)) c_29 b.2 ∧ 0 ≤ b.1.toInt ∧ b.1.toInt ≤ 1) b := by
    refine wlp (fun a : Nat × Int32 × Int32 × Zc => a0 = a.1 ∧ Zwt zty G a.2.2.2 ∧ Zfr G ([(21, 0)] : List (Nat × Nat)) c_29 a.2.2.2 ∧ 0 ≤ a.2.1.toInt ∧ a.2.1.toInt ≤ 1 ∧ 0 ≤ a.2.2.1.toInt ∧ a.2.2.1.toInt ≤ 4) (fun a => (4 - a.2.2.1.toInt).toNat) (fun b : (Int32 × Zc) => Zwt zty G b.2 ∧ Zfr G ([(21, 0)] : List (Nat × Nat)) c_29 b.2 ∧ 0 ≤ b.1.toInt ∧ b.1.toInt ≤ 1) ?_ ?_ ?_
    · rintro ⟨x0_33, x1_33, x2_33, c_33⟩ hI
      try dsimp only at hI ⊢
      obtain ⟨rfl, WLc_33, FLc_33, j34, j35, j36, j37⟩ := hI
      have e38 := (Zfr.gr FLc_33 t_a0 (by decide)).trans e30
      unfold g_RuleBook_goRound_119
      refine wi (fun hq39 => ?_) (fun hq39 => ?_)
      · have := li_4
        have hq39 := i_le hq39
        exact lInr ⟨WLc_33, FLc_33, by (try dsimp only); omega, by (try dsimp only); omega⟩
      · have := li_4
        have hq39 := i_nle hq39
        unfold f_RuleBook_goRound_126
        have L40 : ∃ b, zlp (fun a : Nat × Int32 × Int32 × Int32 × Zc => g_RuleBook_goRound_126 nf a.1 a.2.1 a.2.2.1 a.2.2.2.1 a.2.2.2.2) nf (a0, x1_33, x2_33, 0, c_33) = some b ∧ (fun b : (Nat × Int32 × Int32 × Zc) => a0 = b.1 ∧ x2_33 = b.2.2.1 ∧ Zwt zty G b.2.2.2 ∧ Zfr G ([(21, 0)] : List (Nat × Nat)) c_33 b.2.2.2 ∧ 0 ≤ b.2.1.toInt ∧ b.2.1.toInt ≤ 1) b := by
          refine wlp (fun a : Nat × Int32 × Int32 × Int32 × Zc => a0 = a.1 ∧ x2_33 = a.2.2.1 ∧ Zwt zty G a.2.2.2.2 ∧ Zfr G ([(21, 0)] : List (Nat × Nat)) c_33 a.2.2.2.2 ∧ 0 ≤ a.2.1.toInt ∧ a.2.1.toInt ≤ 1 ∧ 0 ≤ a.2.2.2.1.toInt ∧ a.2.2.2.1.toInt ≤ 16) (fun a => (16 - a.2.2.2.1.toInt).toNat) (fun b : (Nat × Int32 × Int32 × Zc) => a0 = b.1 ∧ x2_33 = b.2.2.1 ∧ Zwt zty G b.2.2.2 ∧ Zfr G ([(21, 0)] : List (Nat × Nat)) c_33 b.2.2.2 ∧ 0 ≤ b.2.1.toInt ∧ b.2.1.toInt ≤ 1) ?_ ?_ ?_
          · rintro ⟨x0_41, x1_41, x2_41, x3_41, c_41⟩ hI
            try dsimp only at hI ⊢
            obtain ⟨rfl, rfl, WLc_41, FLc_41, j42, j43, j44, j45⟩ := hI
            have e46 := (Zfr.gr FLc_41 t_a0 (by decide)).trans e38
            unfold g_RuleBook_goRound_126
            obtain ⟨v29, ev29, tv29⟩ := gf_9_1 WLc_41 t_a0
            refine wb ev29 ?_
            obtain ⟨v30, ev30, lv30, uv30⟩ := gf_1_7 WLc_41 tv29
            refine wb ev30 ?_
            refine wi (fun hq47 => ?_) (fun hq47 => ?_)
            · have hq47 := i_le hq47
              exact lInr ⟨rfl, rfl, WLc_41, FLc_41, by (try dsimp only); omega, by (try dsimp only); omega⟩
            · have hq47 := i_nle hq47
              refine wb e46 ?_
              have := li_16
              have := i_mulr (a := x2_33) (b := 16) (n := 16) li_16 (by omega) (by omega)
              have := i_add (a := (x2_33 * 16)) (b := x3_41) (by omega) (by omega)
              obtain ⟨v33, ev33, _⟩ := ga_56 WLc_41 tv1 (i := ((x2_33 * 16) + x3_41)) (by omega) (by omega)
              refine wb ev33 ?_
              refine wb ev29 ?_
              obtain ⟨w36, ew36⟩ := go_1 WLc_41 tv29
              refine wb ew36 ?_
              have := li_8
              have := i_add (a := 8) (b := x2_33) (by omega) (by omega)
              obtain ⟨q35, eq35, Wq35, fq35⟩ := p_Graph_reached hn WLc_41 (a1 := (8 + x2_33)) (a2 := x3_41) tv29 (by omega) (by omega) (by omega) (by omega)
              refine wb eq35 ?_
              have F48 := Zfr.tr FLc_41 fq35 (by decide)
              refine wi (fun hq49 => ?_) (fun hq49 => ?_)
              · have hq49 := i_eq hq49
                unfold f_RuleBook_goRound_176
                obtain ⟨w39, ew39⟩ := go_9 Wq35 t_a0
                refine wb ew39 ?_
                obtain ⟨q38, eq38, Wq38, fq38⟩ := p_RuleBook_linkAll hn Wq35 (a1 := (8 + x2_33)) (a2 := x3_41) (a3 := (v33 &&& (q35.1 ^^^ (-1)))) t_a0 (by omega) (by omega) (by omega) (by omega)
                refine wb eq38 ?_
                have F50 := Zfr.tr F48 fq38 (by decide)
                have := i_or (a := x1_41) (b := 0) 1 (by decide) (by omega) (by omega) (by omega) (by omega)
                have := li_1
                have := i_add (a := x3_41) (b := 1) (by omega) (by omega)
                exact lInl ⟨rfl, rfl, Wq38, F50, by (try dsimp only); omega, by (try dsimp only); omega, by (try dsimp only); omega, by (try dsimp only); omega⟩ (by (try dsimp only); omega)
              · have hq49 := i_ne hq49
                unfold f_RuleBook_goRound_176
                obtain ⟨w39, ew39⟩ := go_9 Wq35 t_a0
                refine wb ew39 ?_
                obtain ⟨q38, eq38, Wq38, fq38⟩ := p_RuleBook_linkAll hn Wq35 (a1 := (8 + x2_33)) (a2 := x3_41) (a3 := (v33 &&& (q35.1 ^^^ (-1)))) t_a0 (by omega) (by omega) (by omega) (by omega)
                refine wb eq38 ?_
                have F51 := Zfr.tr F48 fq38 (by decide)
                have := li_1
                have := i_or (a := x1_41) (b := 1) 1 (by decide) (by omega) (by omega) (by omega) (by omega)
                have := i_add (a := x3_41) (b := 1) (by omega) (by omega)
                exact lInl ⟨rfl, rfl, Wq38, F51, by (try dsimp only); omega, by (try dsimp only); omega, by (try dsimp only); omega, by (try dsimp only); omega⟩ (by (try dsimp only); omega)
          · exact ⟨rfl, rfl, WLc_33, Zfr.rf, by (try dsimp only); omega, by (try dsimp only); omega, by (try dsimp only); omega, by (try dsimp only); omega⟩
          · (try dsimp only); omega
        obtain ⟨b, eb, hb⟩ := L40
        refine wb eb ?_
        clear eb
        obtain ⟨z0_52, z1_52, z2_52, c_52⟩ := b
        try dsimp only at hb ⊢
        obtain ⟨rfl, rfl, WXc_52, FXc_52, j53, j54⟩ := hb
        have F55 := Zfr.tr FLc_33 FXc_52 (by decide)
        have := li_1
        have := i_add (a := x2_33) (b := 1) (by omega) (by omega)
        exact lInl ⟨rfl, WXc_52, F55, by (try dsimp only); omega, by (try dsimp only); omega, by (try dsimp only); omega, by (try dsimp only); omega⟩ (by (try dsimp only); omega)
    · exact ⟨rfl, WXc_29, Zfr.rf, by (try dsimp only); omega, by (try dsimp only); omega, by (try dsimp only); omega, by (try dsimp only); omega⟩
    · (try dsimp only); omega
  obtain ⟨b, eb, hb⟩ := L32
  refine wb eb ?_
  clear eb
  obtain ⟨z0_56, c_56⟩ := b
  try dsimp only at hb ⊢
  obtain ⟨WXc_56, FXc_56, j57, j58⟩ := hb
  have F59 := Zfr.tr F31 FXc_56 (by decide)
  exact wz (rgi (by omega) (by omega)) ⟨WXc_56, F59, by (try dsimp only); omega, by (try dsimp only); omega⟩

abbrev M_RuleBook_settle : List (Nat × Nat) := [(2, 16), (2, 17), (7, 5), (7, 6), (7, 7), (7, 8), (7, 9), (7, 10), (7, 11), (8, 8), (9, 4), (9, 5), (21, 0), (26, 0), (27, 0), (28, 0), (31, 0), (47, 0), (48, 0), (49, 0), (50, 0), (51, 0), (52, 0), (53, 0), (54, 0), (56, 0)]
set_option maxRecDepth 100000 in
set_option maxHeartbeats 400000 in
theorem p_RuleBook_settle {nf : Nat} (hn : 8589934592 ≤ nf) {G : List Nat} {c : Zc} (W : Zwt zty G c) {a0 : Nat}  (t_a0 : G[a0]? = some 9) : ∃ q, f_RuleBook_settle nf a0 c = some q ∧ Zwt zty G q.2 ∧ Zfr G M_RuleBook_settle c q.2 ∧ 0 ≤ q.1.toInt ∧ q.1.toInt ≤ 1 := by
  have F0 : Zfr G M_RuleBook_settle c c := Zfr.rf
  unfold f_RuleBook_settle
  obtain ⟨v1, ev1, _⟩ := gf_9_4 W t_a0
  refine wb ev1 ?_
  obtain ⟨v2, ev2, tv2⟩ := gf_9_1 W t_a0
  refine wb ev2 ?_
  obtain ⟨v3, ev3, _⟩ := gf_1_9 W tv2
  refine wb ev3 ?_
  refine wi (fun hq1 => ?_) (fun hq1 => ?_)
  · have := i_ge v1
    have := i_up v1
    have := i_ge v3
    have := i_up v3
    have hq1 := i_eq hq1
    obtain ⟨v30, ev30, lv30, uv30⟩ := gf_9_5 W t_a0
    refine wb ev30 ?_
    exact wz (rgi (by omega) (by omega)) ⟨W, F0, by (try dsimp only); omega, by (try dsimp only); omega⟩
  · have := i_ge v1
    have := i_up v1
    have := i_ge v3
    have := i_up v3
    have hq1 := i_ne hq1
    refine wb ev2 ?_
    refine wb ev3 ?_
    obtain ⟨c7, ec7, Wc7, fc7, gc7⟩ := pf_9_4 W t_a0 (x := v3) (trivial)
    refine wb ec7 ?_
    have e2 := (Zfr.gr fc7 t_a0 (by decide)).trans ev2
    have F3 := Zfr.tr F0 fc7 (by decide)
    refine wb e2 ?_
    obtain ⟨w10, ew10⟩ := go_1 Wc7 tv2
    refine wb ew10 ?_
    obtain ⟨q9, eq9, Wq9, fq9⟩ := p_Graph_relate hn Wc7  tv2
    refine wb eq9 ?_
    have F4 := Zfr.tr F3 fq9 (by decide)
    obtain ⟨w12, ew12⟩ := go_9 Wq9 t_a0
    refine wb ew12 ?_
    obtain ⟨q11, eq11, Wq11, fq11⟩ := p_RuleBook_workOfAll hn Wq9  t_a0
    refine wb eq11 ?_
    have F5 := Zfr.tr F4 fq11 (by decide)
    obtain ⟨w14, ew14⟩ := go_9 Wq11 t_a0
    refine wb ew14 ?_
    obtain ⟨q13, eq13, Wq13, fq13⟩ := p_RuleBook_standing hn Wq11  t_a0
    refine wb eq13 ?_
    have F6 := Zfr.tr F5 fq13 (by decide)
    refine wi (fun hq7 => ?_) (fun hq7 => ?_)
    · have := li_0
      have := i_ge q13.1
      have := i_up q13.1
      have hq7 := i_le hq7
      unfold f_RuleBook_settle_58
      obtain ⟨w17, ew17⟩ := go_9 Wq13 t_a0
      refine wb ew17 ?_
      obtain ⟨q16, eq16, Wq16, fq16, pl0q16, pu0q16⟩ := p_RuleBook_isOneLarge hn Wq13  t_a0
      refine wb eq16 ?_
      have F8 := Zfr.tr F6 fq16 (by decide)
      obtain ⟨c18, ec18, Wc18, fc18, gc18⟩ := pz_9_5 Wq16 t_a0 (x := q16.1) (rgi (by omega) (by omega))
      refine wb ec18 ?_
      have F9 := Zfr.tr F8 fc18 (by decide)
      unfold f_RuleBook_settle_71
      have := li_1025
      have := li_1
      have L10 : ∃ b, zlp (fun a : Nat × Int64 × Int32 × Int32 × Int32 × Zc => g_RuleBook_settle_71 nf a.1 a.2.1 a.2.2.1 a.2.2.2.1 a.2.2.2.2.1 a.2.2.2.2.2) nf (a0, q11.1, 1025, 0, 1, c18) = some b ∧ (fun b : (Nat × Zc) => a0 = b.1 ∧ Zwt zty G b.2 ∧ Zfr G ([(2, 16), (2, 17), (7, 5), (7, 6), (7, 7), (7, 8), (7, 9), (7, 10), (7, 11), (8, 8), (9, 5), (21, 0), (26, 0), (27, 0), (28, 0), (31, 0), (47, 0), (48, 0), (49, 0), (50, 0), (51, 0), (52, 0), (53, 0), (54, 0), (56, 0)] : List (Nat × Nat)) c18 b.2) b := by
        refine wlp (fun a : Nat × Int64 × Int32 × Int32 × Int32 × Zc => a0 = a.1 ∧ q11.1 = a.2.1 ∧ (1025 : Int32) = a.2.2.1 ∧ Zwt zty G a.2.2.2.2.2 ∧ Zfr G ([(2, 16), (2, 17), (7, 5), (7, 6), (7, 7), (7, 8), (7, 9), (7, 10), (7, 11), (8, 8), (9, 5), (21, 0), (26, 0), (27, 0), (28, 0), (31, 0), (47, 0), (48, 0), (49, 0), (50, 0), (51, 0), (52, 0), (53, 0), (54, 0), (56, 0)] : List (Nat × Nat)) c18 a.2.2.2.2.2 ∧ 1 ≤ a.2.2.2.2.1.toInt ∧ a.2.2.2.2.1.toInt ≤ 1026) (fun a => (1026 - a.2.2.2.2.1.toInt).toNat) (fun b : (Nat × Zc) => a0 = b.1 ∧ Zwt zty G b.2 ∧ Zfr G ([(2, 16), (2, 17), (7, 5), (7, 6), (7, 7), (7, 8), (7, 9), (7, 10), (7, 11), (8, 8), (9, 5), (21, 0), (26, 0), (27, 0), (28, 0), (31, 0), (47, 0), (48, 0), (49, 0), (50, 0), (51, 0), (52, 0), (53, 0), (54, 0), (56, 0)] : List (Nat × Nat)) c18 b.2) ?_ ?_ ?_
        · rintro ⟨x0_11, x1_11, x3_11, x4_11, x5_11, c_11⟩ hI
          try dsimp only at hI ⊢
          obtain ⟨rfl, rfl, rfl, WLc_11, FLc_11, j12, j13⟩ := hI
          unfold g_RuleBook_settle_71
          refine wi (fun hq14 => ?_) (fun hq14 => ?_)
          · have hq14 := i_lt hq14
            exact lInr ⟨rfl, WLc_11, FLc_11⟩
          · have hq14 := i_nlt hq14
            refine wi (fun hq15 => ?_) (fun hq15 => ?_)
            · have := i_ge x4_11
              have := i_up x4_11
              have hq15 := i_eq hq15
              exact lInr ⟨rfl, WLc_11, FLc_11⟩
            · have := i_ge x4_11
              have := i_up x4_11
              have hq15 := i_ne hq15
              obtain ⟨v21, ev21, lv21, uv21⟩ := gf_9_5 WLc_11 t_a0
              refine wb ev21 ?_
              refine wi (fun hq16 => ?_) (fun hq16 => ?_)
              · have hq16 := i_eq hq16
                refine wi (fun hq17 => ?_) (fun hq17 => ?_)
                · have hq17 := i_le hq17
                  unfold f_RuleBook_settle_107
                  obtain ⟨c24, ec24, Wc24, fc24, gc24⟩ := pz_9_5 WLc_11 t_a0 (x := 0) (rgi (by omega) (by omega))
                  refine wb ec24 ?_
                  have F18 := Zfr.tr FLc_11 fc24 (by decide)
                  refine wb gc24 ?_
                  refine wi (fun hq19 => ?_) (fun hq19 => ?_)
                  · have hq19 := i_eq hq19
                    obtain ⟨w28, ew28⟩ := go_9 Wc24 t_a0
                    refine wb ew28 ?_
                    obtain ⟨q27, eq27, Wq27, fq27, pl0q27, pu0q27⟩ := p_RuleBook_goRound hn Wc24  t_a0
                    refine wb eq27 ?_
                    have F20 := Zfr.tr F18 fq27 (by decide)
                    unfold f_RuleBook_settle_123
                    have := i_add (a := x5_11) (b := 1) (by omega) (by omega)
                    exact lInl ⟨rfl, rfl, rfl, Wq27, F20, by (try dsimp only); omega, by (try dsimp only); omega⟩ (by (try dsimp only); omega)
                  · have hq19 := i_ne hq19
                    unfold f_RuleBook_settle_123
                    have := i_add (a := x5_11) (b := 1) (by omega) (by omega)
                    exact lInl ⟨rfl, rfl, rfl, Wc24, F18, by (try dsimp only); omega, by (try dsimp only); omega⟩ (by (try dsimp only); omega)
                · have hq17 := i_nle hq17
                  unfold f_RuleBook_settle_107
                  obtain ⟨c24, ec24, Wc24, fc24, gc24⟩ := pz_9_5 WLc_11 t_a0 (x := 1) (rgi (by omega) (by omega))
                  refine wb ec24 ?_
                  have F21 := Zfr.tr FLc_11 fc24 (by decide)
                  refine wb gc24 ?_
                  refine wi (fun hq22 => ?_) (fun hq22 => ?_)
                  · have hq22 := i_eq hq22
                    obtain ⟨w28, ew28⟩ := go_9 Wc24 t_a0
                    refine wb ew28 ?_
                    obtain ⟨q27, eq27, Wq27, fq27, pl0q27, pu0q27⟩ := p_RuleBook_goRound hn Wc24  t_a0
                    refine wb eq27 ?_
                    have F23 := Zfr.tr F21 fq27 (by decide)
                    unfold f_RuleBook_settle_123
                    have := i_add (a := x5_11) (b := 1) (by omega) (by omega)
                    exact lInl ⟨rfl, rfl, rfl, Wq27, F23, by (try dsimp only); omega, by (try dsimp only); omega⟩ (by (try dsimp only); omega)
                  · have hq22 := i_ne hq22
                    unfold f_RuleBook_settle_123
                    have := i_add (a := x5_11) (b := 1) (by omega) (by omega)
                    exact lInl ⟨rfl, rfl, rfl, Wc24, F21, by (try dsimp only); omega, by (try dsimp only); omega⟩ (by (try dsimp only); omega)
              · have hq16 := i_ne hq16
                exact lInr ⟨rfl, WLc_11, FLc_11⟩
        · exact ⟨rfl, rfl, rfl, Wc18, Zfr.rf, by (try dsimp only); omega, by (try dsimp only); omega⟩
        · (try dsimp only); omega
      obtain ⟨b, eb, hb⟩ := L10
      refine wb eb ?_
      clear eb
      obtain ⟨z0_24, c_24⟩ := b
      try dsimp only at hb ⊢
      obtain ⟨rfl, WXc_24, FXc_24⟩ := hb
      have F25 := Zfr.tr F9 FXc_24 (by decide)
      unfold f_RuleBook_settle_129
      obtain ⟨v29, ev29, lv29, uv29⟩ := gf_9_5 WXc_24 t_a0
      refine wb ev29 ?_
      exact wz (rgi (by omega) (by omega)) ⟨WXc_24, F25, by (try dsimp only); omega, by (try dsimp only); omega⟩
    · have := li_0
      have := i_ge q13.1
      have := i_up q13.1
      have hq7 := i_nle hq7
      unfold f_RuleBook_settle_58
      obtain ⟨w17, ew17⟩ := go_9 Wq13 t_a0
      refine wb ew17 ?_
      obtain ⟨q16, eq16, Wq16, fq16, pl0q16, pu0q16⟩ := p_RuleBook_isOneLarge hn Wq13  t_a0
      refine wb eq16 ?_
      have F26 := Zfr.tr F6 fq16 (by decide)
      obtain ⟨c18, ec18, Wc18, fc18, gc18⟩ := pz_9_5 Wq16 t_a0 (x := q16.1) (rgi (by omega) (by omega))
      refine wb ec18 ?_
      have F27 := Zfr.tr F26 fc18 (by decide)
      unfold f_RuleBook_settle_71
      have := li_1025
      have := li_1
      have L28 : ∃ b, zlp (fun a : Nat × Int64 × Int32 × Int32 × Int32 × Zc => g_RuleBook_settle_71 nf a.1 a.2.1 a.2.2.1 a.2.2.2.1 a.2.2.2.2.1 a.2.2.2.2.2) nf (a0, q11.1, 1025, 1, 1, c18) = some b ∧ (fun b : (Nat × Zc) => a0 = b.1 ∧ Zwt zty G b.2 ∧ Zfr G ([(2, 16), (2, 17), (7, 5), (7, 6), (7, 7), (7, 8), (7, 9), (7, 10), (7, 11), (8, 8), (9, 5), (21, 0), (26, 0), (27, 0), (28, 0), (31, 0), (47, 0), (48, 0), (49, 0), (50, 0), (51, 0), (52, 0), (53, 0), (54, 0), (56, 0)] : List (Nat × Nat)) c18 b.2) b := by
        refine wlp (fun a : Nat × Int64 × Int32 × Int32 × Int32 × Zc => a0 = a.1 ∧ q11.1 = a.2.1 ∧ (1025 : Int32) = a.2.2.1 ∧ Zwt zty G a.2.2.2.2.2 ∧ Zfr G ([(2, 16), (2, 17), (7, 5), (7, 6), (7, 7), (7, 8), (7, 9), (7, 10), (7, 11), (8, 8), (9, 5), (21, 0), (26, 0), (27, 0), (28, 0), (31, 0), (47, 0), (48, 0), (49, 0), (50, 0), (51, 0), (52, 0), (53, 0), (54, 0), (56, 0)] : List (Nat × Nat)) c18 a.2.2.2.2.2 ∧ 1 ≤ a.2.2.2.2.1.toInt ∧ a.2.2.2.2.1.toInt ≤ 1026) (fun a => (1026 - a.2.2.2.2.1.toInt).toNat) (fun b : (Nat × Zc) => a0 = b.1 ∧ Zwt zty G b.2 ∧ Zfr G ([(2, 16), (2, 17), (7, 5), (7, 6), (7, 7), (7, 8), (7, 9), (7, 10), (7, 11), (8, 8), (9, 5), (21, 0), (26, 0), (27, 0), (28, 0), (31, 0), (47, 0), (48, 0), (49, 0), (50, 0), (51, 0), (52, 0), (53, 0), (54, 0), (56, 0)] : List (Nat × Nat)) c18 b.2) ?_ ?_ ?_
        · rintro ⟨x0_29, x1_29, x3_29, x4_29, x5_29, c_29⟩ hI
          try dsimp only at hI ⊢
          obtain ⟨rfl, rfl, rfl, WLc_29, FLc_29, j30, j31⟩ := hI
          unfold g_RuleBook_settle_71
          refine wi (fun hq32 => ?_) (fun hq32 => ?_)
          · have hq32 := i_lt hq32
            exact lInr ⟨rfl, WLc_29, FLc_29⟩
          · have hq32 := i_nlt hq32
            refine wi (fun hq33 => ?_) (fun hq33 => ?_)
            · have := i_ge x4_29
              have := i_up x4_29
              have hq33 := i_eq hq33
              exact lInr ⟨rfl, WLc_29, FLc_29⟩
            · have := i_ge x4_29
              have := i_up x4_29
              have hq33 := i_ne hq33
              obtain ⟨v21, ev21, lv21, uv21⟩ := gf_9_5 WLc_29 t_a0
              refine wb ev21 ?_
              refine wi (fun hq34 => ?_) (fun hq34 => ?_)
              · have hq34 := i_eq hq34
                refine wi (fun hq35 => ?_) (fun hq35 => ?_)
                · have hq35 := i_le hq35
                  unfold f_RuleBook_settle_107
                  obtain ⟨c24, ec24, Wc24, fc24, gc24⟩ := pz_9_5 WLc_29 t_a0 (x := 0) (rgi (by omega) (by omega))
                  refine wb ec24 ?_
                  have F36 := Zfr.tr FLc_29 fc24 (by decide)
                  refine wb gc24 ?_
                  refine wi (fun hq37 => ?_) (fun hq37 => ?_)
                  · have hq37 := i_eq hq37
                    obtain ⟨w28, ew28⟩ := go_9 Wc24 t_a0
                    refine wb ew28 ?_
                    obtain ⟨q27, eq27, Wq27, fq27, pl0q27, pu0q27⟩ := p_RuleBook_goRound hn Wc24  t_a0
                    refine wb eq27 ?_
                    have F38 := Zfr.tr F36 fq27 (by decide)
                    unfold f_RuleBook_settle_123
                    have := i_add (a := x5_29) (b := 1) (by omega) (by omega)
                    exact lInl ⟨rfl, rfl, rfl, Wq27, F38, by (try dsimp only); omega, by (try dsimp only); omega⟩ (by (try dsimp only); omega)
                  · have hq37 := i_ne hq37
                    unfold f_RuleBook_settle_123
                    have := i_add (a := x5_29) (b := 1) (by omega) (by omega)
                    exact lInl ⟨rfl, rfl, rfl, Wc24, F36, by (try dsimp only); omega, by (try dsimp only); omega⟩ (by (try dsimp only); omega)
                · have hq35 := i_nle hq35
                  unfold f_RuleBook_settle_107
                  obtain ⟨c24, ec24, Wc24, fc24, gc24⟩ := pz_9_5 WLc_29 t_a0 (x := 1) (rgi (by omega) (by omega))
                  refine wb ec24 ?_
                  have F39 := Zfr.tr FLc_29 fc24 (by decide)
                  refine wb gc24 ?_
                  refine wi (fun hq40 => ?_) (fun hq40 => ?_)
                  · have hq40 := i_eq hq40
                    obtain ⟨w28, ew28⟩ := go_9 Wc24 t_a0
                    refine wb ew28 ?_
                    obtain ⟨q27, eq27, Wq27, fq27, pl0q27, pu0q27⟩ := p_RuleBook_goRound hn Wc24  t_a0
                    refine wb eq27 ?_
                    have F41 := Zfr.tr F39 fq27 (by decide)
                    unfold f_RuleBook_settle_123
                    have := i_add (a := x5_29) (b := 1) (by omega) (by omega)
                    exact lInl ⟨rfl, rfl, rfl, Wq27, F41, by (try dsimp only); omega, by (try dsimp only); omega⟩ (by (try dsimp only); omega)
                  · have hq40 := i_ne hq40
                    unfold f_RuleBook_settle_123
                    have := i_add (a := x5_29) (b := 1) (by omega) (by omega)
                    exact lInl ⟨rfl, rfl, rfl, Wc24, F39, by (try dsimp only); omega, by (try dsimp only); omega⟩ (by (try dsimp only); omega)
              · have hq34 := i_ne hq34
                exact lInr ⟨rfl, WLc_29, FLc_29⟩
        · exact ⟨rfl, rfl, rfl, Wc18, Zfr.rf, by (try dsimp only); omega, by (try dsimp only); omega⟩
        · (try dsimp only); omega
      obtain ⟨b, eb, hb⟩ := L28
      refine wb eb ?_
      clear eb
      obtain ⟨z0_42, c_42⟩ := b
      try dsimp only at hb ⊢
      obtain ⟨rfl, WXc_42, FXc_42⟩ := hb
      have F43 := Zfr.tr F27 FXc_42 (by decide)
      unfold f_RuleBook_settle_129
      obtain ⟨v29, ev29, lv29, uv29⟩ := gf_9_5 WXc_42 t_a0
      refine wb ev29 ?_
      exact wz (rgi (by omega) (by omega)) ⟨WXc_42, F43, by (try dsimp only); omega, by (try dsimp only); omega⟩

end ZzT
