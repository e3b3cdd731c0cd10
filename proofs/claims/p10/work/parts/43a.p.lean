section ZzT
abbrev M_Math_min_0 : List (Nat × Nat) := []
set_option maxRecDepth 100000 in
set_option maxHeartbeats 400000 in
theorem p_Math_min_0 {nf : Nat} (hn : 8589934592 ≤ nf) {G : List Nat} {c : Zc} (W : Zwt zty G c) {a0 : Int32} {a1 : Int32}   : ∃ q, f_Math_min_0 nf a0 a1 c = some q ∧ Zwt zty G q.2 ∧ Zfr G M_Math_min_0 c q.2 ∧ ((q.1.toInt = a0.toInt ∧ a0.toInt ≤ a1.toInt) ∨ (q.1.toInt = a1.toInt ∧ a1.toInt ≤ a0.toInt)) := by
  have F0 : Zfr G M_Math_min_0 c c := Zfr.rf
  unfold f_Math_min_0
  refine wi (fun hq1 => ?_) (fun hq1 => ?_)
  · have := i_ge a1
    have := i_up a1
    have := i_ge a0
    have := i_up a0
    have hq1 := i_lt hq1
    unfold f_Math_min_0_10
    exact ⟨_, rfl, W, F0, by (try dsimp only); omega⟩
  · have := i_ge a1
    have := i_up a1
    have := i_ge a0
    have := i_up a0
    have hq1 := i_nlt hq1
    unfold f_Math_min_0_10
    exact ⟨_, rfl, W, F0, by (try dsimp only); omega⟩

abbrev M_Math_max_0 : List (Nat × Nat) := []
set_option maxRecDepth 100000 in
set_option maxHeartbeats 400000 in
theorem p_Math_max_0 {nf : Nat} (hn : 8589934592 ≤ nf) {G : List Nat} {c : Zc} (W : Zwt zty G c) {a0 : Int32} {a1 : Int32}   : ∃ q, f_Math_max_0 nf a0 a1 c = some q ∧ Zwt zty G q.2 ∧ Zfr G M_Math_max_0 c q.2 ∧ ((q.1.toInt = a0.toInt ∧ a1.toInt ≤ a0.toInt) ∨ (q.1.toInt = a1.toInt ∧ a0.toInt ≤ a1.toInt)) := by
  have F0 : Zfr G M_Math_max_0 c c := Zfr.rf
  unfold f_Math_max_0
  refine wi (fun hq1 => ?_) (fun hq1 => ?_)
  · have := i_ge a0
    have := i_up a0
    have := i_ge a1
    have := i_up a1
    have hq1 := i_lt hq1
    unfold f_Math_max_0_10
    exact ⟨_, rfl, W, F0, by (try dsimp only); omega⟩
  · have := i_ge a0
    have := i_up a0
    have := i_ge a1
    have := i_up a1
    have hq1 := i_nlt hq1
    unfold f_Math_max_0_10
    exact ⟨_, rfl, W, F0, by (try dsimp only); omega⟩

abbrev M_Math_min_1 : List (Nat × Nat) := []
set_option maxRecDepth 100000 in
set_option maxHeartbeats 400000 in
theorem p_Math_min_1 {nf : Nat} (hn : 8589934592 ≤ nf) {G : List Nat} {c : Zc} (W : Zwt zty G c) {a0 : Int64} {a2 : Int64}   : ∃ q, f_Math_min_1 nf a0 a2 c = some q ∧ Zwt zty G q.2 ∧ Zfr G M_Math_min_1 c q.2 := by
  have F0 : Zfr G M_Math_min_1 c c := Zfr.rf
  unfold f_Math_min_1
  refine wi (fun hq1 => ?_) (fun hq1 => ?_)
  · have := li_0
    have hq1 := i_lt hq1
    unfold f_Math_min_1_11
    exact ⟨_, rfl, W, F0⟩
  · have := li_0
    have hq1 := i_nlt hq1
    unfold f_Math_min_1_11
    exact ⟨_, rfl, W, F0⟩

abbrev M_Math_max_1 : List (Nat × Nat) := []
set_option maxRecDepth 100000 in
set_option maxHeartbeats 400000 in
theorem p_Math_max_1 {nf : Nat} (hn : 8589934592 ≤ nf) {G : List Nat} {c : Zc} (W : Zwt zty G c) {a0 : Int64} {a2 : Int64}   : ∃ q, f_Math_max_1 nf a0 a2 c = some q ∧ Zwt zty G q.2 ∧ Zfr G M_Math_max_1 c q.2 := by
  have F0 : Zfr G M_Math_max_1 c c := Zfr.rf
  unfold f_Math_max_1
  refine wi (fun hq1 => ?_) (fun hq1 => ?_)
  · have := li_0
    have hq1 := i_lt hq1
    unfold f_Math_max_1_11
    exact ⟨_, rfl, W, F0⟩
  · have := li_0
    have hq1 := i_nlt hq1
    unfold f_Math_max_1_11
    exact ⟨_, rfl, W, F0⟩

abbrev M_Arrays_fill__GLab : List (Nat × Nat) := [(19, 0)]
set_option maxRecDepth 100000 in
set_option maxHeartbeats 400000 in
theorem p_Arrays_fill__GLab {nf : Nat} (hn : 8589934592 ≤ nf) {G : List Nat} {c : Zc} (W : Zwt zty G c) {a0 : Nat} {a1 : Int32}  (t_a0 : G[a0]? = some 19) (pl_a1 : (-1) ≤ a1.toInt) (pu_a1 : a1.toInt ≤ 7) : ∃ q, f_Arrays_fill nf a0 a1 c = some q ∧ Zwt zty G q ∧ Zfr G M_Arrays_fill__GLab c q := by
  have F0 : Zfr G M_Arrays_fill__GLab c c := Zfr.rf
  unfold f_Arrays_fill
  refine wb (gl_19 W t_a0) ?_
  unfold f_Arrays_fill_5
  have := li_0
  have := li_100
  have L1 : ∃ b, zlp (fun a : Nat × Int32 × Int32 × Int32 × Zc => g_Arrays_fill_5 nf a.1 a.2.1 a.2.2.1 a.2.2.2.1 a.2.2.2.2) nf (a0, a1, 0, 100, c) = some b ∧ (fun b : (Zc) => Zwt zty G b ∧ Zfr G ([(19, 0)] : List (Nat × Nat)) c b) b := by
    refine wlp (fun a : Nat × Int32 × Int32 × Int32 × Zc => a0 = a.1 ∧ a1 = a.2.1 ∧ (100 : Int32) = a.2.2.2.1 ∧ Zwt zty G a.2.2.2.2 ∧ Zfr G ([(19, 0)] : List (Nat × Nat)) c a.2.2.2.2 ∧ 0 ≤ a.2.2.1.toInt ∧ a.2.2.1.toInt ≤ 100) (fun a => (100 - a.2.2.1.toInt).toNat) (fun b : (Zc) => Zwt zty G b ∧ Zfr G ([(19, 0)] : List (Nat × Nat)) c b) ?_ ?_ ?_
    · rintro ⟨x0_2, x1_2, x2_2, x3_2, c_2⟩ hI
      try dsimp only at hI ⊢
      obtain ⟨rfl, rfl, rfl, WLc_2, FLc_2, j3, j4⟩ := hI
      unfold g_Arrays_fill_5
      refine wi (fun hq5 => ?_) (fun hq5 => ?_)
      · have hq5 := i_le hq5
        exact lInr ⟨WLc_2, FLc_2⟩
      · have hq5 := i_nle hq5
        obtain ⟨c3, ec3, Wc3, fc3, gc3⟩ := pa_19 WLc_2 t_a0 (i := x2_2) (by omega) (by omega) (x := a1) (rgi (by omega) (by omega))
        refine wb ec3 ?_
        have F6 := Zfr.tr FLc_2 fc3 (by decide)
        have := li_1
        have := i_add (a := x2_2) (b := 1) (by omega) (by omega)
        exact lInl ⟨rfl, rfl, rfl, Wc3, F6, by (try dsimp only); omega, by (try dsimp only); omega⟩ (by (try dsimp only); omega)
    · exact ⟨rfl, rfl, rfl, W, Zfr.rf, by (try dsimp only); omega, by (try dsimp only); omega⟩
    · (try dsimp only); omega
  obtain ⟨b, eb, hb⟩ := L1
  refine wb eb ?_
  clear eb
  obtain c_7 := b
  try dsimp only at hb ⊢
  obtain ⟨WXc_7, FXc_7⟩ := hb
  have F8 := Zfr.tr F0 FXc_7 (by decide)
  exact ⟨_, rfl, WXc_7, F8⟩

abbrev M_Arrays_fill__GReach : List (Nat × Nat) := [(21, 0)]
set_option maxRecDepth 100000 in
set_option maxHeartbeats 400000 in
theorem p_Arrays_fill__GReach {nf : Nat} (hn : 8589934592 ≤ nf) {G : List Nat} {c : Zc} (W : Zwt zty G c) {a0 : Nat} {a1 : Int32}  (t_a0 : G[a0]? = some 21) : ∃ q, f_Arrays_fill nf a0 a1 c = some q ∧ Zwt zty G q ∧ Zfr G M_Arrays_fill__GReach c q := by
  have F0 : Zfr G M_Arrays_fill__GReach c c := Zfr.rf
  unfold f_Arrays_fill
  refine wb (gl_21 W t_a0) ?_
  unfold f_Arrays_fill_5
  have := li_0
  have := li_416
  have L1 : ∃ b, zlp (fun a : Nat × Int32 × Int32 × Int32 × Zc => g_Arrays_fill_5 nf a.1 a.2.1 a.2.2.1 a.2.2.2.1 a.2.2.2.2) nf (a0, a1, 0, 416, c) = some b ∧ (fun b : (Zc) => Zwt zty G b ∧ Zfr G ([(21, 0)] : List (Nat × Nat)) c b) b := by
    refine wlp (fun a : Nat × Int32 × Int32 × Int32 × Zc => a0 = a.1 ∧ a1 = a.2.1 ∧ (416 : Int32) = a.2.2.2.1 ∧ Zwt zty G a.2.2.2.2 ∧ Zfr G ([(21, 0)] : List (Nat × Nat)) c a.2.2.2.2 ∧ 0 ≤ a.2.2.1.toInt ∧ a.2.2.1.toInt ≤ 416) (fun a => (416 - a.2.2.1.toInt).toNat) (fun b : (Zc) => Zwt zty G b ∧ Zfr G ([(21, 0)] : List (Nat × Nat)) c b) ?_ ?_ ?_
    · rintro ⟨x0_2, x1_2, x2_2, x3_2, c_2⟩ hI
      try dsimp only at hI ⊢
      obtain ⟨rfl, rfl, rfl, WLc_2, FLc_2, j3, j4⟩ := hI
      unfold g_Arrays_fill_5
      refine wi (fun hq5 => ?_) (fun hq5 => ?_)
      · have hq5 := i_le hq5
        exact lInr ⟨WLc_2, FLc_2⟩
      · have hq5 := i_nle hq5
        obtain ⟨c3, ec3, Wc3, fc3, gc3⟩ := pa_21 WLc_2 t_a0 (i := x2_2) (by omega) (by omega) (x := a1) (trivial)
        refine wb ec3 ?_
        have F6 := Zfr.tr FLc_2 fc3 (by decide)
        have := li_1
        have := i_add (a := x2_2) (b := 1) (by omega) (by omega)
        exact lInl ⟨rfl, rfl, rfl, Wc3, F6, by (try dsimp only); omega, by (try dsimp only); omega⟩ (by (try dsimp only); omega)
    · exact ⟨rfl, rfl, rfl, W, Zfr.rf, by (try dsimp only); omega, by (try dsimp only); omega⟩
    · (try dsimp only); omega
  obtain ⟨b, eb, hb⟩ := L1
  refine wb eb ?_
  clear eb
  obtain c_7 := b
  try dsimp only at hb ⊢
  obtain ⟨WXc_7, FXc_7⟩ := hb
  have F8 := Zfr.tr F0 FXc_7 (by decide)
  exact ⟨_, rfl, WXc_7, F8⟩

abbrev M_Arrays_fill__WArcs : List (Nat × Nat) := [(26, 0)]
set_option maxRecDepth 100000 in
set_option maxHeartbeats 400000 in
theorem p_Arrays_fill__WArcs {nf : Nat} (hn : 8589934592 ≤ nf) {G : List Nat} {c : Zc} (W : Zwt zty G c) {a0 : Nat} {a1 : Int32}  (t_a0 : G[a0]? = some 26) : ∃ q, f_Arrays_fill nf a0 a1 c = some q ∧ Zwt zty G q ∧ Zfr G M_Arrays_fill__WArcs c q := by
  have F0 : Zfr G M_Arrays_fill__WArcs c c := Zfr.rf
  unfold f_Arrays_fill
  refine wb (gl_26 W t_a0) ?_
  unfold f_Arrays_fill_5
  have := li_0
  have := li_256
  have L1 : ∃ b, zlp (fun a : Nat × Int32 × Int32 × Int32 × Zc => g_Arrays_fill_5 nf a.1 a.2.1 a.2.2.1 a.2.2.2.1 a.2.2.2.2) nf (a0, a1, 0, 256, c) = some b ∧ (fun b : (Zc) => Zwt zty G b ∧ Zfr G ([(26, 0)] : List (Nat × Nat)) c b) b := by
    refine wlp (fun a : Nat × Int32 × Int32 × Int32 × Zc => a0 = a.1 ∧ a1 = a.2.1 ∧ (256 : Int32) = a.2.2.2.1 ∧ Zwt zty G a.2.2.2.2 ∧ Zfr G ([(26, 0)] : List (Nat × Nat)) c a.2.2.2.2 ∧ 0 ≤ a.2.2.1.toInt ∧ a.2.2.1.toInt ≤ 256) (fun a => (256 - a.2.2.1.toInt).toNat) (fun b : (Zc) => Zwt zty G b ∧ Zfr G ([(26, 0)] : List (Nat × Nat)) c b) ?_ ?_ ?_
    · rintro ⟨x0_2, x1_2, x2_2, x3_2, c_2⟩ hI
      try dsimp only at hI ⊢
      obtain ⟨rfl, rfl, rfl, WLc_2, FLc_2, j3, j4⟩ := hI
      unfold g_Arrays_fill_5
      refine wi (fun hq5 => ?_) (fun hq5 => ?_)
      · have hq5 := i_le hq5
        exact lInr ⟨WLc_2, FLc_2⟩
      · have hq5 := i_nle hq5
        obtain ⟨c3, ec3, Wc3, fc3, gc3⟩ := pa_26 WLc_2 t_a0 (i := x2_2) (by omega) (by omega) (x := a1) (trivial)
        refine wb ec3 ?_
        have F6 := Zfr.tr FLc_2 fc3 (by decide)
        have := li_1
        have := i_add (a := x2_2) (b := 1) (by omega) (by omega)
        exact lInl ⟨rfl, rfl, rfl, Wc3, F6, by (try dsimp only); omega, by (try dsimp only); omega⟩ (by (try dsimp only); omega)
    · exact ⟨rfl, rfl, rfl, W, Zfr.rf, by (try dsimp only); omega, by (try dsimp only); omega⟩
    · (try dsimp only); omega
  obtain ⟨b, eb, hb⟩ := L1
  refine wb eb ?_
  clear eb
  obtain c_7 := b
  try dsimp only at hb ⊢
  obtain ⟨WXc_7, FXc_7⟩ := hb
  have F8 := Zfr.tr F0 FXc_7 (by decide)
  exact ⟨_, rfl, WXc_7, F8⟩

abbrev M_Arrays_fill__WAhead : List (Nat × Nat) := [(27, 0)]
set_option maxRecDepth 100000 in
set_option maxHeartbeats 400000 in
theorem p_Arrays_fill__WAhead {nf : Nat} (hn : 8589934592 ≤ nf) {G : List Nat} {c : Zc} (W : Zwt zty G c) {a0 : Nat} {a1 : Int32}  (t_a0 : G[a0]? = some 27) : ∃ q, f_Arrays_fill nf a0 a1 c = some q ∧ Zwt zty G q ∧ Zfr G M_Arrays_fill__WAhead c q := by
  have F0 : Zfr G M_Arrays_fill__WAhead c c := Zfr.rf
  unfold f_Arrays_fill
  refine wb (gl_27 W t_a0) ?_
  unfold f_Arrays_fill_5
  have := li_0
  have := li_16
  have L1 : ∃ b, zlp (fun a : Nat × Int32 × Int32 × Int32 × Zc => g_Arrays_fill_5 nf a.1 a.2.1 a.2.2.1 a.2.2.2.1 a.2.2.2.2) nf (a0, a1, 0, 16, c) = some b ∧ (fun b : (Zc) => Zwt zty G b ∧ Zfr G ([(27, 0)] : List (Nat × Nat)) c b) b := by
    refine wlp (fun a : Nat × Int32 × Int32 × Int32 × Zc => a0 = a.1 ∧ a1 = a.2.1 ∧ (16 : Int32) = a.2.2.2.1 ∧ Zwt zty G a.2.2.2.2 ∧ Zfr G ([(27, 0)] : List (Nat × Nat)) c a.2.2.2.2 ∧ 0 ≤ a.2.2.1.toInt ∧ a.2.2.1.toInt ≤ 16) (fun a => (16 - a.2.2.1.toInt).toNat) (fun b : (Zc) => Zwt zty G b ∧ Zfr G ([(27, 0)] : List (Nat × Nat)) c b) ?_ ?_ ?_
    · rintro ⟨x0_2, x1_2, x2_2, x3_2, c_2⟩ hI
      try dsimp only at hI ⊢
      obtain ⟨rfl, rfl, rfl, WLc_2, FLc_2, j3, j4⟩ := hI
      unfold g_Arrays_fill_5
      refine wi (fun hq5 => ?_) (fun hq5 => ?_)
      · have hq5 := i_le hq5
        exact lInr ⟨WLc_2, FLc_2⟩
      · have hq5 := i_nle hq5
        obtain ⟨c3, ec3, Wc3, fc3, gc3⟩ := pa_27 WLc_2 t_a0 (i := x2_2) (by omega) (by omega) (x := a1) (trivial)
        refine wb ec3 ?_
        have F6 := Zfr.tr FLc_2 fc3 (by decide)
        have := li_1
        have := i_add (a := x2_2) (b := 1) (by omega) (by omega)
        exact lInl ⟨rfl, rfl, rfl, Wc3, F6, by (try dsimp only); omega, by (try dsimp only); omega⟩ (by (try dsimp only); omega)
    · exact ⟨rfl, rfl, rfl, W, Zfr.rf, by (try dsimp only); omega, by (try dsimp only); omega⟩
    · (try dsimp only); omega
  obtain ⟨b, eb, hb⟩ := L1
  refine wb eb ?_
  clear eb
  obtain c_7 := b
  try dsimp only at hb ⊢
  obtain ⟨WXc_7, FXc_7⟩ := hb
  have F8 := Zfr.tr F0 FXc_7 (by decide)
  exact ⟨_, rfl, WXc_7, F8⟩

abbrev M_Arrays_fill__WBehind : List (Nat × Nat) := [(28, 0)]
set_option maxRecDepth 100000 in
set_option maxHeartbeats 400000 in
theorem p_Arrays_fill__WBehind {nf : Nat} (hn : 8589934592 ≤ nf) {G : List Nat} {c : Zc} (W : Zwt zty G c) {a0 : Nat} {a1 : Int32}  (t_a0 : G[a0]? = some 28) : ∃ q, f_Arrays_fill nf a0 a1 c = some q ∧ Zwt zty G q ∧ Zfr G M_Arrays_fill__WBehind c q := by
  have F0 : Zfr G M_Arrays_fill__WBehind c c := Zfr.rf
  unfold f_Arrays_fill
  refine wb (gl_28 W t_a0) ?_
  unfold f_Arrays_fill_5
  have := li_0
  have := li_16
  have L1 : ∃ b, zlp (fun a : Nat × Int32 × Int32 × Int32 × Zc => g_Arrays_fill_5 nf a.1 a.2.1 a.2.2.1 a.2.2.2.1 a.2.2.2.2) nf (a0, a1, 0, 16, c) = some b ∧ (fun b : (Zc) => Zwt zty G b ∧ Zfr G ([(28, 0)] : List (Nat × Nat)) c b) b := by
    refine wlp (fun a : Nat × Int32 × Int32 × Int32 × Zc => a0 = a.1 ∧ a1 = a.2.1 ∧ (16 : Int32) = a.2.2.2.1 ∧ Zwt zty G a.2.2.2.2 ∧ Zfr G ([(28, 0)] : List (Nat × Nat)) c a.2.2.2.2 ∧ 0 ≤ a.2.2.1.toInt ∧ a.2.2.1.toInt ≤ 16) (fun a => (16 - a.2.2.1.toInt).toNat) (fun b : (Zc) => Zwt zty G b ∧ Zfr G ([(28, 0)] : List (Nat × Nat)) c b) ?_ ?_ ?_
    · rintro ⟨x0_2, x1_2, x2_2, x3_2, c_2⟩ hI
      try dsimp only at hI ⊢
      obtain ⟨rfl, rfl, rfl, WLc_2, FLc_2, j3, j4⟩ := hI
      unfold g_Arrays_fill_5
      refine wi (fun hq5 => ?_) (fun hq5 => ?_)
      · have hq5 := i_le hq5
        exact lInr ⟨WLc_2, FLc_2⟩
      · have hq5 := i_nle hq5
        obtain ⟨c3, ec3, Wc3, fc3, gc3⟩ := pa_28 WLc_2 t_a0 (i := x2_2) (by omega) (by omega) (x := a1) (trivial)
        refine wb ec3 ?_
        have F6 := Zfr.tr FLc_2 fc3 (by decide)
        have := li_1
        have := i_add (a := x2_2) (b := 1) (by omega) (by omega)
        exact lInl ⟨rfl, rfl, rfl, Wc3, F6, by (try dsimp only); omega, by (try dsimp only); omega⟩ (by (try dsimp only); omega)
    · exact ⟨rfl, rfl, rfl, W, Zfr.rf, by (try dsimp only); omega, by (try dsimp only); omega⟩
    · (try dsimp only); omega
  obtain ⟨b, eb, hb⟩ := L1
  refine wb eb ?_
  clear eb
  obtain c_7 := b
  try dsimp only at hb ⊢
  obtain ⟨WXc_7, FXc_7⟩ := hb
  have F8 := Zfr.tr F0 FXc_7 (by decide)
  exact ⟨_, rfl, WXc_7, F8⟩

abbrev M_Arrays_fill__RSlot : List (Nat × Nat) := [(46, 0)]
set_option maxRecDepth 100000 in
set_option maxHeartbeats 400000 in
theorem p_Arrays_fill__RSlot {nf : Nat} (hn : 8589934592 ≤ nf) {G : List Nat} {c : Zc} (W : Zwt zty G c) {a0 : Nat} {a1 : Int32}  (t_a0 : G[a0]? = some 46) (pl_a1 : (-1) ≤ a1.toInt) (pu_a1 : a1.toInt ≤ 7) : ∃ q, f_Arrays_fill nf a0 a1 c = some q ∧ Zwt zty G q ∧ Zfr G M_Arrays_fill__RSlot c q := by
  have F0 : Zfr G M_Arrays_fill__RSlot c c := Zfr.rf
  unfold f_Arrays_fill
  refine wb (gl_46 W t_a0) ?_
  unfold f_Arrays_fill_5
  have := li_0
  have := li_66
  have L1 : ∃ b, zlp (fun a : Nat × Int32 × Int32 × Int32 × Zc => g_Arrays_fill_5 nf a.1 a.2.1 a.2.2.1 a.2.2.2.1 a.2.2.2.2) nf (a0, a1, 0, 66, c) = some b ∧ (fun b : (Zc) => Zwt zty G b ∧ Zfr G ([(46, 0)] : List (Nat × Nat)) c b) b := by
    refine wlp (fun a : Nat × Int32 × Int32 × Int32 × Zc => a0 = a.1 ∧ a1 = a.2.1 ∧ (66 : Int32) = a.2.2.2.1 ∧ Zwt zty G a.2.2.2.2 ∧ Zfr G ([(46, 0)] : List (Nat × Nat)) c a.2.2.2.2 ∧ 0 ≤ a.2.2.1.toInt ∧ a.2.2.1.toInt ≤ 66) (fun a => (66 - a.2.2.1.toInt).toNat) (fun b : (Zc) => Zwt zty G b ∧ Zfr G ([(46, 0)] : List (Nat × Nat)) c b) ?_ ?_ ?_
    · rintro ⟨x0_2, x1_2, x2_2, x3_2, c_2⟩ hI
      try dsimp only at hI ⊢
      obtain ⟨rfl, rfl, rfl, WLc_2, FLc_2, j3, j4⟩ := hI
      unfold g_Arrays_fill_5
      refine wi (fun hq5 => ?_) (fun hq5 => ?_)
      · have hq5 := i_le hq5
        exact lInr ⟨WLc_2, FLc_2⟩
      · have hq5 := i_nle hq5
        obtain ⟨c3, ec3, Wc3, fc3, gc3⟩ := pa_46 WLc_2 t_a0 (i := x2_2) (by omega) (by omega) (x := a1) (rgi (by omega) (by omega))
        refine wb ec3 ?_
        have F6 := Zfr.tr FLc_2 fc3 (by decide)
        have := li_1
        have := i_add (a := x2_2) (b := 1) (by omega) (by omega)
        exact lInl ⟨rfl, rfl, rfl, Wc3, F6, by (try dsimp only); omega, by (try dsimp only); omega⟩ (by (try dsimp only); omega)
    · exact ⟨rfl, rfl, rfl, W, Zfr.rf, by (try dsimp only); omega, by (try dsimp only); omega⟩
    · (try dsimp only); omega
  obtain ⟨b, eb, hb⟩ := L1
  refine wb eb ?_
  clear eb
  obtain c_7 := b
  try dsimp only at hb ⊢
  obtain ⟨WXc_7, FXc_7⟩ := hb
  have F8 := Zfr.tr F0 FXc_7 (by decide)
  exact ⟨_, rfl, WXc_7, F8⟩

abbrev M_Arrays_fill__FNext : List (Nat × Nat) := [(53, 0)]
set_option maxRecDepth 100000 in
set_option maxHeartbeats 400000 in
theorem p_Arrays_fill__FNext {nf : Nat} (hn : 8589934592 ≤ nf) {G : List Nat} {c : Zc} (W : Zwt zty G c) {a0 : Nat} {a1 : Int32}  (t_a0 : G[a0]? = some 53) : ∃ q, f_Arrays_fill nf a0 a1 c = some q ∧ Zwt zty G q ∧ Zfr G M_Arrays_fill__FNext c q := by
  have F0 : Zfr G M_Arrays_fill__FNext c c := Zfr.rf
  unfold f_Arrays_fill
  refine wb (gl_53 W t_a0) ?_
  unfold f_Arrays_fill_5
  have := li_0
  have := li_16
  have L1 : ∃ b, zlp (fun a : Nat × Int32 × Int32 × Int32 × Zc => g_Arrays_fill_5 nf a.1 a.2.1 a.2.2.1 a.2.2.2.1 a.2.2.2.2) nf (a0, a1, 0, 16, c) = some b ∧ (fun b : (Zc) => Zwt zty G b ∧ Zfr G ([(53, 0)] : List (Nat × Nat)) c b) b := by
    refine wlp (fun a : Nat × Int32 × Int32 × Int32 × Zc => a0 = a.1 ∧ a1 = a.2.1 ∧ (16 : Int32) = a.2.2.2.1 ∧ Zwt zty G a.2.2.2.2 ∧ Zfr G ([(53, 0)] : List (Nat × Nat)) c a.2.2.2.2 ∧ 0 ≤ a.2.2.1.toInt ∧ a.2.2.1.toInt ≤ 16) (fun a => (16 - a.2.2.1.toInt).toNat) (fun b : (Zc) => Zwt zty G b ∧ Zfr G ([(53, 0)] : List (Nat × Nat)) c b) ?_ ?_ ?_
    · rintro ⟨x0_2, x1_2, x2_2, x3_2, c_2⟩ hI
      try dsimp only at hI ⊢
      obtain ⟨rfl, rfl, rfl, WLc_2, FLc_2, j3, j4⟩ := hI
      unfold g_Arrays_fill_5
      refine wi (fun hq5 => ?_) (fun hq5 => ?_)
      · have hq5 := i_le hq5
        exact lInr ⟨WLc_2, FLc_2⟩
      · have hq5 := i_nle hq5
        obtain ⟨c3, ec3, Wc3, fc3, gc3⟩ := pa_53 WLc_2 t_a0 (i := x2_2) (by omega) (by omega) (x := a1) (trivial)
        refine wb ec3 ?_
        have F6 := Zfr.tr FLc_2 fc3 (by decide)
        have := li_1
        have := i_add (a := x2_2) (b := 1) (by omega) (by omega)
        exact lInl ⟨rfl, rfl, rfl, Wc3, F6, by (try dsimp only); omega, by (try dsimp only); omega⟩ (by (try dsimp only); omega)
    · exact ⟨rfl, rfl, rfl, W, Zfr.rf, by (try dsimp only); omega, by (try dsimp only); omega⟩
    · (try dsimp only); omega
  obtain ⟨b, eb, hb⟩ := L1
  refine wb eb ?_
  clear eb
  obtain c_7 := b
  try dsimp only at hb ⊢
  obtain ⟨WXc_7, FXc_7⟩ := hb
  have F8 := Zfr.tr F0 FXc_7 (by decide)
  exact ⟨_, rfl, WXc_7, F8⟩

abbrev M_Arrays_fill__BGained : List (Nat × Nat) := [(56, 0)]
set_option maxRecDepth 100000 in
set_option maxHeartbeats 400000 in
theorem p_Arrays_fill__BGained {nf : Nat} (hn : 8589934592 ≤ nf) {G : List Nat} {c : Zc} (W : Zwt zty G c) {a0 : Nat} {a1 : Int32}  (t_a0 : G[a0]? = some 56) : ∃ q, f_Arrays_fill nf a0 a1 c = some q ∧ Zwt zty G q ∧ Zfr G M_Arrays_fill__BGained c q := by
  have F0 : Zfr G M_Arrays_fill__BGained c c := Zfr.rf
  unfold f_Arrays_fill
  refine wb (gl_56 W t_a0) ?_
  unfold f_Arrays_fill_5
  have := li_0
  have := li_64
  have L1 : ∃ b, zlp (fun a : Nat × Int32 × Int32 × Int32 × Zc => g_Arrays_fill_5 nf a.1 a.2.1 a.2.2.1 a.2.2.2.1 a.2.2.2.2) nf (a0, a1, 0, 64, c) = some b ∧ (fun b : (Zc) => Zwt zty G b ∧ Zfr G ([(56, 0)] : List (Nat × Nat)) c b) b := by
    refine wlp (fun a : Nat × Int32 × Int32 × Int32 × Zc => a0 = a.1 ∧ a1 = a.2.1 ∧ (64 : Int32) = a.2.2.2.1 ∧ Zwt zty G a.2.2.2.2 ∧ Zfr G ([(56, 0)] : List (Nat × Nat)) c a.2.2.2.2 ∧ 0 ≤ a.2.2.1.toInt ∧ a.2.2.1.toInt ≤ 64) (fun a => (64 - a.2.2.1.toInt).toNat) (fun b : (Zc) => Zwt zty G b ∧ Zfr G ([(56, 0)] : List (Nat × Nat)) c b) ?_ ?_ ?_
    · rintro ⟨x0_2, x1_2, x2_2, x3_2, c_2⟩ hI
      try dsimp only at hI ⊢
      obtain ⟨rfl, rfl, rfl, WLc_2, FLc_2, j3, j4⟩ := hI
      unfold g_Arrays_fill_5
      refine wi (fun hq5 => ?_) (fun hq5 => ?_)
      · have hq5 := i_le hq5
        exact lInr ⟨WLc_2, FLc_2⟩
      · have hq5 := i_nle hq5
        obtain ⟨c3, ec3, Wc3, fc3, gc3⟩ := pa_56 WLc_2 t_a0 (i := x2_2) (by omega) (by omega) (x := a1) (trivial)
        refine wb ec3 ?_
        have F6 := Zfr.tr FLc_2 fc3 (by decide)
        have := li_1
        have := i_add (a := x2_2) (b := 1) (by omega) (by omega)
        exact lInl ⟨rfl, rfl, rfl, Wc3, F6, by (try dsimp only); omega, by (try dsimp only); omega⟩ (by (try dsimp only); omega)
    · exact ⟨rfl, rfl, rfl, W, Zfr.rf, by (try dsimp only); omega, by (try dsimp only); omega⟩
    · (try dsimp only); omega
  obtain ⟨b, eb, hb⟩ := L1
  refine wb eb ?_
  clear eb
  obtain c_7 := b
  try dsimp only at hb ⊢
  obtain ⟨WXc_7, FXc_7⟩ := hb
  have F8 := Zfr.tr F0 FXc_7 (by decide)
  exact ⟨_, rfl, WXc_7, F8⟩

abbrev M_Graph_isNode : List (Nat × Nat) := []
set_option maxRecDepth 100000 in
set_option maxHeartbeats 400000 in
theorem p_Graph_isNode {nf : Nat} (hn : 8589934592 ≤ nf) {G : List Nat} {c : Zc} (W : Zwt zty G c) {a0 : Nat} {a1 : Int32}  (t_a0 : G[a0]? = some 1) : ∃ q, f_Graph_isNode nf a0 a1 c = some q ∧ Zwt zty G q.2 ∧ Zfr G M_Graph_isNode c q.2 ∧ (q.1.toInt = 0 ∨ (0 ≤ a1.toInt ∧ a1.toInt ≤ 15)) ∧ 0 ≤ q.1.toInt ∧ q.1.toInt ≤ 1 := by
  have F0 : Zfr G M_Graph_isNode c c := Zfr.rf
  unfold f_Graph_isNode
  have J1 : ∃ q, f_Graph_isNode_17 nf 0 c = some q ∧ Zwt zty G q.2 ∧ Zfr G M_Graph_isNode c q.2 ∧ (q.1.toInt = 0 ∨ (0 ≤ a1.toInt ∧ a1.toInt ≤ 15)) ∧ 0 ≤ q.1.toInt ∧ q.1.toInt ≤ 1 := by
    unfold f_Graph_isNode_17
    have := li_0
    exact wz (rgi (by omega) (by omega)) ⟨W, F0, by (try dsimp only); omega, by (try dsimp only); omega, by (try dsimp only); omega⟩
  have J2 : ∃ q, f_Graph_isNode_16 nf c = some q ∧ Zwt zty G q.2 ∧ Zfr G M_Graph_isNode c q.2 ∧ (q.1.toInt = 0 ∨ (0 ≤ a1.toInt ∧ a1.toInt ≤ 15)) ∧ 0 ≤ q.1.toInt ∧ q.1.toInt ≤ 1 := by
    unfold f_Graph_isNode_16
    exact J1
  refine wi (fun hq3 => ?_) (fun hq3 => ?_)
  · have := li_0
    have := i_ge a1
    have := i_up a1
    have hq3 := i_lt hq3
    exact J2
  · have := li_0
    have := i_ge a1
    have := i_up a1
    have hq3 := i_nlt hq3
    obtain ⟨v2, ev2, lv2, uv2⟩ := gf_1_7 W t_a0
    refine wb ev2 ?_
    refine wi (fun hq4 => ?_) (fun hq4 => ?_)
    · have hq4 := i_le hq4
      exact J2
    · have hq4 := i_nle hq4
      unfold f_Graph_isNode_17
      have := li_1
      exact wz (rgi (by omega) (by omega)) ⟨W, F0, by (try dsimp only); omega, by (try dsimp only); omega, by (try dsimp only); omega⟩

abbrev M_Graph_isArc : List (Nat × Nat) := []
set_option maxRecDepth 100000 in
set_option maxHeartbeats 400000 in
theorem p_Graph_isArc {nf : Nat} (hn : 8589934592 ≤ nf) {G : List Nat} {c : Zc} (W : Zwt zty G c) {a0 : Nat} {a1 : Int32}  (t_a0 : G[a0]? = some 1) : ∃ q, f_Graph_isArc nf a0 a1 c = some q ∧ Zwt zty G q.2 ∧ Zfr G M_Graph_isArc c q.2 ∧ (q.1.toInt = 0 ∨ (0 ≤ a1.toInt ∧ a1.toInt ≤ 99)) ∧ 0 ≤ q.1.toInt ∧ q.1.toInt ≤ 1 := by
  have F0 : Zfr G M_Graph_isArc c c := Zfr.rf
  unfold f_Graph_isArc
  have J1 : ∃ q, f_Graph_isArc_25 nf 0 c = some q ∧ Zwt zty G q.2 ∧ Zfr G M_Graph_isArc c q.2 ∧ (q.1.toInt = 0 ∨ (0 ≤ a1.toInt ∧ a1.toInt ≤ 99)) ∧ 0 ≤ q.1.toInt ∧ q.1.toInt ≤ 1 := by
    unfold f_Graph_isArc_25
    have := li_0
    exact wz (rgi (by omega) (by omega)) ⟨W, F0, by (try dsimp only); omega, by (try dsimp only); omega, by (try dsimp only); omega⟩
  have J2 : ∃ q, f_Graph_isArc_24 nf c = some q ∧ Zwt zty G q.2 ∧ Zfr G M_Graph_isArc c q.2 ∧ (q.1.toInt = 0 ∨ (0 ≤ a1.toInt ∧ a1.toInt ≤ 99)) ∧ 0 ≤ q.1.toInt ∧ q.1.toInt ≤ 1 := by
    unfold f_Graph_isArc_24
    exact J1
  refine wi (fun hq3 => ?_) (fun hq3 => ?_)
  · have := li_0
    have := i_ge a1
    have := i_up a1
    have hq3 := i_lt hq3
    exact J2
  · have := li_0
    have := i_ge a1
    have := i_up a1
    have hq3 := i_nlt hq3
    refine wi (fun hq4 => ?_) (fun hq4 => ?_)
    · have := li_100
      have hq4 := i_le hq4
      exact J2
    · have := li_100
      have hq4 := i_nle hq4
      obtain ⟨v3, ev3, tv3⟩ := gf_1_4 W t_a0
      refine wb ev3 ?_
      obtain ⟨v4, ev4, lv4, uv4⟩ := ga_19 W tv3 (i := a1) (by omega) (by omega)
      refine wb ev4 ?_
      refine wi (fun hq5 => ?_) (fun hq5 => ?_)
      · have := li_m1
        have hq5 := i_eq hq5
        exact J2
      · have := li_m1
        have hq5 := i_ne hq5
        unfold f_Graph_isArc_25
        have := li_1
        exact wz (rgi (by omega) (by omega)) ⟨W, F0, by (try dsimp only); omega, by (try dsimp only); omega, by (try dsimp only); omega⟩

abbrev M_Graph_addNode : List (Nat × Nat) := [(1, 7), (1, 9), (15, 0)]
set_option maxRecDepth 100000 in
set_option maxHeartbeats 400000 in
theorem p_Graph_addNode {nf : Nat} (hn : 8589934592 ≤ nf) {G : List Nat} {c : Zc} (W : Zwt zty G c) {a0 : Nat} {a1 : Int32}  (t_a0 : G[a0]? = some 1) (pl_a1 : 0 ≤ a1.toInt) (pu_a1 : a1.toInt ≤ 255) : ∃ q, f_Graph_addNode nf a0 a1 c = some q ∧ Zwt zty G q.2 ∧ Zfr G M_Graph_addNode c q.2 := by
  have F0 : Zfr G M_Graph_addNode c c := Zfr.rf
  unfold f_Graph_addNode
  obtain ⟨v1, ev1, lv1, uv1⟩ := gf_1_7 W t_a0
  refine wb ev1 ?_
  refine wi (fun hq1 => ?_) (fun hq1 => ?_)
  · have := li_16
    have hq1 := i_lt hq1
    obtain ⟨v3, ev3, tv3⟩ := gf_1_0 W t_a0
    refine wb ev3 ?_
    refine wb ev1 ?_
    obtain ⟨c5, ec5, Wc5, fc5, gc5⟩ := pa_15 W tv3 (i := v1) (by omega) (by omega) (x := a1) (rgi (by omega) (by omega))
    refine wb ec5 ?_
    have e2 := (Zfr.gi fc5 t_a0 (by decide)).trans ev1
    have F3 := Zfr.tr F0 fc5 (by decide)
    refine wb e2 ?_
    have := li_1
    have := i_add (a := v1) (b := 1) (by omega) (by omega)
    obtain ⟨c7, ec7, Wc7, fc7, gc7⟩ := pf_1_7 Wc5 t_a0 (x := (v1 + 1)) (rgi (by omega) (by omega))
    refine wb ec7 ?_
    have F4 := Zfr.tr F3 fc7 (by decide)
    obtain ⟨v8, ev8, _⟩ := gf_1_9 Wc7 t_a0
    refine wb ev8 ?_
    obtain ⟨c9, ec9, Wc9, fc9, gc9⟩ := pf_1_9 Wc7 t_a0 (x := (v8 + 1)) (trivial)
    refine wb ec9 ?_
    have e5 := (Zfr.gi fc9 t_a0 (by decide)).trans gc7
    have F6 := Zfr.tr F4 fc9 (by decide)
    refine wb e5 ?_
    have := i_sub (a := (v1 + 1)) (b := 1) (by omega) (by omega)
    exact ⟨_, rfl, Wc9, F6⟩
  · have := li_16
    have hq1 := i_nlt hq1
    have := li_m3
    exact ⟨_, rfl, W, F0⟩

abbrev M_Graph_changeMarks : List (Nat × Nat) := [(1, 9), (15, 0)]
set_option maxRecDepth 100000 in
set_option maxHeartbeats 400000 in
theorem p_Graph_changeMarks {nf : Nat} (hn : 8589934592 ≤ nf) {G : List Nat} {c : Zc} (W : Zwt zty G c) {a0 : Nat} {a1 : Int32} {a2 : Int32}  (t_a0 : G[a0]? = some 1) (pl_a1 : 0 ≤ a1.toInt) (pu_a1 : a1.toInt ≤ 15) (pl_a2 : 0 ≤ a2.toInt) (pu_a2 : a2.toInt ≤ 255) : ∃ q, f_Graph_changeMarks nf a0 a1 a2 c = some q ∧ Zwt zty G q.2 ∧ Zfr G M_Graph_changeMarks c q.2 := by
  have F0 : Zfr G M_Graph_changeMarks c c := Zfr.rf
  unfold f_Graph_changeMarks
  obtain ⟨v1, ev1, tv1⟩ := gf_1_0 W t_a0
  refine wb ev1 ?_
  obtain ⟨v2, ev2, lv2, uv2⟩ := ga_15 W tv1 (i := a1) (by omega) (by omega)
  refine wb ev2 ?_
  refine wb ev1 ?_
  obtain ⟨c4, ec4, Wc4, fc4, gc4⟩ := pa_15 W tv1 (i := a1) (by omega) (by omega) (x := a2) (rgi (by omega) (by omega))
  refine wb ec4 ?_
  have F1 := Zfr.tr F0 fc4 (by decide)
  obtain ⟨v5, ev5, _⟩ := gf_1_9 Wc4 t_a0
  refine wb ev5 ?_
  obtain ⟨c6, ec6, Wc6, fc6, gc6⟩ := pf_1_9 Wc4 t_a0 (x := (v5 + 1)) (trivial)
  refine wb ec6 ?_
  have F2 := Zfr.tr F1 fc6 (by decide)
  exact ⟨_, rfl, Wc6, F2⟩

abbrev M_Graph_changeColumn : List (Nat × Nat) := [(1, 9), (16, 0)]
set_option maxRecDepth 100000 in
set_option maxHeartbeats 400000 in
theorem p_Graph_changeColumn {nf : Nat} (hn : 8589934592 ≤ nf) {G : List Nat} {c : Zc} (W : Zwt zty G c) {a0 : Nat} {a1 : Int32} {a2 : Int32} {a3 : Int32}  (t_a0 : G[a0]? = some 1) (pl_a1 : 0 ≤ a1.toInt) (pu_a1 : a1.toInt ≤ 15) (pl_a2 : 0 ≤ a2.toInt) (pu_a2 : a2.toInt ≤ 3) (pl_a3 : (-9999) ≤ a3.toInt) (pu_a3 : a3.toInt ≤ 9999) : ∃ q, f_Graph_changeColumn nf a0 a1 a2 a3 c = some q ∧ Zwt zty G q.2 ∧ Zfr G M_Graph_changeColumn c q.2 := by
  have F0 : Zfr G M_Graph_changeColumn c c := Zfr.rf
  unfold f_Graph_changeColumn
  obtain ⟨v1, ev1, tv1⟩ := gf_1_1 W t_a0
  refine wb ev1 ?_
  have := li_4
  have := i_mulr (a := a1) (b := 4) (n := 4) li_4 (by omega) (by omega)
  have := i_add (a := (a1 * 4)) (b := a2) (by omega) (by omega)
  obtain ⟨v2, ev2, lv2, uv2⟩ := ga_16 W tv1 (i := ((a1 * 4) + a2)) (by omega) (by omega)
  refine wb ev2 ?_
  refine wb ev1 ?_
  obtain ⟨c4, ec4, Wc4, fc4, gc4⟩ := pa_16 W tv1 (i := ((a1 * 4) + a2)) (by omega) (by omega) (x := a3) (rgi (by omega) (by omega))
  refine wb ec4 ?_
  have F1 := Zfr.tr F0 fc4 (by decide)
  obtain ⟨v5, ev5, _⟩ := gf_1_9 Wc4 t_a0
  refine wb ev5 ?_
  obtain ⟨c6, ec6, Wc6, fc6, gc6⟩ := pf_1_9 Wc4 t_a0 (x := (v5 + 1)) (trivial)
  refine wb ec6 ?_
  have F2 := Zfr.tr F1 fc6 (by decide)
  exact ⟨_, rfl, Wc6, F2⟩

abbrev M_Graph_addArc : List (Nat × Nat) := [(1, 8), (1, 9), (17, 0), (18, 0), (19, 0), (20, 0)]
set_option maxRecDepth 100000 in
set_option maxHeartbeats 400000 in
theorem p_Graph_addArc {nf : Nat} (hn : 8589934592 ≤ nf) {G : List Nat} {c : Zc} (W : Zwt zty G c) {a0 : Nat} {a1 : Int32} {a2 : Int32} {a3 : Int32} {a4 : Int32}  (t_a0 : G[a0]? = some 1) (pl_a1 : 0 ≤ a1.toInt) (pu_a1 : a1.toInt ≤ 15) (pl_a2 : 0 ≤ a2.toInt) (pu_a2 : a2.toInt ≤ 15) (pl_a3 : 0 ≤ a3.toInt) (pu_a3 : a3.toInt ≤ 7) (pl_a4 : 0 ≤ a4.toInt) (pu_a4 : a4.toInt ≤ 99) : ∃ q, f_Graph_addArc nf a0 a1 a2 a3 a4 c = some q ∧ Zwt zty G q.2 ∧ Zfr G M_Graph_addArc c q.2 := by
  have F0 : Zfr G M_Graph_addArc c c := Zfr.rf
  unfold f_Graph_addArc
  unfold f_Graph_addArc_3
  have := li_0
  have L1 : ∃ b, zlp (fun a : Nat × Int32 × Int32 × Int32 × Int32 × Int32 × Zc => g_Graph_addArc_3 nf a.1 a.2.1 a.2.2.1 a.2.2.2.1 a.2.2.2.2.1 a.2.2.2.2.2.1 a.2.2.2.2.2.2) nf (a0, a1, a2, a3, a4, 0, c) = some b ∧ (fun b : ((Nat × Int32 × Int32 × Int32 × Int32 × Int32 × Zc) ⊕ (Zc)) => (match b with | .inl b => a0 = b.1 ∧ a1 = b.2.1 ∧ a2 = b.2.2.1 ∧ a3 = b.2.2.2.1 ∧ a4 = b.2.2.2.2.1 ∧ Zwt zty G b.2.2.2.2.2.2 ∧ Zfr G ([] : List (Nat × Nat)) c b.2.2.2.2.2.2 ∧ 0 ≤ b.2.2.2.2.2.1.toInt ∧ b.2.2.2.2.2.1.toInt ≤ 99 | .inr b => Zwt zty G b ∧ Zfr G ([] : List (Nat × Nat)) c b)) b := by
    refine wlp (fun a : Nat × Int32 × Int32 × Int32 × Int32 × Int32 × Zc => a0 = a.1 ∧ a1 = a.2.1 ∧ a2 = a.2.2.1 ∧ a3 = a.2.2.2.1 ∧ a4 = a.2.2.2.2.1 ∧ Zwt zty G a.2.2.2.2.2.2 ∧ Zfr G ([] : List (Nat × Nat)) c a.2.2.2.2.2.2 ∧ 0 ≤ a.2.2.2.2.2.1.toInt ∧ a.2.2.2.2.2.1.toInt ≤ 100) (fun a => (100 - a.2.2.2.2.2.1.toInt).toNat) (fun b : ((Nat × Int32 × Int32 × Int32 × Int32 × Int32 × Zc) ⊕ (Zc)) => (match b with | .inl b => a0 = b.1 ∧ a1 = b.2.1 ∧ a2 = b.2.2.1 ∧ a3 = b.2.2.2.1 ∧ a4 = b.2.2.2.2.1 ∧ Zwt zty G b.2.2.2.2.2.2 ∧ Zfr G ([] : List (Nat × Nat)) c b.2.2.2.2.2.2 ∧ 0 ≤ b.2.2.2.2.2.1.toInt ∧ b.2.2.2.2.2.1.toInt ≤ 99 | .inr b => Zwt zty G b ∧ Zfr G ([] : List (Nat × Nat)) c b)) ?_ ?_ ?_
    · rintro ⟨x0_2, x1_2, x2_2, x3_2, x4_2, x5_2, c_2⟩ hI
      try dsimp only at hI ⊢
      obtain ⟨rfl, rfl, rfl, rfl, rfl, WLc_2, FLc_2, j3, j4⟩ := hI
      unfold g_Graph_addArc_3
      refine wi (fun hq5 => ?_) (fun hq5 => ?_)
      · have := li_100
        have hq5 := i_le hq5
        exact lInr ⟨WLc_2, FLc_2⟩
      · have := li_100
        have hq5 := i_nle hq5
        obtain ⟨v2, ev2, tv2⟩ := gf_1_4 WLc_2 t_a0
        refine wb ev2 ?_
        obtain ⟨v3, ev3, lv3, uv3⟩ := ga_19 WLc_2 tv2 (i := x5_2) (by omega) (by omega)
        refine wb ev3 ?_
        refine wi (fun hq6 => ?_) (fun hq6 => ?_)
        · have := li_m1
          have hq6 := i_eq hq6
          exact lInr ⟨rfl, rfl, rfl, rfl, rfl, WLc_2, FLc_2, by (try dsimp only); omega, by (try dsimp only); omega⟩
        · have := li_m1
          have hq6 := i_ne hq6
          have := li_1
          have := i_add (a := x5_2) (b := 1) (by omega) (by omega)
          exact lInl ⟨rfl, rfl, rfl, rfl, rfl, WLc_2, FLc_2, by (try dsimp only); omega, by (try dsimp only); omega⟩ (by (try dsimp only); omega)
    · exact ⟨rfl, rfl, rfl, rfl, rfl, W, Zfr.rf, by (try dsimp only); omega, by (try dsimp only); omega⟩
    · (try dsimp only); omega
  obtain ⟨b, eb, hb⟩ := L1
  refine wb eb ?_
  clear eb
  rcases b with b | b
  · obtain ⟨z0_7, z1_7, z2_7, z3_7, z4_7, z5_7, c_7⟩ := b
    try dsimp only at hb ⊢
    obtain ⟨rfl, rfl, rfl, rfl, rfl, WXc_7, FXc_7, j8, j9⟩ := hb
    have F10 := Zfr.tr F0 FXc_7 (by decide)
    obtain ⟨v5, ev5, tv5⟩ := gf_1_2 WXc_7 t_a0
    refine wb ev5 ?_
    obtain ⟨c6, ec6, Wc6, fc6, gc6⟩ := pa_17 WXc_7 tv5 (i := z5_7) (by omega) (by omega) (x := a1) (rgi (by omega) (by omega))
    refine wb ec6 ?_
    have F11 := Zfr.tr F10 fc6 (by decide)
    obtain ⟨v7, ev7, tv7⟩ := gf_1_3 Wc6 t_a0
    refine wb ev7 ?_
    obtain ⟨c8, ec8, Wc8, fc8, gc8⟩ := pa_18 Wc6 tv7 (i := z5_7) (by omega) (by omega) (x := a2) (rgi (by omega) (by omega))
    refine wb ec8 ?_
    have F12 := Zfr.tr F11 fc8 (by decide)
    obtain ⟨v9, ev9, tv9⟩ := gf_1_4 Wc8 t_a0
    refine wb ev9 ?_
    obtain ⟨c10, ec10, Wc10, fc10, gc10⟩ := pa_19 Wc8 tv9 (i := z5_7) (by omega) (by omega) (x := a3) (rgi (by omega) (by omega))
    refine wb ec10 ?_
    have F13 := Zfr.tr F12 fc10 (by decide)
    obtain ⟨v11, ev11, tv11⟩ := gf_1_5 Wc10 t_a0
    refine wb ev11 ?_
    obtain ⟨c12, ec12, Wc12, fc12, gc12⟩ := pa_20 Wc10 tv11 (i := z5_7) (by omega) (by omega) (x := a4) (rgi (by omega) (by omega))
    refine wb ec12 ?_
    have F14 := Zfr.tr F13 fc12 (by decide)
    obtain ⟨v13, ev13, _⟩ := gf_1_8 Wc12 t_a0
    refine wb ev13 ?_
    obtain ⟨c14, ec14, Wc14, fc14, gc14⟩ := pf_1_8 Wc12 t_a0 (x := (v13 + 1)) (trivial)
    refine wb ec14 ?_
    have F15 := Zfr.tr F14 fc14 (by decide)
    obtain ⟨v15, ev15, _⟩ := gf_1_9 Wc14 t_a0
    refine wb ev15 ?_
    obtain ⟨c16, ec16, Wc16, fc16, gc16⟩ := pf_1_9 Wc14 t_a0 (x := (v15 + 1)) (trivial)
    refine wb ec16 ?_
    have F16 := Zfr.tr F15 fc16 (by decide)
    exact ⟨_, rfl, Wc16, F16⟩
  · obtain c_17 := b
    try dsimp only at hb ⊢
    obtain ⟨WXc_17, FXc_17⟩ := hb
    have F18 := Zfr.tr F0 FXc_17 (by decide)
    have := li_m3
    exact ⟨_, rfl, WXc_17, F18⟩

abbrev M_Graph_removeArc : List (Nat × Nat) := [(1, 8), (1, 9), (19, 0)]
set_option maxRecDepth 100000 in
set_option maxHeartbeats 400000 in
theorem p_Graph_removeArc {nf : Nat} (hn : 8589934592 ≤ nf) {G : List Nat} {c : Zc} (W : Zwt zty G c) {a0 : Nat} {a1 : Int32}  (t_a0 : G[a0]? = some 1) (pl_a1 : 0 ≤ a1.toInt) (pu_a1 : a1.toInt ≤ 99) : ∃ q, f_Graph_removeArc nf a0 a1 c = some q ∧ Zwt zty G q ∧ Zfr G M_Graph_removeArc c q := by
  have F0 : Zfr G M_Graph_removeArc c c := Zfr.rf
  unfold f_Graph_removeArc
  obtain ⟨v1, ev1, tv1⟩ := gf_1_4 W t_a0
  refine wb ev1 ?_
  have := li_m1
  obtain ⟨c2, ec2, Wc2, fc2, gc2⟩ := pa_19 W tv1 (i := a1) (by omega) (by omega) (x := (-1)) (rgi (by omega) (by omega))
  refine wb ec2 ?_
  have F1 := Zfr.tr F0 fc2 (by decide)
  obtain ⟨v3, ev3, _⟩ := gf_1_8 Wc2 t_a0
  refine wb ev3 ?_
  obtain ⟨c4, ec4, Wc4, fc4, gc4⟩ := pf_1_8 Wc2 t_a0 (x := (v3 - 1)) (trivial)
  refine wb ec4 ?_
  have F2 := Zfr.tr F1 fc4 (by decide)
  obtain ⟨v5, ev5, _⟩ := gf_1_9 Wc4 t_a0
  refine wb ev5 ?_
  obtain ⟨c6, ec6, Wc6, fc6, gc6⟩ := pf_1_9 Wc4 t_a0 (x := (v5 + 1)) (trivial)
  refine wb ec6 ?_
  have F3 := Zfr.tr F2 fc6 (by decide)
  exact ⟨_, rfl, Wc6, F3⟩

abbrev M_Graph_strip : List (Nat × Nat) := [(1, 8), (1, 9), (15, 0), (16, 0), (19, 0)]
set_option maxRecDepth 100000 in
set_option maxHeartbeats 400000 in
theorem p_Graph_strip {nf : Nat} (hn : 8589934592 ≤ nf) {G : List Nat} {c : Zc} (W : Zwt zty G c) {a0 : Nat} {a1 : Int32}  (t_a0 : G[a0]? = some 1) (pl_a1 : 0 ≤ a1.toInt) (pu_a1 : a1.toInt ≤ 15) : ∃ q, f_Graph_strip nf a0 a1 c = some q ∧ Zwt zty G q.2 ∧ Zfr G M_Graph_strip c q.2 := by
  have F0 : Zfr G M_Graph_strip c c := Zfr.rf
  unfold f_Graph_strip
  unfold f_Graph_strip_4
  have := li_0
  have L1 : ∃ b, zlp (fun a : Nat × Int32 × Int32 × Int32 × Zc => g_Graph_strip_4 nf a.1 a.2.1 a.2.2.1 a.2.2.2.1 a.2.2.2.2) nf (a0, a1, 0, 0, c) = some b ∧ (fun b : (Nat × Int32 × Int32 × Zc) => a0 = b.1 ∧ a1 = b.2.1 ∧ Zwt zty G b.2.2.2 ∧ Zfr G ([(1, 8), (1, 9), (19, 0)] : List (Nat × Nat)) c b.2.2.2) b := by
    refine wlp (fun a : Nat × Int32 × Int32 × Int32 × Zc => a0 = a.1 ∧ a1 = a.2.1 ∧ Zwt zty G a.2.2.2.2 ∧ Zfr G ([(1, 8), (1, 9), (19, 0)] : List (Nat × Nat)) c a.2.2.2.2 ∧ 0 ≤ a.2.2.2.1.toInt ∧ a.2.2.2.1.toInt ≤ 100) (fun a => (100 - a.2.2.2.1.toInt).toNat) (fun b : (Nat × Int32 × Int32 × Zc) => a0 = b.1 ∧ a1 = b.2.1 ∧ Zwt zty G b.2.2.2 ∧ Zfr G ([(1, 8), (1, 9), (19, 0)] : List (Nat × Nat)) c b.2.2.2) ?_ ?_ ?_
    · rintro ⟨x0_2, x1_2, x2_2, x3_2, c_2⟩ hI
      try dsimp only at hI ⊢
      obtain ⟨rfl, rfl, WLc_2, FLc_2, j3, j4⟩ := hI
      unfold g_Graph_strip_4
      refine wi (fun hq5 => ?_) (fun hq5 => ?_)
      · have := li_100
        have hq5 := i_le hq5
        exact lInr ⟨rfl, rfl, WLc_2, FLc_2⟩
      · have := li_100
        have hq5 := i_nle hq5
        obtain ⟨v2, ev2, tv2⟩ := gf_1_4 WLc_2 t_a0
        refine wb ev2 ?_
        obtain ⟨v3, ev3, lv3, uv3⟩ := ga_19 WLc_2 tv2 (i := x3_2) (by omega) (by omega)
        refine wb ev3 ?_
        refine wi (fun hq6 => ?_) (fun hq6 => ?_)
        · have := li_m1
          have hq6 := i_eq hq6
          unfold f_Graph_strip_48
          have := li_1
          have := i_add (a := x3_2) (b := 1) (by omega) (by omega)
          exact lInl ⟨rfl, rfl, WLc_2, FLc_2, by (try dsimp only); omega, by (try dsimp only); omega⟩ (by (try dsimp only); omega)
        · have := li_m1
          have hq6 := i_ne hq6
          obtain ⟨v5, ev5, tv5⟩ := gf_1_2 WLc_2 t_a0
          refine wb ev5 ?_
          obtain ⟨v6, ev6, lv6, uv6⟩ := ga_17 WLc_2 tv5 (i := x3_2) (by omega) (by omega)
          refine wb ev6 ?_
          refine wi (fun hq7 => ?_) (fun hq7 => ?_)
          · have hq7 := i_eq hq7
            unfold f_Graph_strip_40
            obtain ⟨w9, ew9⟩ := go_1 WLc_2 t_a0
            refine wb ew9 ?_
            obtain ⟨q8, eq8, Wq8, fq8⟩ := p_Graph_removeArc hn WLc_2 (a1 := x3_2) t_a0 (by omega) (by omega)
            refine wb eq8 ?_
            have F8 := Zfr.tr FLc_2 fq8 (by decide)
            unfold f_Graph_strip_48
            have := li_1
            have := i_add (a := x3_2) (b := 1) (by omega) (by omega)
            exact lInl ⟨rfl, rfl, Wq8, F8, by (try dsimp only); omega, by (try dsimp only); omega⟩ (by (try dsimp only); omega)
          · have hq7 := i_ne hq7
            obtain ⟨v10, ev10, tv10⟩ := gf_1_3 WLc_2 t_a0
            refine wb ev10 ?_
            obtain ⟨v11, ev11, lv11, uv11⟩ := ga_18 WLc_2 tv10 (i := x3_2) (by omega) (by omega)
            refine wb ev11 ?_
            refine wi (fun hq9 => ?_) (fun hq9 => ?_)
            · have hq9 := i_eq hq9
              unfold f_Graph_strip_40
              obtain ⟨w9, ew9⟩ := go_1 WLc_2 t_a0
              refine wb ew9 ?_
              obtain ⟨q8, eq8, Wq8, fq8⟩ := p_Graph_removeArc hn WLc_2 (a1 := x3_2) t_a0 (by omega) (by omega)
              refine wb eq8 ?_
              have F10 := Zfr.tr FLc_2 fq8 (by decide)
              unfold f_Graph_strip_48
              have := li_1
              have := i_add (a := x3_2) (b := 1) (by omega) (by omega)
              exact lInl ⟨rfl, rfl, Wq8, F10, by (try dsimp only); omega, by (try dsimp only); omega⟩ (by (try dsimp only); omega)
            · have hq9 := i_ne hq9
              unfold f_Graph_strip_48
              have := li_1
              have := i_add (a := x3_2) (b := 1) (by omega) (by omega)
              exact lInl ⟨rfl, rfl, WLc_2, FLc_2, by (try dsimp only); omega, by (try dsimp only); omega⟩ (by (try dsimp only); omega)
    · exact ⟨rfl, rfl, W, Zfr.rf, by (try dsimp only); omega, by (try dsimp only); omega⟩
    · (try dsimp only); omega
  obtain ⟨b, eb, hb⟩ := L1
  refine wb eb ?_
  clear eb
  obtain ⟨z0_11, z1_11, z2_11, c_11⟩ := b
  try dsimp only at hb ⊢
  obtain ⟨rfl, rfl, WXc_11, FXc_11⟩ := hb
  have F12 := Zfr.tr F0 FXc_11 (by decide)
  obtain ⟨v13, ev13, tv13⟩ := gf_1_0 WXc_11 t_a0
  refine wb ev13 ?_
  obtain ⟨c14, ec14, Wc14, fc14, gc14⟩ := pa_15 WXc_11 tv13 (i := a1) (by omega) (by omega) (x := 0) (rgi (by omega) (by omega))
  refine wb ec14 ?_
  have F13 := Zfr.tr F12 fc14 (by decide)
  unfold f_Graph_strip_63
  have L14 : ∃ b, zlp (fun a : Nat × Int32 × Int32 × Int32 × Zc => g_Graph_strip_63 nf a.1 a.2.1 a.2.2.1 a.2.2.2.1 a.2.2.2.2) nf (a0, a1, z2_11, 0, c14) = some b ∧ (fun b : (Nat × Int32 × Zc) => a0 = b.1 ∧ z2_11 = b.2.1 ∧ Zwt zty G b.2.2 ∧ Zfr G ([(16, 0)] : List (Nat × Nat)) c14 b.2.2) b := by
    refine wlp (fun a : Nat × Int32 × Int32 × Int32 × Zc => a0 = a.1 ∧ a1 = a.2.1 ∧ z2_11 = a.2.2.1 ∧ Zwt zty G a.2.2.2.2 ∧ Zfr G ([(16, 0)] : List (Nat × Nat)) c14 a.2.2.2.2 ∧ 0 ≤ a.2.2.2.1.toInt ∧ a.2.2.2.1.toInt ≤ 4) (fun a => (4 - a.2.2.2.1.toInt).toNat) (fun b : (Nat × Int32 × Zc) => a0 = b.1 ∧ z2_11 = b.2.1 ∧ Zwt zty G b.2.2 ∧ Zfr G ([(16, 0)] : List (Nat × Nat)) c14 b.2.2) ?_ ?_ ?_
    · rintro ⟨x0_15, x1_15, x2_15, x3_15, c_15⟩ hI
      try dsimp only at hI ⊢
      obtain ⟨rfl, rfl, rfl, WLc_15, FLc_15, j16, j17⟩ := hI
      unfold g_Graph_strip_63
      refine wi (fun hq18 => ?_) (fun hq18 => ?_)
      · have := li_4
        have hq18 := i_le hq18
        exact lInr ⟨rfl, rfl, WLc_15, FLc_15⟩
      · have := li_4
        have hq18 := i_nle hq18
        obtain ⟨v16, ev16, tv16⟩ := gf_1_1 WLc_15 t_a0
        refine wb ev16 ?_
        have := i_mulr (a := a1) (b := 4) (n := 4) li_4 (by omega) (by omega)
        have := i_add (a := (a1 * 4)) (b := x3_15) (by omega) (by omega)
        obtain ⟨c17, ec17, Wc17, fc17, gc17⟩ := pa_16 WLc_15 tv16 (i := ((a1 * 4) + x3_15)) (by omega) (by omega) (x := 0) (rgi (by omega) (by omega))
        refine wb ec17 ?_
        have F19 := Zfr.tr FLc_15 fc17 (by decide)
        have := li_1
        have := i_add (a := x3_15) (b := 1) (by omega) (by omega)
        exact lInl ⟨rfl, rfl, rfl, Wc17, F19, by (try dsimp only); omega, by (try dsimp only); omega⟩ (by (try dsimp only); omega)
    · exact ⟨rfl, rfl, rfl, Wc14, Zfr.rf, by (try dsimp only); omega, by (try dsimp only); omega⟩
    · (try dsimp only); omega
  obtain ⟨b, eb, hb⟩ := L14
  refine wb eb ?_
  clear eb
  obtain ⟨z0_20, z1_20, c_20⟩ := b
  try dsimp only at hb ⊢
  obtain ⟨rfl, rfl, WXc_20, FXc_20⟩ := hb
  have F21 := Zfr.tr F13 FXc_20 (by decide)
  obtain ⟨v18, ev18, _⟩ := gf_1_9 WXc_20 t_a0
  refine wb ev18 ?_
  obtain ⟨c19, ec19, Wc19, fc19, gc19⟩ := pf_1_9 WXc_20 t_a0 (x := (v18 + 1)) (trivial)
  refine wb ec19 ?_
  have F22 := Zfr.tr F21 fc19 (by decide)
  exact ⟨_, rfl, Wc19, F22⟩

abbrev M_Graph_ofNode : List (Nat × Nat) := []
set_option maxRecDepth 100000 in
set_option maxHeartbeats 400000 in
theorem p_Graph_ofNode {nf : Nat} (hn : 8589934592 ≤ nf) {G : List Nat} {c : Zc} (W : Zwt zty G c) {a0 : Nat} {a1 : Int32} {a2 : Int32}  (t_a0 : G[a0]? = some 1) (pl_a1 : 3 ≤ a1.toInt) (pu_a1 : a1.toInt ≤ 9) (pl_a2 : 0 ≤ a2.toInt) (pu_a2 : a2.toInt ≤ 15) : ∃ q, f_Graph_ofNode nf a0 a1 a2 c = some q ∧ Zwt zty G q.2 ∧ Zfr G M_Graph_ofNode c q.2 := by
  have F0 : Zfr G M_Graph_ofNode c c := Zfr.rf
  unfold f_Graph_ofNode
  refine wi (fun hq1 => ?_) (fun hq1 => ?_)
  · have := li_3
    have hq1 := i_eq hq1
    obtain ⟨v15, ev15, tv15⟩ := gf_1_0 W t_a0
    refine wb ev15 ?_
    obtain ⟨v16, ev16, lv16, uv16⟩ := ga_15 W tv15 (i := a2) (by omega) (by omega)
    refine wb ev16 ?_
    exact ⟨_, rfl, W, F0⟩
  · have := li_3
    have hq1 := i_ne hq1
    refine wi (fun hq2 => ?_) (fun hq2 => ?_)
    · have := li_7
      have hq2 := i_lt hq2
      unfold f_Graph_ofNode_36
      have := li_0
      have L3 : ∃ b, zlp (fun a : Nat × Int32 × Int32 × Int32 × Int32 × Zc => g_Graph_ofNode_36 nf a.1 a.2.1 a.2.2.1 a.2.2.2.1 a.2.2.2.2.1 a.2.2.2.2.2) nf (a0, a1, a2, 0, 0, c) = some b ∧ (fun b : (Int32 × Zc) => Zwt zty G b.2 ∧ Zfr G ([] : List (Nat × Nat)) c b.2) b := by
        refine wlp (fun a : Nat × Int32 × Int32 × Int32 × Int32 × Zc => a0 = a.1 ∧ a1 = a.2.1 ∧ a2 = a.2.2.1 ∧ Zwt zty G a.2.2.2.2.2 ∧ Zfr G ([] : List (Nat × Nat)) c a.2.2.2.2.2 ∧ 0 ≤ a.2.2.2.2.1.toInt ∧ a.2.2.2.2.1.toInt ≤ 100) (fun a => (100 - a.2.2.2.2.1.toInt).toNat) (fun b : (Int32 × Zc) => Zwt zty G b.2 ∧ Zfr G ([] : List (Nat × Nat)) c b.2) ?_ ?_ ?_
        · rintro ⟨x0_4, x1_4, x2_4, x3_4, x4_4, c_4⟩ hI
          try dsimp only at hI ⊢
          obtain ⟨rfl, rfl, rfl, WLc_4, FLc_4, j5, j6⟩ := hI
          unfold g_Graph_ofNode_36
          refine wi (fun hq7 => ?_) (fun hq7 => ?_)
          · have := li_100
            have hq7 := i_le hq7
            exact lInr ⟨WLc_4, FLc_4⟩
          · have := li_100
            have hq7 := i_nle hq7
            obtain ⟨v4, ev4, tv4⟩ := gf_1_4 WLc_4 t_a0
            refine wb ev4 ?_
            obtain ⟨v5, ev5, lv5, uv5⟩ := ga_19 WLc_4 tv4 (i := x4_4) (by omega) (by omega)
            refine wb ev5 ?_
            refine wi (fun hq8 => ?_) (fun hq8 => ?_)
            · have := li_m1
              have hq8 := i_eq hq8
              unfold f_Graph_ofNode_84
              have := li_1
              have := i_add (a := x4_4) (b := 1) (by omega) (by omega)
              exact lInl ⟨rfl, rfl, rfl, WLc_4, FLc_4, by (try dsimp only); omega, by (try dsimp only); omega⟩ (by (try dsimp only); omega)
            · have := li_m1
              have hq8 := i_ne hq8
              refine wi (fun hq9 => ?_) (fun hq9 => ?_)
              · have := li_8
                have hq9 := i_eq hq9
                obtain ⟨v11, ev11, tv11⟩ := gf_1_2 WLc_4 t_a0
                refine wb ev11 ?_
                obtain ⟨v12, ev12, lv12, uv12⟩ := ga_17 WLc_4 tv11 (i := x4_4) (by omega) (by omega)
                refine wb ev12 ?_
                unfold f_Graph_ofNode_77
                refine wi (fun hq10 => ?_) (fun hq10 => ?_)
                · have hq10 := i_eq hq10
                  unfold f_Graph_ofNode_84
                  have := li_1
                  have := i_add (a := x4_4) (b := 1) (by omega) (by omega)
                  exact lInl ⟨rfl, rfl, rfl, WLc_4, FLc_4, by (try dsimp only); omega, by (try dsimp only); omega⟩ (by (try dsimp only); omega)
                · have hq10 := i_ne hq10
                  unfold f_Graph_ofNode_84
                  have := li_1
                  have := i_add (a := x4_4) (b := 1) (by omega) (by omega)
                  exact lInl ⟨rfl, rfl, rfl, WLc_4, FLc_4, by (try dsimp only); omega, by (try dsimp only); omega⟩ (by (try dsimp only); omega)
              · have := li_8
                have hq9 := i_ne hq9
                obtain ⟨v8, ev8, tv8⟩ := gf_1_3 WLc_4 t_a0
                refine wb ev8 ?_
                obtain ⟨v9, ev9, lv9, uv9⟩ := ga_18 WLc_4 tv8 (i := x4_4) (by omega) (by omega)
                refine wb ev9 ?_
                unfold f_Graph_ofNode_77
                refine wi (fun hq11 => ?_) (fun hq11 => ?_)
                · have hq11 := i_eq hq11
                  unfold f_Graph_ofNode_84
                  have := li_1
                  have := i_add (a := x4_4) (b := 1) (by omega) (by omega)
                  exact lInl ⟨rfl, rfl, rfl, WLc_4, FLc_4, by (try dsimp only); omega, by (try dsimp only); omega⟩ (by (try dsimp only); omega)
                · have hq11 := i_ne hq11
                  unfold f_Graph_ofNode_84
                  have := li_1
                  have := i_add (a := x4_4) (b := 1) (by omega) (by omega)
                  exact lInl ⟨rfl, rfl, rfl, WLc_4, FLc_4, by (try dsimp only); omega, by (try dsimp only); omega⟩ (by (try dsimp only); omega)
        · exact ⟨rfl, rfl, rfl, W, Zfr.rf, by (try dsimp only); omega, by (try dsimp only); omega⟩
        · (try dsimp only); omega
      obtain ⟨b, eb, hb⟩ := L3
      refine wb eb ?_
      clear eb
      obtain ⟨z0_12, c_12⟩ := b
      try dsimp only at hb ⊢
      obtain ⟨WXc_12, FXc_12⟩ := hb
      have F13 := Zfr.tr F0 FXc_12 (by decide)
      exact ⟨_, rfl, WXc_12, F13⟩
    · have := li_7
      have hq2 := i_nlt hq2
      obtain ⟨v13, ev13, tv13⟩ := gf_1_1 W t_a0
      refine wb ev13 ?_
      have := li_4
      have := i_mulr (a := a2) (b := 4) (n := 4) li_4 (by omega) (by omega)
      have := i_add (a := (a2 * 4)) (b := a1) (by omega) (by omega)
      have := i_sub (a := ((a2 * 4) + a1)) (b := 4) (by omega) (by omega)
      obtain ⟨v14, ev14, lv14, uv14⟩ := ga_16 W tv13 (i := (((a2 * 4) + a1) - 4)) (by omega) (by omega)
      refine wb ev14 ?_
      exact ⟨_, rfl, W, F0⟩

abbrev M_Graph_nodesWith : List (Nat × Nat) := []
set_option maxRecDepth 100000 in
set_option maxHeartbeats 400000 in
theorem p_Graph_nodesWith {nf : Nat} (hn : 8589934592 ≤ nf) {G : List Nat} {c : Zc} (W : Zwt zty G c) {a0 : Nat} {a1 : Int32}  (t_a0 : G[a0]? = some 1) : ∃ q, f_Graph_nodesWith nf a0 a1 c = some q ∧ Zwt zty G q.2 ∧ Zfr G M_Graph_nodesWith c q.2 := by
  have F0 : Zfr G M_Graph_nodesWith c c := Zfr.rf
  unfold f_Graph_nodesWith
  unfold f_Graph_nodesWith_4
  have := li_0
  have L1 : ∃ b, zlp (fun a : Nat × Int32 × Int32 × Int32 × Zc => g_Graph_nodesWith_4 nf a.1 a.2.1 a.2.2.1 a.2.2.2.1 a.2.2.2.2) nf (a0, a1, 0, 0, c) = some b ∧ (fun b : (Int32 × Zc) => Zwt zty G b.2 ∧ Zfr G ([] : List (Nat × Nat)) c b.2) b := by
    refine wlp (fun a : Nat × Int32 × Int32 × Int32 × Zc => a0 = a.1 ∧ a1 = a.2.1 ∧ Zwt zty G a.2.2.2.2 ∧ Zfr G ([] : List (Nat × Nat)) c a.2.2.2.2 ∧ 0 ≤ a.2.2.2.1.toInt ∧ a.2.2.2.1.toInt ≤ 16) (fun a => (16 - a.2.2.2.1.toInt).toNat) (fun b : (Int32 × Zc) => Zwt zty G b.2 ∧ Zfr G ([] : List (Nat × Nat)) c b.2) ?_ ?_ ?_
    · rintro ⟨x0_2, x1_2, x2_2, x3_2, c_2⟩ hI
      try dsimp only at hI ⊢
      obtain ⟨rfl, rfl, WLc_2, FLc_2, j3, j4⟩ := hI
      unfold g_Graph_nodesWith_4
      obtain ⟨v1, ev1, lv1, uv1⟩ := gf_1_7 WLc_2 t_a0
      refine wb ev1 ?_
      refine wi (fun hq5 => ?_) (fun hq5 => ?_)
      · have hq5 := i_le hq5
        exact lInr ⟨WLc_2, FLc_2⟩
      · have hq5 := i_nle hq5
        obtain ⟨v3, ev3, tv3⟩ := gf_1_0 WLc_2 t_a0
        refine wb ev3 ?_
        obtain ⟨v4, ev4, lv4, uv4⟩ := ga_15 WLc_2 tv3 (i := x3_2) (by omega) (by omega)
        refine wb ev4 ?_
        refine wi (fun hq6 => ?_) (fun hq6 => ?_)
        · have := i_andl (a := v4) (b := a1) (by omega)
          have := i_ge a1
          have := i_up a1
          have hq6 := i_eq hq6
          unfold f_Graph_nodesWith_30
          have := li_1
          have := i_shl16 (b := x3_2) (by omega) (by omega)
          have := i_add (a := x3_2) (b := 1) (by omega) (by omega)
          exact lInl ⟨rfl, rfl, WLc_2, FLc_2, by (try dsimp only); omega, by (try dsimp only); omega⟩ (by (try dsimp only); omega)
        · have := i_andl (a := v4) (b := a1) (by omega)
          have := i_ge a1
          have := i_up a1
          have hq6 := i_ne hq6
          unfold f_Graph_nodesWith_30
          have := li_1
          have := i_add (a := x3_2) (b := 1) (by omega) (by omega)
          exact lInl ⟨rfl, rfl, WLc_2, FLc_2, by (try dsimp only); omega, by (try dsimp only); omega⟩ (by (try dsimp only); omega)
    · exact ⟨rfl, rfl, W, Zfr.rf, by (try dsimp only); omega, by (try dsimp only); omega⟩
    · (try dsimp only); omega
  obtain ⟨b, eb, hb⟩ := L1
  refine wb eb ?_
  clear eb
  obtain ⟨z0_7, c_7⟩ := b
  try dsimp only at hb ⊢
  obtain ⟨WXc_7, FXc_7⟩ := hb
  have F8 := Zfr.tr F0 FXc_7 (by decide)
  exact ⟨_, rfl, WXc_7, F8⟩

abbrev M_Graph_ofArc : List (Nat × Nat) := []
set_option maxRecDepth 100000 in
set_option maxHeartbeats 400000 in
theorem p_Graph_ofArc {nf : Nat} (hn : 8589934592 ≤ nf) {G : List Nat} {c : Zc} (W : Zwt zty G c) {a0 : Nat} {a1 : Int32} {a2 : Int32}  (t_a0 : G[a0]? = some 1) (pl_a2 : 0 ≤ a2.toInt) (pu_a2 : a2.toInt ≤ 99) : ∃ q, f_Graph_ofArc nf a0 a1 a2 c = some q ∧ Zwt zty G q.2 ∧ Zfr G M_Graph_ofArc c q.2 := by
  have F0 : Zfr G M_Graph_ofArc c c := Zfr.rf
  unfold f_Graph_ofArc
  refine wi (fun hq1 => ?_) (fun hq1 => ?_)
  · have := li_10
    have := i_ge a1
    have := i_up a1
    have hq1 := i_eq hq1
    obtain ⟨v2, ev2, tv2⟩ := gf_1_2 W t_a0
    refine wb ev2 ?_
    obtain ⟨v3, ev3, lv3, uv3⟩ := ga_17 W tv2 (i := a2) (by omega) (by omega)
    refine wb ev3 ?_
    exact ⟨_, rfl, W, F0⟩
  · have := li_10
    have := i_ge a1
    have := i_up a1
    have hq1 := i_ne hq1
    refine wi (fun hq2 => ?_) (fun hq2 => ?_)
    · have := li_11
      have hq2 := i_eq hq2
      obtain ⟨v5, ev5, tv5⟩ := gf_1_3 W t_a0
      refine wb ev5 ?_
      obtain ⟨v6, ev6, lv6, uv6⟩ := ga_18 W tv5 (i := a2) (by omega) (by omega)
      refine wb ev6 ?_
      exact ⟨_, rfl, W, F0⟩
    · have := li_11
      have hq2 := i_ne hq2
      refine wi (fun hq3 => ?_) (fun hq3 => ?_)
      · have := li_12
        have hq3 := i_eq hq3
        obtain ⟨v8, ev8, tv8⟩ := gf_1_4 W t_a0
        refine wb ev8 ?_
        obtain ⟨v9, ev9, lv9, uv9⟩ := ga_19 W tv8 (i := a2) (by omega) (by omega)
        refine wb ev9 ?_
        exact ⟨_, rfl, W, F0⟩
      · have := li_12
        have hq3 := i_ne hq3
        obtain ⟨v10, ev10, tv10⟩ := gf_1_5 W t_a0
        refine wb ev10 ?_
        obtain ⟨v11, ev11, lv11, uv11⟩ := ga_20 W tv10 (i := a2) (by omega) (by omega)
        refine wb ev11 ?_
        exact ⟨_, rfl, W, F0⟩

abbrev M_Graph_countArcs : List (Nat × Nat) := []
set_option maxRecDepth 100000 in
set_option maxHeartbeats 400000 in
theorem p_Graph_countArcs {nf : Nat} (hn : 8589934592 ≤ nf) {G : List Nat} {c : Zc} (W : Zwt zty G c) {a0 : Nat} {a1 : Int32} {a2 : Int32} {a3 : Int32}  (t_a0 : G[a0]? = some 1) : ∃ q, f_Graph_countArcs nf a0 a1 a2 a3 c = some q ∧ Zwt zty G q.2 ∧ Zfr G M_Graph_countArcs c q.2 := by
  have F0 : Zfr G M_Graph_countArcs c c := Zfr.rf
  unfold f_Graph_countArcs
  unfold f_Graph_countArcs_6
  have := li_0
  have L1 : ∃ b, zlp (fun a : Nat × Int32 × Int32 × Int32 × Int32 × Int32 × Zc => g_Graph_countArcs_6 nf a.1 a.2.1 a.2.2.1 a.2.2.2.1 a.2.2.2.2.1 a.2.2.2.2.2.1 a.2.2.2.2.2.2) nf (a0, a1, a2, a3, 0, 0, c) = some b ∧ (fun b : (Int32 × Zc) => Zwt zty G b.2 ∧ Zfr G ([] : List (Nat × Nat)) c b.2) b := by
    refine wlp (fun a : Nat × Int32 × Int32 × Int32 × Int32 × Int32 × Zc => a0 = a.1 ∧ a1 = a.2.1 ∧ a2 = a.2.2.1 ∧ a3 = a.2.2.2.1 ∧ Zwt zty G a.2.2.2.2.2.2 ∧ Zfr G ([] : List (Nat × Nat)) c a.2.2.2.2.2.2 ∧ 0 ≤ a.2.2.2.2.2.1.toInt ∧ a.2.2.2.2.2.1.toInt ≤ 100) (fun a => (100 - a.2.2.2.2.2.1.toInt).toNat) (fun b : (Int32 × Zc) => Zwt zty G b.2 ∧ Zfr G ([] : List (Nat × Nat)) c b.2) ?_ ?_ ?_
    · rintro ⟨x0_2, x1_2, x2_2, x3_2, x4_2, x5_2, c_2⟩ hI
      try dsimp only at hI ⊢
      obtain ⟨rfl, rfl, rfl, rfl, WLc_2, FLc_2, j3, j4⟩ := hI
      unfold g_Graph_countArcs_6
      refine wi (fun hq5 => ?_) (fun hq5 => ?_)
      · have := li_100
        have hq5 := i_le hq5
        exact lInr ⟨WLc_2, FLc_2⟩
      · have := li_100
        have hq5 := i_nle hq5
        obtain ⟨v2, ev2, tv2⟩ := gf_1_4 WLc_2 t_a0
        refine wb ev2 ?_
        obtain ⟨v3, ev3, lv3, uv3⟩ := ga_19 WLc_2 tv2 (i := x5_2) (by omega) (by omega)
        refine wb ev3 ?_
        refine wi (fun hq6 => ?_) (fun hq6 => ?_)
        · have := i_ge a3
          have := i_up a3
          have hq6 := i_eq hq6
          obtain ⟨v5, ev5, tv5⟩ := gf_1_2 WLc_2 t_a0
          refine wb ev5 ?_
          obtain ⟨v6, ev6, lv6, uv6⟩ := ga_17 WLc_2 tv5 (i := x5_2) (by omega) (by omega)
          refine wb ev6 ?_
          refine wi (fun hq7 => ?_) (fun hq7 => ?_)
          · have := i_ge a1
            have := i_up a1
            have hq7 := i_eq hq7
            obtain ⟨v8, ev8, tv8⟩ := gf_1_3 WLc_2 t_a0
            refine wb ev8 ?_
            obtain ⟨v9, ev9, lv9, uv9⟩ := ga_18 WLc_2 tv8 (i := x5_2) (by omega) (by omega)
            refine wb ev9 ?_
            refine wi (fun hq8 => ?_) (fun hq8 => ?_)
            · have := i_ge a2
              have := i_up a2
              have hq8 := i_eq hq8
              unfold f_Graph_countArcs_49
              have := li_1
              have := i_add (a := x5_2) (b := 1) (by omega) (by omega)
              exact lInl ⟨rfl, rfl, rfl, rfl, WLc_2, FLc_2, by (try dsimp only); omega, by (try dsimp only); omega⟩ (by (try dsimp only); omega)
            · have := i_ge a2
              have := i_up a2
              have hq8 := i_ne hq8
              unfold f_Graph_countArcs_49
              have := li_1
              have := i_add (a := x5_2) (b := 1) (by omega) (by omega)
              exact lInl ⟨rfl, rfl, rfl, rfl, WLc_2, FLc_2, by (try dsimp only); omega, by (try dsimp only); omega⟩ (by (try dsimp only); omega)
          · have := i_ge a1
            have := i_up a1
            have hq7 := i_ne hq7
            unfold f_Graph_countArcs_49
            have := li_1
            have := i_add (a := x5_2) (b := 1) (by omega) (by omega)
            exact lInl ⟨rfl, rfl, rfl, rfl, WLc_2, FLc_2, by (try dsimp only); omega, by (try dsimp only); omega⟩ (by (try dsimp only); omega)
        · have := i_ge a3
          have := i_up a3
          have hq6 := i_ne hq6
          unfold f_Graph_countArcs_49
          have := li_1
          have := i_add (a := x5_2) (b := 1) (by omega) (by omega)
          exact lInl ⟨rfl, rfl, rfl, rfl, WLc_2, FLc_2, by (try dsimp only); omega, by (try dsimp only); omega⟩ (by (try dsimp only); omega)
    · exact ⟨rfl, rfl, rfl, rfl, W, Zfr.rf, by (try dsimp only); omega, by (try dsimp only); omega⟩
    · (try dsimp only); omega
  obtain ⟨b, eb, hb⟩ := L1
  refine wb eb ?_
  clear eb
  obtain ⟨z0_9, c_9⟩ := b
  try dsimp only at hb ⊢
  obtain ⟨WXc_9, FXc_9⟩ := hb
  have F10 := Zfr.tr F0 FXc_9 (by decide)
  exact ⟨_, rfl, WXc_9, F10⟩

abbrev M_Graph_link : List (Nat × Nat) := [(21, 0)]
set_option maxRecDepth 100000 in
set_option maxHeartbeats 400000 in
theorem p_Graph_link {nf : Nat} (hn : 8589934592 ≤ nf) {G : List Nat} {c : Zc} (W : Zwt zty G c) {a0 : Nat} {a1 : Int32} {a2 : Int32} {a3 : Int32}  (t_a0 : G[a0]? = some 1) (pl_a1 : 0 ≤ a1.toInt) (pu_a1 : a1.toInt ≤ 12) (pl_a2 : 0 ≤ a2.toInt) (pu_a2 : a2.toInt ≤ 15) (pl_a3 : 0 ≤ a3.toInt) (pu_a3 : a3.toInt ≤ 15) : ∃ q, f_Graph_link nf a0 a1 a2 a3 c = some q ∧ Zwt zty G q ∧ Zfr G M_Graph_link c q := by
  have F0 : Zfr G M_Graph_link c c := Zfr.rf
  unfold f_Graph_link
  obtain ⟨v1, ev1, tv1⟩ := gf_1_6 W t_a0
  refine wb ev1 ?_
  have := li_2
  have := i_mull (a := 2) (b := a1) (n := 2) li_2 (by omega) (by omega)
  have := li_16
  have := i_mulr (a := (2 * a1)) (b := 16) (n := 16) li_16 (by omega) (by omega)
  have := i_add (a := ((2 * a1) * 16)) (b := a2) (by omega) (by omega)
  obtain ⟨v2, ev2, _⟩ := ga_21 W tv1 (i := (((2 * a1) * 16) + a2)) (by omega) (by omega)
  refine wb ev2 ?_
  obtain ⟨c3, ec3, Wc3, fc3, gc3⟩ := pa_21 W tv1 (i := (((2 * a1) * 16) + a2)) (by omega) (by omega) (x := (v2 ||| ((1 : Int32) <<< (a3 &&& 31)))) (trivial)
  refine wb ec3 ?_
  have e1 := (Zfr.gr fc3 t_a0 (by decide)).trans ev1
  have F2 := Zfr.tr F0 fc3 (by decide)
  refine wb e1 ?_
  have := li_1
  have := i_add (a := (2 * a1)) (b := 1) (by omega) (by omega)
  have := i_mulr (a := ((2 * a1) + 1)) (b := 16) (n := 16) li_16 (by omega) (by omega)
  have := i_add (a := (((2 * a1) + 1) * 16)) (b := a3) (by omega) (by omega)
  obtain ⟨v5, ev5, _⟩ := ga_21 Wc3 tv1 (i := ((((2 * a1) + 1) * 16) + a3)) (by omega) (by omega)
  refine wb ev5 ?_
  obtain ⟨c6, ec6, Wc6, fc6, gc6⟩ := pa_21 Wc3 tv1 (i := ((((2 * a1) + 1) * 16) + a3)) (by omega) (by omega) (x := (v5 ||| ((1 : Int32) <<< (a2 &&& 31)))) (trivial)
  refine wb ec6 ?_
  have F3 := Zfr.tr F2 fc6 (by decide)
  exact ⟨_, rfl, Wc6, F3⟩

abbrev M_Graph_relate : List (Nat × Nat) := [(21, 0)]
set_option maxRecDepth 100000 in
set_option maxHeartbeats 400000 in
theorem p_Graph_relate {nf : Nat} (hn : 8589934592 ≤ nf) {G : List Nat} {c : Zc} (W : Zwt zty G c) {a0 : Nat}  (t_a0 : G[a0]? = some 1) : ∃ q, f_Graph_relate nf a0 c = some q ∧ Zwt zty G q ∧ Zfr G M_Graph_relate c q := by
  have F0 : Zfr G M_Graph_relate c c := Zfr.rf
  unfold f_Graph_relate
  obtain ⟨v1, ev1, tv1⟩ := gf_1_6 W t_a0
  refine wb ev1 ?_
  have := li_0
  obtain ⟨q2, eq2, Wq2, fq2⟩ := p_Arrays_fill__GReach hn W (a1 := 0) tv1
  refine wb eq2 ?_
  have F1 := Zfr.tr F0 fq2 (by decide)
  unfold f_Graph_relate_10
  have L2 : ∃ b, zlp (fun a : Nat × Int32 × Zc => g_Graph_relate_10 nf a.1 a.2.1 a.2.2) nf (a0, 0, q2) = some b ∧ (fun b : (Zc) => Zwt zty G b ∧ Zfr G ([(21, 0)] : List (Nat × Nat)) q2 b) b := by
    refine wlp (fun a : Nat × Int32 × Zc => a0 = a.1 ∧ Zwt zty G a.2.2 ∧ Zfr G ([(21, 0)] : List (Nat × Nat)) q2 a.2.2 ∧ 0 ≤ a.2.1.toInt ∧ a.2.1.toInt ≤ 100) (fun a => (100 - a.2.1.toInt).toNat) (fun b : (Zc) => Zwt zty G b ∧ Zfr G ([(21, 0)] : List (Nat × Nat)) q2 b) ?_ ?_ ?_
    · rintro ⟨x0_3, x1_3, c_3⟩ hI
      try dsimp only at hI ⊢
      obtain ⟨rfl, WLc_3, FLc_3, j4, j5⟩ := hI
      unfold g_Graph_relate_10
      refine wi (fun hq6 => ?_) (fun hq6 => ?_)
      · have := li_100
        have hq6 := i_le hq6
        exact lInr ⟨WLc_3, FLc_3⟩
      · have := li_100
        have hq6 := i_nle hq6
        obtain ⟨v4, ev4, tv4⟩ := gf_1_4 WLc_3 t_a0
        refine wb ev4 ?_
        obtain ⟨v5, ev5, lv5, uv5⟩ := ga_19 WLc_3 tv4 (i := x1_3) (by omega) (by omega)
        refine wb ev5 ?_
        refine wi (fun hq7 => ?_) (fun hq7 => ?_)
        · have := li_m1
          have hq7 := i_eq hq7
          unfold f_Graph_relate_66
          have := li_1
          have := i_add (a := x1_3) (b := 1) (by omega) (by omega)
          exact lInl ⟨rfl, WLc_3, FLc_3, by (try dsimp only); omega, by (try dsimp only); omega⟩ (by (try dsimp only); omega)
        · have := li_m1
          have hq7 := i_ne hq7
          refine wb ev4 ?_
          refine wb ev5 ?_
          obtain ⟨v9, ev9, tv9⟩ := gf_1_2 WLc_3 t_a0
          refine wb ev9 ?_
          obtain ⟨v10, ev10, lv10, uv10⟩ := ga_17 WLc_3 tv9 (i := x1_3) (by omega) (by omega)
          refine wb ev10 ?_
          obtain ⟨v11, ev11, tv11⟩ := gf_1_3 WLc_3 t_a0
          refine wb ev11 ?_
          obtain ⟨v12, ev12, lv12, uv12⟩ := ga_18 WLc_3 tv11 (i := x1_3) (by omega) (by omega)
          refine wb ev12 ?_
          obtain ⟨w14, ew14⟩ := go_1 WLc_3 t_a0
          refine wb ew14 ?_
          obtain ⟨q13, eq13, Wq13, fq13⟩ := p_Graph_link hn WLc_3 (a1 := v5) (a2 := v10) (a3 := v12) t_a0 (by omega) (by omega) (by omega) (by omega) (by omega) (by omega)
          refine wb eq13 ?_
          have e8 := (Zfr.ai fq13 tv4 (by decide)).trans ev5
          have e9 := (Zfr.gr fq13 t_a0 (by decide)).trans ev9
          have e10 := (Zfr.ai fq13 tv9 (by decide)).trans ev10
          have e11 := (Zfr.gr fq13 t_a0 (by decide)).trans ev11
          have e12 := (Zfr.ai fq13 tv11 (by decide)).trans ev12
          have F13 := Zfr.tr FLc_3 fq13 (by decide)
          refine wb e9 ?_
          refine wb e10 ?_
          refine wb e11 ?_
          refine wb e12 ?_
          obtain ⟨w20, ew20⟩ := go_1 Wq13 t_a0
          refine wb ew20 ?_
          have := li_12
          obtain ⟨q19, eq19, Wq19, fq19⟩ := p_Graph_link hn Wq13 (a1 := 12) (a2 := v10) (a3 := v12) t_a0 (by omega) (by omega) (by omega) (by omega) (by omega) (by omega)
          refine wb eq19 ?_
          have F14 := Zfr.tr F13 fq19 (by decide)
          unfold f_Graph_relate_66
          have := li_1
          have := i_add (a := x1_3) (b := 1) (by omega) (by omega)
          exact lInl ⟨rfl, Wq19, F14, by (try dsimp only); omega, by (try dsimp only); omega⟩ (by (try dsimp only); omega)
    · exact ⟨rfl, Wq2, Zfr.rf, by (try dsimp only); omega, by (try dsimp only); omega⟩
    · (try dsimp only); omega
  obtain ⟨b, eb, hb⟩ := L2
  refine wb eb ?_
  clear eb
  obtain c_15 := b
  try dsimp only at hb ⊢
  obtain ⟨WXc_15, FXc_15⟩ := hb
  have F16 := Zfr.tr F1 FXc_15 (by decide)
  exact ⟨_, rfl, WXc_15, F16⟩

end ZzT
