section ZzT
abbrev M_StringLatin1_canEncode : List (Nat × Nat) := []
set_option maxRecDepth 100000 in
set_option maxHeartbeats 400000 in
theorem p_StringLatin1_canEncode {nf : Nat} (hn : 8589934592 ≤ nf) {G : List Nat} {c : Zc} (W : Zwt zty G c) {a0 : Int32}   : ∃ q, f_StringLatin1_canEncode nf a0 c = some q ∧ Zwt zty G q.2 ∧ Zfr G M_StringLatin1_canEncode c q.2 ∧ 0 ≤ q.1.toInt ∧ q.1.toInt ≤ 1 := by
  have F0 : Zfr G M_StringLatin1_canEncode c c := Zfr.rf
  unfold f_StringLatin1_canEncode
  have J1 : ∃ q, f_StringLatin1_canEncode_16 nf 0 c = some q ∧ Zwt zty G q.2 ∧ Zfr G M_StringLatin1_canEncode c q.2 ∧ 0 ≤ q.1.toInt ∧ q.1.toInt ≤ 1 := by
    unfold f_StringLatin1_canEncode_16
    have := li_0
    exact wz (rgi (by omega) (by omega)) ⟨W, F0, by (try dsimp only); omega, by (try dsimp only); omega⟩
  have J2 : ∃ q, f_StringLatin1_canEncode_15 nf c = some q ∧ Zwt zty G q.2 ∧ Zfr G M_StringLatin1_canEncode c q.2 ∧ 0 ≤ q.1.toInt ∧ q.1.toInt ≤ 1 := by
    unfold f_StringLatin1_canEncode_15
    exact J1
  refine wi (fun hq3 => ?_) (fun hq3 => ?_)
  · have := li_0
    have := i_ge a0
    have := i_up a0
    have hq3 := i_lt hq3
    exact J2
  · have := li_0
    have := i_ge a0
    have := i_up a0
    have hq3 := i_nlt hq3
    refine wi (fun hq4 => ?_) (fun hq4 => ?_)
    · have := li_255
      have hq4 := i_lt hq4
      exact J2
    · have := li_255
      have hq4 := i_nlt hq4
      unfold f_StringLatin1_canEncode_16
      have := li_1
      exact wz (rgi (by omega) (by omega)) ⟨W, F0, by (try dsimp only); omega, by (try dsimp only); omega⟩

abbrev M_StringLatin1_indexOfChar__0 : List (Nat × Nat) := []
set_option maxRecDepth 100000 in
set_option maxHeartbeats 400000 in
theorem p_StringLatin1_indexOfChar__0 {nf : Nat} (hn : 8589934592 ≤ nf) {G : List Nat} {c : Zc} (W : Zwt zty G c) {a1 : Int32} {a2 : Int32} {a3 : Int32}  (pl_a2 : 0 ≤ a2.toInt) (pu_a2 : a2.toInt ≤ 6) (pl_a3 : 0 ≤ a3.toInt) (pu_a3 : a3.toInt ≤ 6) : ∃ q, f_StringLatin1_indexOfChar nf 0 a1 a2 a3 c = some q ∧ Zwt zty G q.2 ∧ Zfr G M_StringLatin1_indexOfChar__0 c q.2 ∧ (-1) ≤ q.1.toInt ∧ q.1.toInt ≤ 5 := by
  have F0 : Zfr G M_StringLatin1_indexOfChar__0 c c := Zfr.rf
  unfold f_StringLatin1_indexOfChar
  unfold f_StringLatin1_indexOfChar_7
  have L1 : ∃ b, zlp (fun a : Nat × Int32 × Int32 × Int32 × Zc => g_StringLatin1_indexOfChar_7 nf a.1 a.2.1 a.2.2.1 a.2.2.2.1 a.2.2.2.2) nf (0, a3, (Int8.toInt32 (Int32.toInt8 a1)), a2, c) = some b ∧ (fun b : ((Int32 × Zc) ⊕ (Zc)) => (match b with | .inl b => Zwt zty G b.2 ∧ Zfr G ([] : List (Nat × Nat)) c b.2 ∧ 0 ≤ b.1.toInt ∧ b.1.toInt ≤ 5 | .inr b => Zwt zty G b ∧ Zfr G ([] : List (Nat × Nat)) c b)) b := by
    refine wlp (fun a : Nat × Int32 × Int32 × Int32 × Zc => (0 : Nat) = a.1 ∧ a3 = a.2.1 ∧ (Int8.toInt32 (Int32.toInt8 a1)) = a.2.2.1 ∧ Zwt zty G a.2.2.2.2 ∧ Zfr G ([] : List (Nat × Nat)) c a.2.2.2.2 ∧ 0 ≤ a.2.2.2.1.toInt ∧ a.2.2.2.1.toInt ≤ 6) (fun a => (6 - a.2.2.2.1.toInt).toNat) (fun b : ((Int32 × Zc) ⊕ (Zc)) => (match b with | .inl b => Zwt zty G b.2 ∧ Zfr G ([] : List (Nat × Nat)) c b.2 ∧ 0 ≤ b.1.toInt ∧ b.1.toInt ≤ 5 | .inr b => Zwt zty G b ∧ Zfr G ([] : List (Nat × Nat)) c b)) ?_ ?_ ?_
    · rintro ⟨x0_2, x3_2, x4_2, x5_2, c_2⟩ hI
      try dsimp only at hI ⊢
      obtain ⟨rfl, rfl, rfl, WLc_2, FLc_2, j3, j4⟩ := hI
      unfold g_StringLatin1_indexOfChar_7
      refine wi (fun hq5 => ?_) (fun hq5 => ?_)
      · have hq5 := i_le hq5
        exact lInr ⟨WLc_2, FLc_2⟩
      · have hq5 := i_nle hq5
        obtain ⟨v2, ev2⟩ := zwsb (i := 0) (j := x5_2) (by decide) (by omega) (by have := zsn_0; omega)
        refine wb ev2 ?_
        refine wi (fun hq6 => ?_) (fun hq6 => ?_)
        · have := i_ge v2
          have := i_up v2
          have hq6 := i_eq hq6
          exact lInr ⟨WLc_2, FLc_2, by (try dsimp only); omega, by (try dsimp only); omega⟩
        · have := i_ge v2
          have := i_up v2
          have hq6 := i_ne hq6
          have := li_1
          have := i_add (a := x5_2) (b := 1) (by omega) (by omega)
          exact lInl ⟨rfl, rfl, rfl, WLc_2, FLc_2, by (try dsimp only); omega, by (try dsimp only); omega⟩ (by (try dsimp only); omega)
    · exact ⟨rfl, rfl, rfl, W, Zfr.rf, by (try dsimp only); omega, by (try dsimp only); omega⟩
    · (try dsimp only); omega
  obtain ⟨b, eb, hb⟩ := L1
  refine wb eb ?_
  clear eb
  rcases b with b | b
  · obtain ⟨z0_7, c_7⟩ := b
    try dsimp only at hb ⊢
    obtain ⟨WXc_7, FXc_7, j8, j9⟩ := hb
    have F10 := Zfr.tr F0 FXc_7 (by decide)
    exact ⟨_, rfl, WXc_7, F10, by (try dsimp only); omega, by (try dsimp only); omega⟩
  · obtain c_11 := b
    try dsimp only at hb ⊢
    obtain ⟨WXc_11, FXc_11⟩ := hb
    have F12 := Zfr.tr F0 FXc_11 (by decide)
    have := li_m1
    exact ⟨_, rfl, WXc_11, F12, by (try dsimp only); omega, by (try dsimp only); omega⟩

abbrev M_StringLatin1_indexOf__0 : List (Nat × Nat) := []
set_option maxRecDepth 100000 in
set_option maxHeartbeats 400000 in
theorem p_StringLatin1_indexOf__0 {nf : Nat} (hn : 8589934592 ≤ nf) {G : List Nat} {c : Zc} (W : Zwt zty G c) {a1 : Int32} {a2 : Int32} {a3 : Int32}  (pl_a2 : 0 ≤ a2.toInt) (pu_a2 : a2.toInt ≤ 0) (pl_a3 : 6 ≤ a3.toInt) (pu_a3 : a3.toInt ≤ 6) : ∃ q, f_StringLatin1_indexOf nf 0 a1 a2 a3 c = some q ∧ Zwt zty G q.2 ∧ Zfr G M_StringLatin1_indexOf__0 c q.2 ∧ (-1) ≤ q.1.toInt ∧ q.1.toInt ≤ 5 := by
  have F0 : Zfr G M_StringLatin1_indexOf__0 c c := Zfr.rf
  unfold f_StringLatin1_indexOf
  obtain ⟨q1, eq1, Wq1, fq1, pl0q1, pu0q1⟩ := p_StringLatin1_canEncode hn W (a0 := a1) 
  refine wb eq1 ?_
  have F1 := Zfr.tr F0 fq1 (by decide)
  refine wi (fun hq2 => ?_) (fun hq2 => ?_)
  · have := li_0
    have hq2 := i_eq hq2
    have := li_m1
    exact ⟨_, rfl, Wq1, F1, by (try dsimp only); omega, by (try dsimp only); omega⟩
  · have := li_0
    have hq2 := i_ne hq2
    obtain ⟨q3, eq3, Wq3, fq3, po0q3⟩ := p_Math_max_0 hn Wq1 (a0 := a2) (a1 := 0) 
    refine wb eq3 ?_
    have F3 := Zfr.tr F1 fq3 (by decide)
    refine wb (show zst 0 = some () from rfl) ?_
    have := zsl_0
    obtain ⟨q5, eq5, Wq5, fq5, po0q5⟩ := p_Math_min_0 hn Wq3 (a0 := a3) (a1 := (Int32.ofNat (zs_len.getD 0 0))) 
    refine wb eq5 ?_
    have F4 := Zfr.tr F3 fq5 (by decide)
    refine wi (fun hq5 => ?_) (fun hq5 => ?_)
    · have hq5 := i_lt hq5
      obtain ⟨q7, eq7, Wq7, fq7, pl0q7, pu0q7⟩ := p_StringLatin1_indexOfChar__0 hn Wq5 (a1 := a1) (a2 := q3.1) (a3 := q5.1) (by omega) (by omega) (by omega) (by omega)
      refine wb eq7 ?_
      have F6 := Zfr.tr F4 fq7 (by decide)
      exact ⟨_, rfl, Wq7, F6, by (try dsimp only); omega, by (try dsimp only); omega⟩
    · have hq5 := i_nlt hq5
      exfalso
      omega

abbrev M_String_indexOf_1__0 : List (Nat × Nat) := []
set_option maxRecDepth 100000 in
set_option maxHeartbeats 400000 in
theorem p_String_indexOf_1__0 {nf : Nat} (hn : 8589934592 ≤ nf) {G : List Nat} {c : Zc} (W : Zwt zty G c) {a1 : Int32} {a2 : Int32}  (pl_a2 : 0 ≤ a2.toInt) (pu_a2 : a2.toInt ≤ 0) : ∃ q, f_String_indexOf_1 nf 0 a1 a2 c = some q ∧ Zwt zty G q.2 ∧ Zfr G M_String_indexOf_1__0 c q.2 ∧ (-1) ≤ q.1.toInt ∧ q.1.toInt ≤ 5 := by
  have F0 : Zfr G M_String_indexOf_1__0 c c := Zfr.rf
  unfold f_String_indexOf_1
  refine wb (show zst 0 = some () from rfl) ?_
  obtain ⟨q1, eq1, Wq1, fq1, pl0q1, pu0q1⟩ := p_String_isLatin1__0 hn W  
  refine wb eq1 ?_
  have F1 := Zfr.tr F0 fq1 (by decide)
  refine wi (fun hq2 => ?_) (fun hq2 => ?_)
  · have := li_0
    have hq2 := i_eq hq2
    exfalso
    omega
  · have := li_0
    have hq2 := i_ne hq2
    refine wb (show zst 0 = some () from rfl) ?_
    refine wb (show zst 0 = some () from rfl) ?_
    obtain ⟨q8, eq8, Wq8, fq8, pl0q8, pu0q8⟩ := p_String_length__0 hn Wq1  
    refine wb eq8 ?_
    have F3 := Zfr.tr F1 fq8 (by decide)
    obtain ⟨q10, eq10, Wq10, fq10, pl0q10, pu0q10⟩ := p_StringLatin1_indexOf__0 hn Wq8 (a1 := a1) (a2 := a2) (a3 := q8.1) (by omega) (by omega) (by omega) (by omega)
    refine wb eq10 ?_
    have F4 := Zfr.tr F3 fq10 (by decide)
    unfold f_String_indexOf_1_36
    exact ⟨_, rfl, Wq10, F4, by (try dsimp only); omega, by (try dsimp only); omega⟩

abbrev M_String_indexOf_0__0 : List (Nat × Nat) := []
set_option maxRecDepth 100000 in
set_option maxHeartbeats 400000 in
theorem p_String_indexOf_0__0 {nf : Nat} (hn : 8589934592 ≤ nf) {G : List Nat} {c : Zc} (W : Zwt zty G c) {a1 : Int32}   : ∃ q, f_String_indexOf_0 nf 0 a1 c = some q ∧ Zwt zty G q.2 ∧ Zfr G M_String_indexOf_0__0 c q.2 ∧ (-1) ≤ q.1.toInt ∧ q.1.toInt ≤ 5 := by
  have F0 : Zfr G M_String_indexOf_0__0 c c := Zfr.rf
  unfold f_String_indexOf_0
  refine wb (show zst 0 = some () from rfl) ?_
  have := li_0
  obtain ⟨q1, eq1, Wq1, fq1, pl0q1, pu0q1⟩ := p_String_indexOf_1__0 hn W (a1 := a1) (a2 := 0) (by omega) (by omega)
  refine wb eq1 ?_
  have F1 := Zfr.tr F0 fq1 (by decide)
  exact ⟨_, rfl, Wq1, F1, by (try dsimp only); omega, by (try dsimp only); omega⟩

abbrev M_StringLatin1_indexOfChar__1 : List (Nat × Nat) := []
set_option maxRecDepth 100000 in
set_option maxHeartbeats 400000 in
theorem p_StringLatin1_indexOfChar__1 {nf : Nat} (hn : 8589934592 ≤ nf) {G : List Nat} {c : Zc} (W : Zwt zty G c) {a1 : Int32} {a2 : Int32} {a3 : Int32}  (pl_a2 : 0 ≤ a2.toInt) (pu_a2 : a2.toInt ≤ 12) (pl_a3 : 0 ≤ a3.toInt) (pu_a3 : a3.toInt ≤ 12) : ∃ q, f_StringLatin1_indexOfChar nf 1 a1 a2 a3 c = some q ∧ Zwt zty G q.2 ∧ Zfr G M_StringLatin1_indexOfChar__1 c q.2 ∧ (-1) ≤ q.1.toInt ∧ q.1.toInt ≤ 11 := by
  have F0 : Zfr G M_StringLatin1_indexOfChar__1 c c := Zfr.rf
  unfold f_StringLatin1_indexOfChar
  unfold f_StringLatin1_indexOfChar_7
  have L1 : ∃ b, zlp (fun a : Nat × Int32 × Int32 × Int32 × Zc => g_StringLatin1_indexOfChar_7 nf a.1 a.2.1 a.2.2.1 a.2.2.2.1 a.2.2.2.2) nf (1, a3, (Int8.toInt32 (Int32.toInt8 a1)), a2, c) = some b ∧ (fun b : ((Int32 × Zc) ⊕ (Zc)) => (match b with | .inl b => Zwt zty G b.2 ∧ Zfr G ([] : List (Nat × Nat)) c b.2 ∧ 0 ≤ b.1.toInt ∧ b.1.toInt ≤ 11 | .inr b => Zwt zty G b ∧ Zfr G ([] : List (Nat × Nat)) c b)) b := by
    refine wlp (fun a : Nat × Int32 × Int32 × Int32 × Zc => (1 : Nat) = a.1 ∧ a3 = a.2.1 ∧ (Int8.toInt32 (Int32.toInt8 a1)) = a.2.2.1 ∧ Zwt zty G a.2.2.2.2 ∧ Zfr G ([] : List (Nat × Nat)) c a.2.2.2.2 ∧ 0 ≤ a.2.2.2.1.toInt ∧ a.2.2.2.1.toInt ≤ 12) (fun a => (12 - a.2.2.2.1.toInt).toNat) (fun b : ((Int32 × Zc) ⊕ (Zc)) => (match b with | .inl b => Zwt zty G b.2 ∧ Zfr G ([] : List (Nat × Nat)) c b.2 ∧ 0 ≤ b.1.toInt ∧ b.1.toInt ≤ 11 | .inr b => Zwt zty G b ∧ Zfr G ([] : List (Nat × Nat)) c b)) ?_ ?_ ?_
    · rintro ⟨x0_2, x3_2, x4_2, x5_2, c_2⟩ hI
      try dsimp only at hI ⊢
      obtain ⟨rfl, rfl, rfl, WLc_2, FLc_2, j3, j4⟩ := hI
      unfold g_StringLatin1_indexOfChar_7
      refine wi (fun hq5 => ?_) (fun hq5 => ?_)
      · have hq5 := i_le hq5
        exact lInr ⟨WLc_2, FLc_2⟩
      · have hq5 := i_nle hq5
        obtain ⟨v2, ev2⟩ := zwsb (i := 1) (j := x5_2) (by decide) (by omega) (by have := zsn_1; omega)
        refine wb ev2 ?_
        refine wi (fun hq6 => ?_) (fun hq6 => ?_)
        · have := i_ge v2
          have := i_up v2
          have hq6 := i_eq hq6
          exact lInr ⟨WLc_2, FLc_2, by (try dsimp only); omega, by (try dsimp only); omega⟩
        · have := i_ge v2
          have := i_up v2
          have hq6 := i_ne hq6
          have := li_1
          have := i_add (a := x5_2) (b := 1) (by omega) (by omega)
          exact lInl ⟨rfl, rfl, rfl, WLc_2, FLc_2, by (try dsimp only); omega, by (try dsimp only); omega⟩ (by (try dsimp only); omega)
    · exact ⟨rfl, rfl, rfl, W, Zfr.rf, by (try dsimp only); omega, by (try dsimp only); omega⟩
    · (try dsimp only); omega
  obtain ⟨b, eb, hb⟩ := L1
  refine wb eb ?_
  clear eb
  rcases b with b | b
  · obtain ⟨z0_7, c_7⟩ := b
    try dsimp only at hb ⊢
    obtain ⟨WXc_7, FXc_7, j8, j9⟩ := hb
    have F10 := Zfr.tr F0 FXc_7 (by decide)
    exact ⟨_, rfl, WXc_7, F10, by (try dsimp only); omega, by (try dsimp only); omega⟩
  · obtain c_11 := b
    try dsimp only at hb ⊢
    obtain ⟨WXc_11, FXc_11⟩ := hb
    have F12 := Zfr.tr F0 FXc_11 (by decide)
    have := li_m1
    exact ⟨_, rfl, WXc_11, F12, by (try dsimp only); omega, by (try dsimp only); omega⟩

abbrev M_StringLatin1_indexOf__1 : List (Nat × Nat) := []
set_option maxRecDepth 100000 in
set_option maxHeartbeats 400000 in
theorem p_StringLatin1_indexOf__1 {nf : Nat} (hn : 8589934592 ≤ nf) {G : List Nat} {c : Zc} (W : Zwt zty G c) {a1 : Int32} {a2 : Int32} {a3 : Int32}  (pl_a2 : 0 ≤ a2.toInt) (pu_a2 : a2.toInt ≤ 0) (pl_a3 : 12 ≤ a3.toInt) (pu_a3 : a3.toInt ≤ 12) : ∃ q, f_StringLatin1_indexOf nf 1 a1 a2 a3 c = some q ∧ Zwt zty G q.2 ∧ Zfr G M_StringLatin1_indexOf__1 c q.2 ∧ (-1) ≤ q.1.toInt ∧ q.1.toInt ≤ 11 := by
  have F0 : Zfr G M_StringLatin1_indexOf__1 c c := Zfr.rf
  unfold f_StringLatin1_indexOf
  obtain ⟨q1, eq1, Wq1, fq1, pl0q1, pu0q1⟩ := p_StringLatin1_canEncode hn W (a0 := a1) 
  refine wb eq1 ?_
  have F1 := Zfr.tr F0 fq1 (by decide)
  refine wi (fun hq2 => ?_) (fun hq2 => ?_)
  · have := li_0
    have hq2 := i_eq hq2
    have := li_m1
    exact ⟨_, rfl, Wq1, F1, by (try dsimp only); omega, by (try dsimp only); omega⟩
  · have := li_0
    have hq2 := i_ne hq2
    obtain ⟨q3, eq3, Wq3, fq3, po0q3⟩ := p_Math_max_0 hn Wq1 (a0 := a2) (a1 := 0) 
    refine wb eq3 ?_
    have F3 := Zfr.tr F1 fq3 (by decide)
    refine wb (show zst 1 = some () from rfl) ?_
    have := zsl_1
    obtain ⟨q5, eq5, Wq5, fq5, po0q5⟩ := p_Math_min_0 hn Wq3 (a0 := a3) (a1 := (Int32.ofNat (zs_len.getD 1 0))) 
    refine wb eq5 ?_
    have F4 := Zfr.tr F3 fq5 (by decide)
    refine wi (fun hq5 => ?_) (fun hq5 => ?_)
    · have hq5 := i_lt hq5
      obtain ⟨q7, eq7, Wq7, fq7, pl0q7, pu0q7⟩ := p_StringLatin1_indexOfChar__1 hn Wq5 (a1 := a1) (a2 := q3.1) (a3 := q5.1) (by omega) (by omega) (by omega) (by omega)
      refine wb eq7 ?_
      have F6 := Zfr.tr F4 fq7 (by decide)
      exact ⟨_, rfl, Wq7, F6, by (try dsimp only); omega, by (try dsimp only); omega⟩
    · have hq5 := i_nlt hq5
      exfalso
      omega

abbrev M_String_indexOf_1__1 : List (Nat × Nat) := []
set_option maxRecDepth 100000 in
set_option maxHeartbeats 400000 in
theorem p_String_indexOf_1__1 {nf : Nat} (hn : 8589934592 ≤ nf) {G : List Nat} {c : Zc} (W : Zwt zty G c) {a1 : Int32} {a2 : Int32}  (pl_a2 : 0 ≤ a2.toInt) (pu_a2 : a2.toInt ≤ 0) : ∃ q, f_String_indexOf_1 nf 1 a1 a2 c = some q ∧ Zwt zty G q.2 ∧ Zfr G M_String_indexOf_1__1 c q.2 ∧ (-1) ≤ q.1.toInt ∧ q.1.toInt ≤ 11 := by
  have F0 : Zfr G M_String_indexOf_1__1 c c := Zfr.rf
  unfold f_String_indexOf_1
  refine wb (show zst 1 = some () from rfl) ?_
  obtain ⟨q1, eq1, Wq1, fq1, pl0q1, pu0q1⟩ := p_String_isLatin1__1 hn W  
  refine wb eq1 ?_
  have F1 := Zfr.tr F0 fq1 (by decide)
  refine wi (fun hq2 => ?_) (fun hq2 => ?_)
  · have := li_0
    have hq2 := i_eq hq2
    exfalso
    omega
  · have := li_0
    have hq2 := i_ne hq2
    refine wb (show zst 1 = some () from rfl) ?_
    refine wb (show zst 1 = some () from rfl) ?_
    obtain ⟨q8, eq8, Wq8, fq8, pl0q8, pu0q8⟩ := p_String_length__1 hn Wq1  
    refine wb eq8 ?_
    have F3 := Zfr.tr F1 fq8 (by decide)
    obtain ⟨q10, eq10, Wq10, fq10, pl0q10, pu0q10⟩ := p_StringLatin1_indexOf__1 hn Wq8 (a1 := a1) (a2 := a2) (a3 := q8.1) (by omega) (by omega) (by omega) (by omega)
    refine wb eq10 ?_
    have F4 := Zfr.tr F3 fq10 (by decide)
    unfold f_String_indexOf_1_36
    exact ⟨_, rfl, Wq10, F4, by (try dsimp only); omega, by (try dsimp only); omega⟩

abbrev M_String_indexOf_0__1 : List (Nat × Nat) := []
set_option maxRecDepth 100000 in
set_option maxHeartbeats 400000 in
theorem p_String_indexOf_0__1 {nf : Nat} (hn : 8589934592 ≤ nf) {G : List Nat} {c : Zc} (W : Zwt zty G c) {a1 : Int32}   : ∃ q, f_String_indexOf_0 nf 1 a1 c = some q ∧ Zwt zty G q.2 ∧ Zfr G M_String_indexOf_0__1 c q.2 ∧ (-1) ≤ q.1.toInt ∧ q.1.toInt ≤ 11 := by
  have F0 : Zfr G M_String_indexOf_0__1 c c := Zfr.rf
  unfold f_String_indexOf_0
  refine wb (show zst 1 = some () from rfl) ?_
  have := li_0
  obtain ⟨q1, eq1, Wq1, fq1, pl0q1, pu0q1⟩ := p_String_indexOf_1__1 hn W (a1 := a1) (a2 := 0) (by omega) (by omega)
  refine wb eq1 ?_
  have F1 := Zfr.tr F0 fq1 (by decide)
  exact ⟨_, rfl, Wq1, F1, by (try dsimp only); omega, by (try dsimp only); omega⟩

abbrev M_StringLatin1_indexOfChar__3 : List (Nat × Nat) := []
set_option maxRecDepth 100000 in
set_option maxHeartbeats 400000 in
theorem p_StringLatin1_indexOfChar__3 {nf : Nat} (hn : 8589934592 ≤ nf) {G : List Nat} {c : Zc} (W : Zwt zty G c) {a1 : Int32} {a2 : Int32} {a3 : Int32}  (pl_a2 : 0 ≤ a2.toInt) (pu_a2 : a2.toInt ≤ 17) (pl_a3 : 0 ≤ a3.toInt) (pu_a3 : a3.toInt ≤ 17) : ∃ q, f_StringLatin1_indexOfChar nf 3 a1 a2 a3 c = some q ∧ Zwt zty G q.2 ∧ Zfr G M_StringLatin1_indexOfChar__3 c q.2 ∧ (-1) ≤ q.1.toInt ∧ q.1.toInt ≤ 16 := by
  have F0 : Zfr G M_StringLatin1_indexOfChar__3 c c := Zfr.rf
  unfold f_StringLatin1_indexOfChar
  unfold f_StringLatin1_indexOfChar_7
  have L1 : ∃ b, zlp (fun a : Nat × Int32 × Int32 × Int32 × Zc => g_StringLatin1_indexOfChar_7 nf a.1 a.2.1 a.2.2.1 a.2.2.2.1 a.2.2.2.2) nf (3, a3, (Int8.toInt32 (Int32.toInt8 a1)), a2, c) = some b ∧ (fun b : ((Int32 × Zc) ⊕ (Zc)) => (match b with | .inl b => Zwt zty G b.2 ∧ Zfr G ([] : List (Nat × Nat)) c b.2 ∧ 0 ≤ b.1.toInt ∧ b.1.toInt ≤ 16 | .inr b => Zwt zty G b ∧ Zfr G ([] : List (Nat × Nat)) c b)) b := by
    refine wlp (fun a : Nat × Int32 × Int32 × Int32 × Zc => (3 : Nat) = a.1 ∧ a3 = a.2.1 ∧ (Int8.toInt32 (Int32.toInt8 a1)) = a.2.2.1 ∧ Zwt zty G a.2.2.2.2 ∧ Zfr G ([] : List (Nat × Nat)) c a.2.2.2.2 ∧ 0 ≤ a.2.2.2.1.toInt ∧ a.2.2.2.1.toInt ≤ 17) (fun a => (17 - a.2.2.2.1.toInt).toNat) (fun b : ((Int32 × Zc) ⊕ (Zc)) => (match b with | .inl b => Zwt zty G b.2 ∧ Zfr G ([] : List (Nat × Nat)) c b.2 ∧ 0 ≤ b.1.toInt ∧ b.1.toInt ≤ 16 | .inr b => Zwt zty G b ∧ Zfr G ([] : List (Nat × Nat)) c b)) ?_ ?_ ?_
    · rintro ⟨x0_2, x3_2, x4_2, x5_2, c_2⟩ hI
      try dsimp only at hI ⊢
      obtain ⟨rfl, rfl, rfl, WLc_2, FLc_2, j3, j4⟩ := hI
      unfold g_StringLatin1_indexOfChar_7
      refine wi (fun hq5 => ?_) (fun hq5 => ?_)
      · have hq5 := i_le hq5
        exact lInr ⟨WLc_2, FLc_2⟩
      · have hq5 := i_nle hq5
        obtain ⟨v2, ev2⟩ := zwsb (i := 3) (j := x5_2) (by decide) (by omega) (by have := zsn_3; omega)
        refine wb ev2 ?_
        refine wi (fun hq6 => ?_) (fun hq6 => ?_)
        · have := i_ge v2
          have := i_up v2
          have hq6 := i_eq hq6
          exact lInr ⟨WLc_2, FLc_2, by (try dsimp only); omega, by (try dsimp only); omega⟩
        · have := i_ge v2
          have := i_up v2
          have hq6 := i_ne hq6
          have := li_1
          have := i_add (a := x5_2) (b := 1) (by omega) (by omega)
          exact lInl ⟨rfl, rfl, rfl, WLc_2, FLc_2, by (try dsimp only); omega, by (try dsimp only); omega⟩ (by (try dsimp only); omega)
    · exact ⟨rfl, rfl, rfl, W, Zfr.rf, by (try dsimp only); omega, by (try dsimp only); omega⟩
    · (try dsimp only); omega
  obtain ⟨b, eb, hb⟩ := L1
  refine wb eb ?_
  clear eb
  rcases b with b | b
  · obtain ⟨z0_7, c_7⟩ := b
    try dsimp only at hb ⊢
    obtain ⟨WXc_7, FXc_7, j8, j9⟩ := hb
    have F10 := Zfr.tr F0 FXc_7 (by decide)
    exact ⟨_, rfl, WXc_7, F10, by (try dsimp only); omega, by (try dsimp only); omega⟩
  · obtain c_11 := b
    try dsimp only at hb ⊢
    obtain ⟨WXc_11, FXc_11⟩ := hb
    have F12 := Zfr.tr F0 FXc_11 (by decide)
    have := li_m1
    exact ⟨_, rfl, WXc_11, F12, by (try dsimp only); omega, by (try dsimp only); omega⟩

abbrev M_StringLatin1_indexOf__3 : List (Nat × Nat) := []
set_option maxRecDepth 100000 in
set_option maxHeartbeats 400000 in
theorem p_StringLatin1_indexOf__3 {nf : Nat} (hn : 8589934592 ≤ nf) {G : List Nat} {c : Zc} (W : Zwt zty G c) {a1 : Int32} {a2 : Int32} {a3 : Int32}  (pl_a2 : 0 ≤ a2.toInt) (pu_a2 : a2.toInt ≤ 0) (pl_a3 : 17 ≤ a3.toInt) (pu_a3 : a3.toInt ≤ 17) : ∃ q, f_StringLatin1_indexOf nf 3 a1 a2 a3 c = some q ∧ Zwt zty G q.2 ∧ Zfr G M_StringLatin1_indexOf__3 c q.2 ∧ (-1) ≤ q.1.toInt ∧ q.1.toInt ≤ 16 := by
  have F0 : Zfr G M_StringLatin1_indexOf__3 c c := Zfr.rf
  unfold f_StringLatin1_indexOf
  obtain ⟨q1, eq1, Wq1, fq1, pl0q1, pu0q1⟩ := p_StringLatin1_canEncode hn W (a0 := a1) 
  refine wb eq1 ?_
  have F1 := Zfr.tr F0 fq1 (by decide)
  refine wi (fun hq2 => ?_) (fun hq2 => ?_)
  · have := li_0
    have hq2 := i_eq hq2
    have := li_m1
    exact ⟨_, rfl, Wq1, F1, by (try dsimp only); omega, by (try dsimp only); omega⟩
  · have := li_0
    have hq2 := i_ne hq2
    obtain ⟨q3, eq3, Wq3, fq3, po0q3⟩ := p_Math_max_0 hn Wq1 (a0 := a2) (a1 := 0) 
    refine wb eq3 ?_
    have F3 := Zfr.tr F1 fq3 (by decide)
    refine wb (show zst 3 = some () from rfl) ?_
    have := zsl_3
    obtain ⟨q5, eq5, Wq5, fq5, po0q5⟩ := p_Math_min_0 hn Wq3 (a0 := a3) (a1 := (Int32.ofNat (zs_len.getD 3 0))) 
    refine wb eq5 ?_
    have F4 := Zfr.tr F3 fq5 (by decide)
    refine wi (fun hq5 => ?_) (fun hq5 => ?_)
    · have hq5 := i_lt hq5
      obtain ⟨q7, eq7, Wq7, fq7, pl0q7, pu0q7⟩ := p_StringLatin1_indexOfChar__3 hn Wq5 (a1 := a1) (a2 := q3.1) (a3 := q5.1) (by omega) (by omega) (by omega) (by omega)
      refine wb eq7 ?_
      have F6 := Zfr.tr F4 fq7 (by decide)
      exact ⟨_, rfl, Wq7, F6, by (try dsimp only); omega, by (try dsimp only); omega⟩
    · have hq5 := i_nlt hq5
      exfalso
      omega

abbrev M_String_indexOf_1__3 : List (Nat × Nat) := []
set_option maxRecDepth 100000 in
set_option maxHeartbeats 400000 in
theorem p_String_indexOf_1__3 {nf : Nat} (hn : 8589934592 ≤ nf) {G : List Nat} {c : Zc} (W : Zwt zty G c) {a1 : Int32} {a2 : Int32}  (pl_a2 : 0 ≤ a2.toInt) (pu_a2 : a2.toInt ≤ 0) : ∃ q, f_String_indexOf_1 nf 3 a1 a2 c = some q ∧ Zwt zty G q.2 ∧ Zfr G M_String_indexOf_1__3 c q.2 ∧ (-1) ≤ q.1.toInt ∧ q.1.toInt ≤ 16 := by
  have F0 : Zfr G M_String_indexOf_1__3 c c := Zfr.rf
  unfold f_String_indexOf_1
  refine wb (show zst 3 = some () from rfl) ?_
  obtain ⟨q1, eq1, Wq1, fq1, pl0q1, pu0q1⟩ := p_String_isLatin1__3 hn W  
  refine wb eq1 ?_
  have F1 := Zfr.tr F0 fq1 (by decide)
  refine wi (fun hq2 => ?_) (fun hq2 => ?_)
  · have := li_0
    have hq2 := i_eq hq2
    exfalso
    omega
  · have := li_0
    have hq2 := i_ne hq2
    refine wb (show zst 3 = some () from rfl) ?_
    refine wb (show zst 3 = some () from rfl) ?_
    obtain ⟨q8, eq8, Wq8, fq8, pl0q8, pu0q8⟩ := p_String_length__3 hn Wq1  
    refine wb eq8 ?_
    have F3 := Zfr.tr F1 fq8 (by decide)
    obtain ⟨q10, eq10, Wq10, fq10, pl0q10, pu0q10⟩ := p_StringLatin1_indexOf__3 hn Wq8 (a1 := a1) (a2 := a2) (a3 := q8.1) (by omega) (by omega) (by omega) (by omega)
    refine wb eq10 ?_
    have F4 := Zfr.tr F3 fq10 (by decide)
    unfold f_String_indexOf_1_36
    exact ⟨_, rfl, Wq10, F4, by (try dsimp only); omega, by (try dsimp only); omega⟩

abbrev M_String_indexOf_0__3 : List (Nat × Nat) := []
set_option maxRecDepth 100000 in
set_option maxHeartbeats 400000 in
theorem p_String_indexOf_0__3 {nf : Nat} (hn : 8589934592 ≤ nf) {G : List Nat} {c : Zc} (W : Zwt zty G c) {a1 : Int32}   : ∃ q, f_String_indexOf_0 nf 3 a1 c = some q ∧ Zwt zty G q.2 ∧ Zfr G M_String_indexOf_0__3 c q.2 ∧ (-1) ≤ q.1.toInt ∧ q.1.toInt ≤ 16 := by
  have F0 : Zfr G M_String_indexOf_0__3 c c := Zfr.rf
  unfold f_String_indexOf_0
  refine wb (show zst 3 = some () from rfl) ?_
  have := li_0
  obtain ⟨q1, eq1, Wq1, fq1, pl0q1, pu0q1⟩ := p_String_indexOf_1__3 hn W (a1 := a1) (a2 := 0) (by omega) (by omega)
  refine wb eq1 ?_
  have F1 := Zfr.tr F0 fq1 (by decide)
  exact ⟨_, rfl, Wq1, F1, by (try dsimp only); omega, by (try dsimp only); omega⟩

abbrev M_Tokens_isBlank : List (Nat × Nat) := []
set_option maxRecDepth 100000 in
set_option maxHeartbeats 400000 in
theorem p_Tokens_isBlank {nf : Nat} (hn : 8589934592 ≤ nf) {G : List Nat} {c : Zc} (W : Zwt zty G c) {a0 : Int32}   : ∃ q, f_Tokens_isBlank nf a0 c = some q ∧ Zwt zty G q.2 ∧ Zfr G M_Tokens_isBlank c q.2 ∧ 0 ≤ q.1.toInt ∧ q.1.toInt ≤ 1 := by
  have F0 : Zfr G M_Tokens_isBlank c c := Zfr.rf
  unfold f_Tokens_isBlank
  have J1 : ∃ q, f_Tokens_isBlank_29 nf 1 c = some q ∧ Zwt zty G q.2 ∧ Zfr G M_Tokens_isBlank c q.2 ∧ 0 ≤ q.1.toInt ∧ q.1.toInt ≤ 1 := by
    unfold f_Tokens_isBlank_29
    have := li_1
    exact wz (rgi (by omega) (by omega)) ⟨W, F0, by (try dsimp only); omega, by (try dsimp only); omega⟩
  have J2 : ∃ q, f_Tokens_isBlank_24 nf c = some q ∧ Zwt zty G q.2 ∧ Zfr G M_Tokens_isBlank c q.2 ∧ 0 ≤ q.1.toInt ∧ q.1.toInt ≤ 1 := by
    unfold f_Tokens_isBlank_24
    exact J1
  refine wi (fun hq3 => ?_) (fun hq3 => ?_)
  · have := li_9
    have := i_ge a0
    have := i_up a0
    have hq3 := i_eq hq3
    exact J2
  · have := li_9
    have := i_ge a0
    have := i_up a0
    have hq3 := i_ne hq3
    refine wi (fun hq4 => ?_) (fun hq4 => ?_)
    · have := li_10
      have hq4 := i_eq hq4
      exact J2
    · have := li_10
      have hq4 := i_ne hq4
      refine wi (fun hq5 => ?_) (fun hq5 => ?_)
      · have := li_13
        have hq5 := i_eq hq5
        exact J2
      · have := li_13
        have hq5 := i_ne hq5
        refine wi (fun hq6 => ?_) (fun hq6 => ?_)
        · have := li_32
          have hq6 := i_eq hq6
          exact J2
        · have := li_32
          have hq6 := i_ne hq6
          unfold f_Tokens_isBlank_29
          have := li_0
          exact wz (rgi (by omega) (by omega)) ⟨W, F0, by (try dsimp only); omega, by (try dsimp only); omega⟩

abbrev M_Tokens_isLetter : List (Nat × Nat) := []
set_option maxRecDepth 100000 in
set_option maxHeartbeats 400000 in
theorem p_Tokens_isLetter {nf : Nat} (hn : 8589934592 ≤ nf) {G : List Nat} {c : Zc} (W : Zwt zty G c) {a0 : Int32}   : ∃ q, f_Tokens_isLetter nf a0 c = some q ∧ Zwt zty G q.2 ∧ Zfr G M_Tokens_isLetter c q.2 ∧ 0 ≤ q.1.toInt ∧ q.1.toInt ≤ 1 := by
  have F0 : Zfr G M_Tokens_isLetter c c := Zfr.rf
  unfold f_Tokens_isLetter
  have J1 : ∃ q, f_Tokens_isLetter_29 nf 0 c = some q ∧ Zwt zty G q.2 ∧ Zfr G M_Tokens_isLetter c q.2 ∧ 0 ≤ q.1.toInt ∧ q.1.toInt ≤ 1 := by
    unfold f_Tokens_isLetter_29
    have := li_0
    exact wz (rgi (by omega) (by omega)) ⟨W, F0, by (try dsimp only); omega, by (try dsimp only); omega⟩
  have J2 : ∃ q, f_Tokens_isLetter_29 nf 1 c = some q ∧ Zwt zty G q.2 ∧ Zfr G M_Tokens_isLetter c q.2 ∧ 0 ≤ q.1.toInt ∧ q.1.toInt ≤ 1 := by
    unfold f_Tokens_isLetter_29
    have := li_1
    exact wz (rgi (by omega) (by omega)) ⟨W, F0, by (try dsimp only); omega, by (try dsimp only); omega⟩
  have J3 : ∃ q, f_Tokens_isLetter_28 nf c = some q ∧ Zwt zty G q.2 ∧ Zfr G M_Tokens_isLetter c q.2 ∧ 0 ≤ q.1.toInt ∧ q.1.toInt ≤ 1 := by
    unfold f_Tokens_isLetter_28
    exact J1
  have J4 : ∃ q, f_Tokens_isLetter_24 nf c = some q ∧ Zwt zty G q.2 ∧ Zfr G M_Tokens_isLetter c q.2 ∧ 0 ≤ q.1.toInt ∧ q.1.toInt ≤ 1 := by
    unfold f_Tokens_isLetter_24
    exact J2
  have J5 : ∃ q, f_Tokens_isLetter_12 nf a0 c = some q ∧ Zwt zty G q.2 ∧ Zfr G M_Tokens_isLetter c q.2 ∧ 0 ≤ q.1.toInt ∧ q.1.toInt ≤ 1 := by
    unfold f_Tokens_isLetter_12
    refine wi (fun hq6 => ?_) (fun hq6 => ?_)
    · have := li_65
      have := i_ge a0
      have := i_up a0
      have hq6 := i_lt hq6
      exact J3
    · have := li_65
      have := i_ge a0
      have := i_up a0
      have hq6 := i_nlt hq6
      refine wi (fun hq7 => ?_) (fun hq7 => ?_)
      · have := li_90
        have hq7 := i_lt hq7
        exact J3
      · have := li_90
        have hq7 := i_nlt hq7
        exact J4
  refine wi (fun hq8 => ?_) (fun hq8 => ?_)
  · have := li_97
    have := i_ge a0
    have := i_up a0
    have hq8 := i_lt hq8
    exact J5
  · have := li_97
    have := i_ge a0
    have := i_up a0
    have hq8 := i_nlt hq8
    refine wi (fun hq9 => ?_) (fun hq9 => ?_)
    · have := li_122
      have hq9 := i_le hq9
      exact J4
    · have := li_122
      have hq9 := i_nle hq9
      exact J5

abbrev M_Tokens_isDigit : List (Nat × Nat) := []
set_option maxRecDepth 100000 in
set_option maxHeartbeats 400000 in
theorem p_Tokens_isDigit {nf : Nat} (hn : 8589934592 ≤ nf) {G : List Nat} {c : Zc} (W : Zwt zty G c) {a0 : Int32}   : ∃ q, f_Tokens_isDigit nf a0 c = some q ∧ Zwt zty G q.2 ∧ Zfr G M_Tokens_isDigit c q.2 ∧ (q.1.toInt = 0 ∨ (48 ≤ a0.toInt ∧ a0.toInt ≤ 57)) ∧ 0 ≤ q.1.toInt ∧ q.1.toInt ≤ 1 := by
  have F0 : Zfr G M_Tokens_isDigit c c := Zfr.rf
  unfold f_Tokens_isDigit
  have J1 : ∃ q, f_Tokens_isDigit_17 nf 0 c = some q ∧ Zwt zty G q.2 ∧ Zfr G M_Tokens_isDigit c q.2 ∧ (q.1.toInt = 0 ∨ (48 ≤ a0.toInt ∧ a0.toInt ≤ 57)) ∧ 0 ≤ q.1.toInt ∧ q.1.toInt ≤ 1 := by
    unfold f_Tokens_isDigit_17
    have := li_0
    exact wz (rgi (by omega) (by omega)) ⟨W, F0, by (try dsimp only); omega, by (try dsimp only); omega, by (try dsimp only); omega⟩
  have J2 : ∃ q, f_Tokens_isDigit_16 nf c = some q ∧ Zwt zty G q.2 ∧ Zfr G M_Tokens_isDigit c q.2 ∧ (q.1.toInt = 0 ∨ (48 ≤ a0.toInt ∧ a0.toInt ≤ 57)) ∧ 0 ≤ q.1.toInt ∧ q.1.toInt ≤ 1 := by
    unfold f_Tokens_isDigit_16
    exact J1
  refine wi (fun hq3 => ?_) (fun hq3 => ?_)
  · have := li_48
    have := i_ge a0
    have := i_up a0
    have hq3 := i_lt hq3
    exact J2
  · have := li_48
    have := i_ge a0
    have := i_up a0
    have hq3 := i_nlt hq3
    refine wi (fun hq4 => ?_) (fun hq4 => ?_)
    · have := li_57
      have hq4 := i_lt hq4
      exact J2
    · have := li_57
      have hq4 := i_nlt hq4
      unfold f_Tokens_isDigit_17
      have := li_1
      exact wz (rgi (by omega) (by omega)) ⟨W, F0, by (try dsimp only); omega, by (try dsimp only); omega, by (try dsimp only); omega⟩

abbrev M_Tokens_numberKind : List (Nat × Nat) := [(39, 0)]
set_option maxRecDepth 100000 in
set_option maxHeartbeats 400000 in
theorem p_Tokens_numberKind {nf : Nat} (hn : 8589934592 ≤ nf) {G : List Nat} {c : Zc} (W : Zwt zty G c) {a0 : Nat} {a1 : Int32} {a2 : Int32}  (t_a0 : G[a0]? = some 4) (pl_a1 : 0 ≤ a1.toInt) (pu_a1 : a1.toInt ≤ 1499) (pl_a2 : 1 ≤ a2.toInt) (pu_a2 : a2.toInt ≤ 1500) (pp_2 : a1.toInt < a2.toInt) (hb_Zkt : Zkt G c a0) : ∃ q, f_Tokens_numberKind nf a0 a1 a2 c = some q ∧ Zwt zty G q.2 ∧ Zfr G M_Tokens_numberKind c q.2 ∧ Zkv G q.2 a0 q.1 := by
  have F0 : Zfr G M_Tokens_numberKind c c := Zfr.rf
  unfold f_Tokens_numberKind
  obtain ⟨btp0, bkk0, bvv0, bn0, h0Zkt0, h1Zkt0, h2Zkt0, h3Zkt0, ttp0, tkk0, tvv0, r0Zkt0, r1Zkt0, k0Zkt0⟩ := hb_Zkt
  refine wi (fun hq1 => ?_) (fun hq1 => ?_)
  · have := i_sub (a := a2) (b := a1) (by omega) (by omega)
    have := li_4
    have hq1 := i_le hq1
    unfold f_Tokens_numberKind_14
    have := li_0
    have L2 : ∃ b, zlp (fun a : Nat × Int32 × Int32 × Int32 × Zc => g_Tokens_numberKind_14 nf a.1 a.2.1 a.2.2.1 a.2.2.2.1 a.2.2.2.2) nf (a0, a2, 0, a1, c) = some b ∧ (fun b : ((Zc) ⊕ (Nat × Int32 × Zc)) => (match b with | .inl b => Zwt zty G b ∧ Zfr G ([] : List (Nat × Nat)) c b | .inr b => a0 = b.1 ∧ Zwt zty G b.2.2 ∧ Zfr G ([] : List (Nat × Nat)) c b.2.2 ∧ 0 ≤ b.2.1.toInt ∧ b.2.1.toInt ≤ 9999)) b := by
      refine wlp (fun a : Nat × Int32 × Int32 × Int32 × Zc => a0 = a.1 ∧ a2 = a.2.1 ∧ Zwt zty G a.2.2.2.2 ∧ Zfr G ([] : List (Nat × Nat)) c a.2.2.2.2 ∧ 0 ≤ a.2.2.1.toInt ∧ a.2.2.1.toInt ≤ 9999 ∧ 0 ≤ a.2.2.2.1.toInt ∧ a.2.2.2.1.toInt ≤ 1500 ∧ ((a.2.2.2.1.toInt = a1.toInt + 0 ∧ a.2.2.1.toInt ≤ 0) ∨ (a.2.2.2.1.toInt = a1.toInt + 1 ∧ a.2.2.1.toInt ≤ 9) ∨ (a.2.2.2.1.toInt = a1.toInt + 2 ∧ a.2.2.1.toInt ≤ 99) ∨ (a.2.2.2.1.toInt = a1.toInt + 3 ∧ a.2.2.1.toInt ≤ 999) ∨ (a.2.2.2.1.toInt = a1.toInt + 4 ∧ a.2.2.1.toInt ≤ 9999))) (fun a => (1500 - a.2.2.2.1.toInt).toNat) (fun b : ((Zc) ⊕ (Nat × Int32 × Zc)) => (match b with | .inl b => Zwt zty G b ∧ Zfr G ([] : List (Nat × Nat)) c b | .inr b => a0 = b.1 ∧ Zwt zty G b.2.2 ∧ Zfr G ([] : List (Nat × Nat)) c b.2.2 ∧ 0 ≤ b.2.1.toInt ∧ b.2.1.toInt ≤ 9999)) ?_ ?_ ?_
      · rintro ⟨x0_3, x2_3, x3_3, x4_3, c_3⟩ hI
        try dsimp only at hI ⊢
        obtain ⟨rfl, rfl, WLc_3, FLc_3, j4, j5, j6, j7, j8⟩ := hI
        have e9 := (Zfr.gr FLc_3 t_a0 (by decide)).trans h0Zkt0
        have e10 := (Zfr.gr FLc_3 t_a0 (by decide)).trans h1Zkt0
        have e11 := (Zfr.gr FLc_3 t_a0 (by decide)).trans h2Zkt0
        have e12 := (Zfr.gi FLc_3 t_a0 (by decide)).trans h3Zkt0
        have k13 := TkR_fr k0Zkt0 FLc_3 tkk0 tvv0 (by decide) (by decide)
        unfold g_Tokens_numberKind_14
        refine wi (fun hq14 => ?_) (fun hq14 => ?_)
        · have hq14 := i_le hq14
          exact lInr ⟨rfl, WLc_3, FLc_3, by (try dsimp only); omega, by (try dsimp only); omega⟩
        · have hq14 := i_nle hq14
          refine wb e9 ?_
          obtain ⟨v4, ev4, _⟩ := ga_42 WLc_3 ttp0 (i := x4_3) (by omega) (by omega)
          refine wb ev4 ?_
          obtain ⟨q5, eq5, Wq5, fq5, po0q5, pl1q5, pu1q5⟩ := p_Tokens_isDigit hn WLc_3 (a0 := v4) 
          refine wb eq5 ?_
          have e15 := (Zfr.gr fq5 t_a0 (by decide)).trans e9
          have e16 := (Zfr.gr fq5 t_a0 (by decide)).trans e10
          have e17 := (Zfr.gr fq5 t_a0 (by decide)).trans e11
          have e18 := (Zfr.gi fq5 t_a0 (by decide)).trans e12
          have e19 := (Zfr.ai fq5 ttp0 (by decide)).trans ev4
          have k20 := TkR_fr k13 fq5 tkk0 tvv0 (by decide) (by decide)
          have F21 := Zfr.tr FLc_3 fq5 (by decide)
          refine wi (fun hq22 => ?_) (fun hq22 => ?_)
          · have hq22 := i_eq hq22
            exact lInr ⟨Wq5, F21⟩
          · have hq22 := i_ne hq22
            refine wb e15 ?_
            refine wb e19 ?_
            have := li_10
            have := i_mulr (a := x3_3) (b := 10) (n := 10) li_10 (by omega) (by omega)
            have := i_add (a := (x3_3 * 10)) (b := v4) (by omega) (by omega)
            have := li_48
            have := i_sub (a := ((x3_3 * 10) + v4)) (b := 48) (by omega) (by omega)
            have := li_1
            have := i_add (a := x4_3) (b := 1) (by omega) (by omega)
            exact lInl ⟨rfl, rfl, Wq5, F21, by (try dsimp only); omega, by (try dsimp only); omega, by (try dsimp only); omega, by (try dsimp only); omega, by (try dsimp only); omega⟩ (by (try dsimp only); omega)
      · exact ⟨rfl, rfl, W, Zfr.rf, by (try dsimp only); omega, by (try dsimp only); omega, by (try dsimp only); omega, by (try dsimp only); omega, by (try dsimp only); omega⟩
      · (try dsimp only); omega
    obtain ⟨b, eb, hb⟩ := L2
    refine wb eb ?_
    clear eb
    rcases b with b | b
    · obtain c_23 := b
      try dsimp only at hb ⊢
      obtain ⟨WXc_23, FXc_23⟩ := hb
      have e24 := (Zfr.gr FXc_23 t_a0 (by decide)).trans h0Zkt0
      have e25 := (Zfr.gr FXc_23 t_a0 (by decide)).trans h1Zkt0
      have e26 := (Zfr.gr FXc_23 t_a0 (by decide)).trans h2Zkt0
      have e27 := (Zfr.gi FXc_23 t_a0 (by decide)).trans h3Zkt0
      have k28 := TkR_fr k0Zkt0 FXc_23 tkk0 tvv0 (by decide) (by decide)
      have F29 := Zfr.tr F0 FXc_23 (by decide)
      obtain ⟨w_34, ew_34, lw_34, uw_34⟩ := ga_39 WXc_23 tvv0 (i := bn0) (by omega) (by omega)
      exact ⟨_, rfl, WXc_23, F29, ⟨btp0, bkk0, bvv0, bn0, w_34, e24, e25, e26, e27, ew_34, ttp0, tkk0, tvv0, by (try dsimp only); omega, by (try dsimp only); omega, tkri (by (try dsimp only); omega) (by (try dsimp only); omega) (by (try dsimp only); omega) (by (try dsimp only); omega) (by (try dsimp only); omega), k28⟩⟩
    · obtain ⟨z0_35, z1_35, c_35⟩ := b
      try dsimp only at hb ⊢
      obtain ⟨rfl, WXc_35, FXc_35, j36, j37⟩ := hb
      have e38 := (Zfr.gr FXc_35 t_a0 (by decide)).trans h0Zkt0
      have e39 := (Zfr.gr FXc_35 t_a0 (by decide)).trans h1Zkt0
      have e40 := (Zfr.gr FXc_35 t_a0 (by decide)).trans h2Zkt0
      have e41 := (Zfr.gi FXc_35 t_a0 (by decide)).trans h3Zkt0
      have k42 := TkR_fr k0Zkt0 FXc_35 tkk0 tvv0 (by decide) (by decide)
      have F43 := Zfr.tr F0 FXc_35 (by decide)
      refine wb e40 ?_
      refine wb e41 ?_
      obtain ⟨c11, ec11, Wc11, fc11, gc11⟩ := pa_39 WXc_35 tvv0 (i := bn0) (by omega) (by omega) (x := z1_35) (rgi (by omega) (by omega))
      refine wb ec11 ?_
      have e44 := (Zfr.gr fc11 t_a0 (by decide)).trans e38
      have e45 := (Zfr.gr fc11 t_a0 (by decide)).trans e39
      have e46 := (Zfr.gr fc11 t_a0 (by decide)).trans e40
      have e47 := (Zfr.gi fc11 t_a0 (by decide)).trans e41
      have k48 := TkR_wv k42 tkk0 tvv0 ec11
      have F49 := Zfr.tr F43 fc11 (by decide)
      have := li_6
      exact ⟨_, rfl, Wc11, F49, ⟨btp0, bkk0, bvv0, bn0, z1_35, e44, e45, e46, e47, gc11, ttp0, tkk0, tvv0, by (try dsimp only); omega, by (try dsimp only); omega, tkri (by (try dsimp only); omega) (by (try dsimp only); omega) (by (try dsimp only); omega) (by (try dsimp only); omega) (by (try dsimp only); omega), k48⟩⟩
  · have := i_sub (a := a2) (b := a1) (by omega) (by omega)
    have := li_4
    have hq1 := i_nle hq1
    have := li_0
    obtain ⟨w_59, ew_59, lw_59, uw_59⟩ := ga_39 W tvv0 (i := bn0) (by omega) (by omega)
    exact ⟨_, rfl, W, F0, ⟨btp0, bkk0, bvv0, bn0, w_59, h0Zkt0, h1Zkt0, h2Zkt0, h3Zkt0, ew_59, ttp0, tkk0, tvv0, by (try dsimp only); omega, by (try dsimp only); omega, tkri (by (try dsimp only); omega) (by (try dsimp only); omega) (by (try dsimp only); omega) (by (try dsimp only); omega) (by (try dsimp only); omega), k0Zkt0⟩⟩

abbrev M_Tokens_letterKind : List (Nat × Nat) := [(39, 0)]
set_option maxRecDepth 100000 in
set_option maxHeartbeats 400000 in
theorem p_Tokens_letterKind {nf : Nat} (hn : 8589934592 ≤ nf) {G : List Nat} {c : Zc} (W : Zwt zty G c) {a0 : Nat} {a1 : Int32}  (t_a0 : G[a0]? = some 4) (hb_Zkt : Zkt G c a0) : ∃ q, f_Tokens_letterKind nf a0 a1 c = some q ∧ Zwt zty G q.2 ∧ Zfr G M_Tokens_letterKind c q.2 ∧ Zkv G q.2 a0 q.1 := by
  have F0 : Zfr G M_Tokens_letterKind c c := Zfr.rf
  unfold f_Tokens_letterKind
  obtain ⟨btp0, bkk0, bvv0, bn0, h0Zkt0, h1Zkt0, h2Zkt0, h3Zkt0, ttp0, tkk0, tvv0, r0Zkt0, r1Zkt0, k0Zkt0⟩ := hb_Zkt
  refine wb (show zst 0 = some () from rfl) ?_
  obtain ⟨q1, eq1, Wq1, fq1, pl0q1, pu0q1⟩ := p_String_indexOf_0__0 hn W (a1 := a1) 
  refine wb eq1 ?_
  have e1 := (Zfr.gr fq1 t_a0 (by decide)).trans h0Zkt0
  have e2 := (Zfr.gr fq1 t_a0 (by decide)).trans h1Zkt0
  have e3 := (Zfr.gr fq1 t_a0 (by decide)).trans h2Zkt0
  have e4 := (Zfr.gi fq1 t_a0 (by decide)).trans h3Zkt0
  have k5 := TkR_fr k0Zkt0 fq1 tkk0 tvv0 (by decide) (by decide)
  have F6 := Zfr.tr F0 fq1 (by decide)
  refine wi (fun hq7 => ?_) (fun hq7 => ?_)
  · have := li_0
    have hq7 := i_lt hq7
    refine wb (show zst 1 = some () from rfl) ?_
    obtain ⟨q4, eq4, Wq4, fq4, pl0q4, pu0q4⟩ := p_String_indexOf_0__1 hn Wq1 (a1 := a1) 
    refine wb eq4 ?_
    have e8 := (Zfr.gr fq4 t_a0 (by decide)).trans e1
    have e9 := (Zfr.gr fq4 t_a0 (by decide)).trans e2
    have e10 := (Zfr.gr fq4 t_a0 (by decide)).trans e3
    have e11 := (Zfr.gi fq4 t_a0 (by decide)).trans e4
    have k12 := TkR_fr k5 fq4 tkk0 tvv0 (by decide) (by decide)
    have F13 := Zfr.tr F6 fq4 (by decide)
    refine wb e10 ?_
    refine wb e11 ?_
    obtain ⟨c8, ec8, Wc8, fc8, gc8⟩ := pa_39 Wq4 tvv0 (i := bn0) (by omega) (by omega) (x := q4.1) (rgi (by omega) (by omega))
    refine wb ec8 ?_
    have e14 := (Zfr.gr fc8 t_a0 (by decide)).trans e8
    have e15 := (Zfr.gr fc8 t_a0 (by decide)).trans e9
    have e16 := (Zfr.gr fc8 t_a0 (by decide)).trans e10
    have e17 := (Zfr.gi fc8 t_a0 (by decide)).trans e11
    have k18 := TkR_wv k12 tkk0 tvv0 ec8
    have F19 := Zfr.tr F13 fc8 (by decide)
    refine wi (fun hq20 => ?_) (fun hq20 => ?_)
    · have hq20 := i_lt hq20
      unfold f_Tokens_letterKind_52
      exact ⟨_, rfl, Wc8, F19, ⟨btp0, bkk0, bvv0, bn0, q4.1, e14, e15, e16, e17, gc8, ttp0, tkk0, tvv0, by (try dsimp only); omega, by (try dsimp only); omega, tkri (by (try dsimp only); omega) (by (try dsimp only); omega) (by (try dsimp only); omega) (by (try dsimp only); omega) (by (try dsimp only); omega), k18⟩⟩
    · have hq20 := i_nlt hq20
      unfold f_Tokens_letterKind_52
      have := li_5
      exact ⟨_, rfl, Wc8, F19, ⟨btp0, bkk0, bvv0, bn0, q4.1, e14, e15, e16, e17, gc8, ttp0, tkk0, tvv0, by (try dsimp only); omega, by (try dsimp only); omega, tkri (by (try dsimp only); omega) (by (try dsimp only); omega) (by (try dsimp only); omega) (by (try dsimp only); omega) (by (try dsimp only); omega), k18⟩⟩
  · have := li_0
    have hq7 := i_nlt hq7
    refine wb e3 ?_
    refine wb e4 ?_
    have := li_11
    have := i_mulr (a := q1.1) (b := 11) (n := 11) li_11 (by omega) (by omega)
    obtain ⟨c12, ec12, Wc12, fc12, gc12⟩ := pa_39 Wq1 tvv0 (i := bn0) (by omega) (by omega) (x := (q1.1 * 11)) (rgi (by omega) (by omega))
    refine wb ec12 ?_
    have e31 := (Zfr.gr fc12 t_a0 (by decide)).trans e1
    have e32 := (Zfr.gr fc12 t_a0 (by decide)).trans e2
    have e33 := (Zfr.gr fc12 t_a0 (by decide)).trans e3
    have e34 := (Zfr.gi fc12 t_a0 (by decide)).trans e4
    have k35 := TkR_wv k5 tkk0 tvv0 ec12
    have F36 := Zfr.tr F6 fc12 (by decide)
    have := li_2
    exact ⟨_, rfl, Wc12, F36, ⟨btp0, bkk0, bvv0, bn0, (q1.1 * 11), e31, e32, e33, e34, gc12, ttp0, tkk0, tvv0, by (try dsimp only); omega, by (try dsimp only); omega, tkri (by (try dsimp only); omega) (by (try dsimp only); omega) (by (try dsimp only); omega) (by (try dsimp only); omega) (by (try dsimp only); omega), k35⟩⟩

abbrev M_Tokens_numberedKind : List (Nat × Nat) := [(39, 0)]
set_option maxRecDepth 100000 in
set_option maxHeartbeats 400000 in
theorem p_Tokens_numberedKind {nf : Nat} (hn : 8589934592 ≤ nf) {G : List Nat} {c : Zc} (W : Zwt zty G c) {a0 : Nat} {a1 : Int32} {a2 : Int32}  (t_a0 : G[a0]? = some 4) (pl_a2 : 0 ≤ a2.toInt) (pu_a2 : a2.toInt ≤ 9) (hb_Zkt : Zkt G c a0) : ∃ q, f_Tokens_numberedKind nf a0 a1 a2 c = some q ∧ Zwt zty G q.2 ∧ Zfr G M_Tokens_numberedKind c q.2 ∧ Zkv G q.2 a0 q.1 := by
  have F0 : Zfr G M_Tokens_numberedKind c c := Zfr.rf
  unfold f_Tokens_numberedKind
  obtain ⟨btp0, bkk0, bvv0, bn0, h0Zkt0, h1Zkt0, h2Zkt0, h3Zkt0, ttp0, tkk0, tvv0, r0Zkt0, r1Zkt0, k0Zkt0⟩ := hb_Zkt
  refine wb (show zst 0 = some () from rfl) ?_
  obtain ⟨q1, eq1, Wq1, fq1, pl0q1, pu0q1⟩ := p_String_indexOf_0__0 hn W (a1 := a1) 
  refine wb eq1 ?_
  have e1 := (Zfr.gr fq1 t_a0 (by decide)).trans h0Zkt0
  have e2 := (Zfr.gr fq1 t_a0 (by decide)).trans h1Zkt0
  have e3 := (Zfr.gr fq1 t_a0 (by decide)).trans h2Zkt0
  have e4 := (Zfr.gi fq1 t_a0 (by decide)).trans h3Zkt0
  have k5 := TkR_fr k0Zkt0 fq1 tkk0 tvv0 (by decide) (by decide)
  have F6 := Zfr.tr F0 fq1 (by decide)
  refine wb e3 ?_
  refine wb e4 ?_
  obtain ⟨c5, ec5, Wc5, fc5, gc5⟩ := pa_39 Wq1 tvv0 (i := bn0) (by omega) (by omega) (x := a2) (rgi (by omega) (by omega))
  refine wb ec5 ?_
  have e7 := (Zfr.gr fc5 t_a0 (by decide)).trans e1
  have e8 := (Zfr.gr fc5 t_a0 (by decide)).trans e2
  have e9 := (Zfr.gr fc5 t_a0 (by decide)).trans e3
  have e10 := (Zfr.gi fc5 t_a0 (by decide)).trans e4
  have k11 := TkR_wv k5 tkk0 tvv0 ec5
  have F12 := Zfr.tr F6 fc5 (by decide)
  refine wi (fun hq13 => ?_) (fun hq13 => ?_)
  · have := li_0
    have hq13 := i_lt hq13
    refine wi (fun hq14 => ?_) (fun hq14 => ?_)
    · have := li_109
      have := i_ge a1
      have := i_up a1
      have hq14 := i_eq hq14
      refine wi (fun hq15 => ?_) (fun hq15 => ?_)
      · have := li_8
        have hq15 := i_le hq15
        unfold f_Tokens_numberedKind_54
        refine wi (fun hq16 => ?_) (fun hq16 => ?_)
        · have := li_99
          have hq16 := i_eq hq16
          exfalso
          omega
        · have := li_99
          have hq16 := i_ne hq16
          unfold f_Tokens_numberedKind_69
          unfold f_Tokens_numberedKind_70
          exact ⟨_, rfl, Wc5, F12, ⟨btp0, bkk0, bvv0, bn0, a2, e7, e8, e9, e10, gc5, ttp0, tkk0, tvv0, by (try dsimp only); omega, by (try dsimp only); omega, tkri (by (try dsimp only); omega) (by (try dsimp only); omega) (by (try dsimp only); omega) (by (try dsimp only); omega) (by (try dsimp only); omega), k11⟩⟩
      · have := li_8
        have hq15 := i_nle hq15
        have := li_3
        exact ⟨_, rfl, Wc5, F12, ⟨btp0, bkk0, bvv0, bn0, a2, e7, e8, e9, e10, gc5, ttp0, tkk0, tvv0, by (try dsimp only); omega, by (try dsimp only); omega, tkri (by (try dsimp only); omega) (by (try dsimp only); omega) (by (try dsimp only); omega) (by (try dsimp only); omega) (by (try dsimp only); omega), k11⟩⟩
    · have := li_109
      have := i_ge a1
      have := i_up a1
      have hq14 := i_ne hq14
      unfold f_Tokens_numberedKind_54
      refine wi (fun hq27 => ?_) (fun hq27 => ?_)
      · have := li_99
        have hq27 := i_eq hq27
        refine wi (fun hq28 => ?_) (fun hq28 => ?_)
        · have := li_4
          have hq28 := i_le hq28
          unfold f_Tokens_numberedKind_69
          unfold f_Tokens_numberedKind_70
          exact ⟨_, rfl, Wc5, F12, ⟨btp0, bkk0, bvv0, bn0, a2, e7, e8, e9, e10, gc5, ttp0, tkk0, tvv0, by (try dsimp only); omega, by (try dsimp only); omega, tkri (by (try dsimp only); omega) (by (try dsimp only); omega) (by (try dsimp only); omega) (by (try dsimp only); omega) (by (try dsimp only); omega), k11⟩⟩
        · have := li_4
          have hq28 := i_nle hq28
          unfold f_Tokens_numberedKind_70
          exact ⟨_, rfl, Wc5, F12, ⟨btp0, bkk0, bvv0, bn0, a2, e7, e8, e9, e10, gc5, ttp0, tkk0, tvv0, by (try dsimp only); omega, by (try dsimp only); omega, tkri (by (try dsimp only); omega) (by (try dsimp only); omega) (by (try dsimp only); omega) (by (try dsimp only); omega) (by (try dsimp only); omega), k11⟩⟩
      · have := li_99
        have hq27 := i_ne hq27
        unfold f_Tokens_numberedKind_69
        unfold f_Tokens_numberedKind_70
        exact ⟨_, rfl, Wc5, F12, ⟨btp0, bkk0, bvv0, bn0, a2, e7, e8, e9, e10, gc5, ttp0, tkk0, tvv0, by (try dsimp only); omega, by (try dsimp only); omega, tkri (by (try dsimp only); omega) (by (try dsimp only); omega) (by (try dsimp only); omega) (by (try dsimp only); omega) (by (try dsimp only); omega), k11⟩⟩
  · have := li_0
    have hq13 := i_nlt hq13
    refine wb e9 ?_
    refine wb e10 ?_
    have := li_11
    have := i_mulr (a := q1.1) (b := 11) (n := 11) li_11 (by omega) (by omega)
    have := li_1
    have := i_add (a := (q1.1 * 11)) (b := 1) (by omega) (by omega)
    have := i_add (a := ((q1.1 * 11) + 1)) (b := a2) (by omega) (by omega)
    obtain ⟨c13, ec13, Wc13, fc13, gc13⟩ := pa_39 Wc5 tvv0 (i := bn0) (by omega) (by omega) (x := (((q1.1 * 11) + 1) + a2)) (rgi (by omega) (by omega))
    refine wb ec13 ?_
    have e44 := (Zfr.gr fc13 t_a0 (by decide)).trans e7
    have e45 := (Zfr.gr fc13 t_a0 (by decide)).trans e8
    have e46 := (Zfr.gr fc13 t_a0 (by decide)).trans e9
    have e47 := (Zfr.gi fc13 t_a0 (by decide)).trans e10
    have k48 := TkR_wv k11 tkk0 tvv0 ec13
    have F49 := Zfr.tr F12 fc13 (by decide)
    have := li_2
    exact ⟨_, rfl, Wc13, F49, ⟨btp0, bkk0, bvv0, bn0, (((q1.1 * 11) + 1) + a2), e44, e45, e46, e47, gc13, ttp0, tkk0, tvv0, by (try dsimp only); omega, by (try dsimp only); omega, tkri (by (try dsimp only); omega) (by (try dsimp only); omega) (by (try dsimp only); omega) (by (try dsimp only); omega) (by (try dsimp only); omega), k48⟩⟩

abbrev M_Tokens_isSame : List (Nat × Nat) := []
set_option maxRecDepth 100000 in
set_option maxHeartbeats 400000 in
theorem p_Tokens_isSame {nf : Nat} (hn : 8589934592 ≤ nf) {G : List Nat} {c : Zc} (W : Zwt zty G c) {a0 : Nat} {a1 : Int32} {a2 : Int32} {a3 : Int32}  (t_a0 : G[a0]? = some 4) (pl_a1 : 0 ≤ a1.toInt) (pu_a1 : a1.toInt ≤ 1499) (pl_a2 : 1 ≤ a2.toInt) (pu_a2 : a2.toInt ≤ 1500) (pl_a3 : 0 ≤ a3.toInt) (pu_a3 : a3.toInt ≤ 66) (pp_3 : a1.toInt < a2.toInt) (pp_4 : a3.toInt + a2.toInt - a1.toInt ≤ 65) (hb_Zkt : Zkt G c a0) : ∃ q, f_Tokens_isSame nf a0 a1 a2 a3 c = some q ∧ Zwt zty G q.2 ∧ Zfr G M_Tokens_isSame c q.2 ∧ 0 ≤ q.1.toInt ∧ q.1.toInt ≤ 1 ∧ Zkt G q.2 a0 := by
  have F0 : Zfr G M_Tokens_isSame c c := Zfr.rf
  unfold f_Tokens_isSame
  obtain ⟨btp0, bkk0, bvv0, bn0, h0Zkt0, h1Zkt0, h2Zkt0, h3Zkt0, ttp0, tkk0, tvv0, r0Zkt0, r1Zkt0, k0Zkt0⟩ := hb_Zkt
  unfold f_Tokens_isSame_3
  have L1 : ∃ b, zlp (fun a : Nat × Int32 × Int32 × Int32 × Int32 × Zc => g_Tokens_isSame_3 nf a.1 a.2.1 a.2.2.1 a.2.2.2.1 a.2.2.2.2.1 a.2.2.2.2.2) nf (a0, a1, a2, a3, a1, c) = some b ∧ (fun b : ((Zc) ⊕ (Zc)) => (match b with | .inl b => Zwt zty G b ∧ Zfr G ([] : List (Nat × Nat)) c b | .inr b => Zwt zty G b ∧ Zfr G ([] : List (Nat × Nat)) c b)) b := by
    refine wlp (fun a : Nat × Int32 × Int32 × Int32 × Int32 × Zc => a0 = a.1 ∧ a1 = a.2.1 ∧ a2 = a.2.2.1 ∧ a3 = a.2.2.2.1 ∧ Zwt zty G a.2.2.2.2.2 ∧ Zfr G ([] : List (Nat × Nat)) c a.2.2.2.2.2 ∧ 0 ≤ a.2.2.2.2.1.toInt ∧ a.2.2.2.2.1.toInt ≤ 1500 ∧ a1.toInt ≤ a.2.2.2.2.1.toInt) (fun a => (1500 - a.2.2.2.2.1.toInt).toNat) (fun b : ((Zc) ⊕ (Zc)) => (match b with | .inl b => Zwt zty G b ∧ Zfr G ([] : List (Nat × Nat)) c b | .inr b => Zwt zty G b ∧ Zfr G ([] : List (Nat × Nat)) c b)) ?_ ?_ ?_
    · rintro ⟨x0_2, x1_2, x2_2, x3_2, x4_2, c_2⟩ hI
      try dsimp only at hI ⊢
      obtain ⟨rfl, rfl, rfl, rfl, WLc_2, FLc_2, j3, j4, j5⟩ := hI
      have e6 := (Zfr.gr FLc_2 t_a0 (by decide)).trans h0Zkt0
      have e7 := (Zfr.gr FLc_2 t_a0 (by decide)).trans h1Zkt0
      have e8 := (Zfr.gr FLc_2 t_a0 (by decide)).trans h2Zkt0
      have e9 := (Zfr.gi FLc_2 t_a0 (by decide)).trans h3Zkt0
      have k10 := TkR_fr k0Zkt0 FLc_2 tkk0 tvv0 (by decide) (by decide)
      unfold g_Tokens_isSame_3
      refine wi (fun hq11 => ?_) (fun hq11 => ?_)
      · have hq11 := i_le hq11
        exact lInr ⟨WLc_2, FLc_2⟩
      · have hq11 := i_nle hq11
        refine wb (show zst 2 = some () from rfl) ?_
        have := i_add (a := a3) (b := x4_2) (by omega) (by omega)
        have := i_sub (a := (a3 + x4_2)) (b := a1) (by omega) (by omega)
        obtain ⟨q2, eq2, Wq2, fq2⟩ := p_String_charAt__2 hn WLc_2 (a1 := ((a3 + x4_2) - a1)) (by omega) (by omega)
        refine wb eq2 ?_
        have e12 := (Zfr.gr fq2 t_a0 (by decide)).trans e6
        have e13 := (Zfr.gr fq2 t_a0 (by decide)).trans e7
        have e14 := (Zfr.gr fq2 t_a0 (by decide)).trans e8
        have e15 := (Zfr.gi fq2 t_a0 (by decide)).trans e9
        have k16 := TkR_fr k10 fq2 tkk0 tvv0 (by decide) (by decide)
        have F17 := Zfr.tr FLc_2 fq2 (by decide)
        refine wb e12 ?_
        obtain ⟨v5, ev5, _⟩ := ga_42 Wq2 ttp0 (i := x4_2) (by omega) (by omega)
        refine wb ev5 ?_
        refine wi (fun hq18 => ?_) (fun hq18 => ?_)
        · have := i_ge q2.1
          have := i_up q2.1
          have := i_ge v5
          have := i_up v5
          have hq18 := i_eq hq18
          have := li_1
          have := i_add (a := x4_2) (b := 1) (by omega) (by omega)
          exact lInl ⟨rfl, rfl, rfl, rfl, Wq2, F17, by (try dsimp only); omega, by (try dsimp only); omega, by (try dsimp only); omega⟩ (by (try dsimp only); omega)
        · have := i_ge q2.1
          have := i_up q2.1
          have := i_ge v5
          have := i_up v5
          have hq18 := i_ne hq18
          exact lInr ⟨Wq2, F17⟩
    · exact ⟨rfl, rfl, rfl, rfl, W, Zfr.rf, by (try dsimp only); omega, by (try dsimp only); omega, by (try dsimp only); omega⟩
    · (try dsimp only); omega
  obtain ⟨b, eb, hb⟩ := L1
  refine wb eb ?_
  clear eb
  rcases b with b | b
  · obtain c_19 := b
    try dsimp only at hb ⊢
    obtain ⟨WXc_19, FXc_19⟩ := hb
    have e20 := (Zfr.gr FXc_19 t_a0 (by decide)).trans h0Zkt0
    have e21 := (Zfr.gr FXc_19 t_a0 (by decide)).trans h1Zkt0
    have e22 := (Zfr.gr FXc_19 t_a0 (by decide)).trans h2Zkt0
    have e23 := (Zfr.gi FXc_19 t_a0 (by decide)).trans h3Zkt0
    have k24 := TkR_fr k0Zkt0 FXc_19 tkk0 tvv0 (by decide) (by decide)
    have F25 := Zfr.tr F0 FXc_19 (by decide)
    have := li_0
    exact wz (rgi (by omega) (by omega)) ⟨WXc_19, F25, by (try dsimp only); omega, by (try dsimp only); omega, ⟨btp0, bkk0, bvv0, bn0, e20, e21, e22, e23, ttp0, tkk0, tvv0, by (try dsimp only); omega, by (try dsimp only); omega, k24⟩⟩
  · obtain c_30 := b
    try dsimp only at hb ⊢
    obtain ⟨WXc_30, FXc_30⟩ := hb
    have e31 := (Zfr.gr FXc_30 t_a0 (by decide)).trans h0Zkt0
    have e32 := (Zfr.gr FXc_30 t_a0 (by decide)).trans h1Zkt0
    have e33 := (Zfr.gr FXc_30 t_a0 (by decide)).trans h2Zkt0
    have e34 := (Zfr.gi FXc_30 t_a0 (by decide)).trans h3Zkt0
    have k35 := TkR_fr k0Zkt0 FXc_30 tkk0 tvv0 (by decide) (by decide)
    have F36 := Zfr.tr F0 FXc_30 (by decide)
    have := li_1
    exact wz (rgi (by omega) (by omega)) ⟨WXc_30, F36, by (try dsimp only); omega, by (try dsimp only); omega, ⟨btp0, bkk0, bvv0, bn0, e31, e32, e33, e34, ttp0, tkk0, tvv0, by (try dsimp only); omega, by (try dsimp only); omega, k35⟩⟩

abbrev M_Tokens_wordKind : List (Nat × Nat) := []
set_option maxRecDepth 100000 in
set_option maxHeartbeats 400000 in
theorem p_Tokens_wordKind {nf : Nat} (hn : 8589934592 ≤ nf) {G : List Nat} {c : Zc} (W : Zwt zty G c) {a0 : Nat} {a1 : Int32} {a2 : Int32}  (t_a0 : G[a0]? = some 4) (pl_a1 : 0 ≤ a1.toInt) (pu_a1 : a1.toInt ≤ 1499) (pl_a2 : 1 ≤ a2.toInt) (pu_a2 : a2.toInt ≤ 1500) (pp_2 : a1.toInt < a2.toInt) (hb_Zkt : Zkt G c a0) : ∃ q, f_Tokens_wordKind nf a0 a1 a2 c = some q ∧ Zwt zty G q.2 ∧ Zfr G M_Tokens_wordKind c q.2 ∧ 0 ≤ q.1.toInt ∧ q.1.toInt ≤ 76 ∧ (q.1.toInt = 0 ∨ 10 ≤ q.1.toInt) ∧ Zkt G q.2 a0 := by
  have F0 : Zfr G M_Tokens_wordKind c c := Zfr.rf
  unfold f_Tokens_wordKind
  obtain ⟨btp0, bkk0, bvv0, bn0, h0Zkt0, h1Zkt0, h2Zkt0, h3Zkt0, ttp0, tkk0, tvv0, r0Zkt0, r1Zkt0, k0Zkt0⟩ := hb_Zkt
  unfold f_Tokens_wordKind_9
  have := li_10
  have := li_0
  have L1 : ∃ b, zlp (fun a : Nat × Int32 × Int32 × Int32 × Int32 × Int32 × Zc => g_Tokens_wordKind_9 nf a.1 a.2.1 a.2.2.1 a.2.2.2.1 a.2.2.2.2.1 a.2.2.2.2.2.1 a.2.2.2.2.2.2) nf (a0, a1, a2, 10, 0, 0, c) = some b ∧ (fun b : ((Int32 × Zc) ⊕ (Zc)) => (match b with | .inl b => Zwt zty G b.2 ∧ Zfr G ([] : List (Nat × Nat)) c b.2 ∧ 10 ≤ b.1.toInt ∧ b.1.toInt ≤ 76 ∧ Zkt G b.2 a0 | .inr b => Zwt zty G b ∧ Zfr G ([] : List (Nat × Nat)) c b ∧ Zkt G b a0)) b := by
    refine wlp (fun a : Nat × Int32 × Int32 × Int32 × Int32 × Int32 × Zc => a0 = a.1 ∧ a1 = a.2.1 ∧ a2 = a.2.2.1 ∧ Zwt zty G a.2.2.2.2.2.2 ∧ Zfr G ([] : List (Nat × Nat)) c a.2.2.2.2.2.2 ∧ 10 ≤ a.2.2.2.1.toInt ∧ a.2.2.2.1.toInt ≤ 76 ∧ 0 ≤ a.2.2.2.2.1.toInt ∧ a.2.2.2.2.1.toInt ≤ 66 ∧ 0 ≤ a.2.2.2.2.2.1.toInt ∧ a.2.2.2.2.2.1.toInt ≤ 66 ∧ a.2.2.2.1.toInt ≤ 10 + a.2.2.2.2.2.1.toInt ∧ Zkt G a.2.2.2.2.2.2 a0) (fun a => (66 - a.2.2.2.2.2.1.toInt).toNat) (fun b : ((Int32 × Zc) ⊕ (Zc)) => (match b with | .inl b => Zwt zty G b.2 ∧ Zfr G ([] : List (Nat × Nat)) c b.2 ∧ 10 ≤ b.1.toInt ∧ b.1.toInt ≤ 76 ∧ Zkt G b.2 a0 | .inr b => Zwt zty G b ∧ Zfr G ([] : List (Nat × Nat)) c b ∧ Zkt G b a0)) ?_ ?_ ?_
    · rintro ⟨x0_2, x1_2, x2_2, x3_2, x4_2, x5_2, c_2⟩ hI
      try dsimp only at hI ⊢
      obtain ⟨rfl, rfl, rfl, WLc_2, FLc_2, j3, j4, j5, j6, j7, j8, j9, hBZkt_2⟩ := hI
      have e10 := (Zfr.gr FLc_2 t_a0 (by decide)).trans h0Zkt0
      have e11 := (Zfr.gr FLc_2 t_a0 (by decide)).trans h1Zkt0
      have e12 := (Zfr.gr FLc_2 t_a0 (by decide)).trans h2Zkt0
      have e13 := (Zfr.gi FLc_2 t_a0 (by decide)).trans h3Zkt0
      obtain ⟨btp_2, bkk_2, bvv_2, bn_2, h0Zkt_2, h1Zkt_2, h2Zkt_2, h3Zkt_2, ttp_2, tkk_2, tvv_2, r0Zkt_2, r1Zkt_2, k0Zkt_2⟩ := hBZkt_2
      unfold g_Tokens_wordKind_9
      refine wb (show zst 2 = some () from rfl) ?_
      obtain ⟨q1, eq1, Wq1, fq1, pl0q1, pu0q1⟩ := p_String_length__2 hn WLc_2  
      refine wb eq1 ?_
      have e14 := (Zfr.gr fq1 t_a0 (by decide)).trans h0Zkt_2
      have e15 := (Zfr.gr fq1 t_a0 (by decide)).trans h1Zkt_2
      have e16 := (Zfr.gr fq1 t_a0 (by decide)).trans h2Zkt_2
      have e17 := (Zfr.gi fq1 t_a0 (by decide)).trans h3Zkt_2
      have k18 := TkR_fr k0Zkt_2 fq1 tkk_2 tvv_2 (by decide) (by decide)
      have F19 := Zfr.tr FLc_2 fq1 (by decide)
      refine wi (fun hq20 => ?_) (fun hq20 => ?_)
      · have hq20 := i_le hq20
        exact lInr ⟨Wq1, F19, ⟨btp_2, bkk_2, bvv_2, bn_2, e14, e15, e16, e17, ttp_2, tkk_2, tvv_2, by (try dsimp only); omega, by (try dsimp only); omega, k18⟩⟩
      · have hq20 := i_nle hq20
        refine wb (show zst 2 = some () from rfl) ?_
        obtain ⟨q4, eq4, Wq4, fq4⟩ := p_String_charAt__2 hn Wq1 (a1 := x5_2) (by omega) (by omega)
        refine wb eq4 ?_
        have e25 := (Zfr.gr fq4 t_a0 (by decide)).trans e14
        have e26 := (Zfr.gr fq4 t_a0 (by decide)).trans e15
        have e27 := (Zfr.gr fq4 t_a0 (by decide)).trans e16
        have e28 := (Zfr.gi fq4 t_a0 (by decide)).trans e17
        have k29 := TkR_fr k18 fq4 tkk_2 tvv_2 (by decide) (by decide)
        have F30 := Zfr.tr F19 fq4 (by decide)
        refine wi (fun hq31 => ?_) (fun hq31 => ?_)
        · have := li_32
          have := i_ge q4.1
          have := i_up q4.1
          have hq31 := i_eq hq31
          refine wi (fun hq32 => ?_) (fun hq32 => ?_)
          · have := i_sub (a := x5_2) (b := x4_2) (by omega) (by omega)
            have := i_sub (a := a2) (b := a1) (by omega) (by omega)
            have hq32 := i_eq hq32
            obtain ⟨w9, ew9⟩ := go_4 Wq4 t_a0
            refine wb ew9 ?_
            obtain ⟨q8, eq8, Wq8, fq8, pl0q8, pu0q8, pbZktq8⟩ := p_Tokens_isSame hn Wq4 (a1 := a1) (a2 := a2) (a3 := x4_2) t_a0 (by omega) (by omega) (by omega) (by omega) (by omega) (by omega) (by omega) (by omega) ⟨btp_2, bkk_2, bvv_2, bn_2, e25, e26, e27, e28, ttp_2, tkk_2, tvv_2, by (try dsimp only); omega, by (try dsimp only); omega, k29⟩
            refine wb eq8 ?_
            have e37 := (Zfr.gr fq8 t_a0 (by decide)).trans e25
            have e38 := (Zfr.gr fq8 t_a0 (by decide)).trans e26
            have e39 := (Zfr.gr fq8 t_a0 (by decide)).trans e27
            have e40 := (Zfr.gi fq8 t_a0 (by decide)).trans e28
            have k41 := TkR_fr k29 fq8 tkk_2 tvv_2 (by decide) (by decide)
            have F42 := Zfr.tr F30 fq8 (by decide)
            obtain ⟨btpq8, bkkq8, bvvq8, bnq8, h0Zktq8, h1Zktq8, h2Zktq8, h3Zktq8, ttpq8, tkkq8, tvvq8, r0Zktq8, r1Zktq8, k0Zktq8⟩ := pbZktq8
            refine wi (fun hq43 => ?_) (fun hq43 => ?_)
            · have hq43 := i_eq hq43
              unfold f_Tokens_wordKind_55
              unfold f_Tokens_wordKind_64
              have := li_1
              have := i_add (a := x3_2) (b := 1) (by omega) (by omega)
              have := i_add (a := x5_2) (b := 1) (by omega) (by omega)
              exact lInl ⟨rfl, rfl, rfl, Wq8, F42, by (try dsimp only); omega, by (try dsimp only); omega, by (try dsimp only); omega, by (try dsimp only); omega, by (try dsimp only); omega, by (try dsimp only); omega, by (try dsimp only); omega, ⟨btpq8, bkkq8, bvvq8, bnq8, h0Zktq8, h1Zktq8, h2Zktq8, h3Zktq8, ttpq8, tkkq8, tvvq8, by (try dsimp only); omega, by (try dsimp only); omega, k0Zktq8⟩⟩ (by (try dsimp only); omega)
            · have hq43 := i_ne hq43
              exact lInr ⟨Wq8, F42, by (try dsimp only); omega, by (try dsimp only); omega, ⟨btpq8, bkkq8, bvvq8, bnq8, h0Zktq8, h1Zktq8, h2Zktq8, h3Zktq8, ttpq8, tkkq8, tvvq8, by (try dsimp only); omega, by (try dsimp only); omega, k0Zktq8⟩⟩
          · have := i_sub (a := x5_2) (b := x4_2) (by omega) (by omega)
            have := i_sub (a := a2) (b := a1) (by omega) (by omega)
            have hq32 := i_ne hq32
            unfold f_Tokens_wordKind_55
            unfold f_Tokens_wordKind_64
            have := li_1
            have := i_add (a := x3_2) (b := 1) (by omega) (by omega)
            have := i_add (a := x5_2) (b := 1) (by omega) (by omega)
            exact lInl ⟨rfl, rfl, rfl, Wq4, F30, by (try dsimp only); omega, by (try dsimp only); omega, by (try dsimp only); omega, by (try dsimp only); omega, by (try dsimp only); omega, by (try dsimp only); omega, by (try dsimp only); omega, ⟨btp_2, bkk_2, bvv_2, bn_2, e25, e26, e27, e28, ttp_2, tkk_2, tvv_2, by (try dsimp only); omega, by (try dsimp only); omega, k29⟩⟩ (by (try dsimp only); omega)
        · have := li_32
          have := i_ge q4.1
          have := i_up q4.1
          have hq31 := i_ne hq31
          unfold f_Tokens_wordKind_64
          have := li_1
          have := i_add (a := x5_2) (b := 1) (by omega) (by omega)
          exact lInl ⟨rfl, rfl, rfl, Wq4, F30, by (try dsimp only); omega, by (try dsimp only); omega, by (try dsimp only); omega, by (try dsimp only); omega, by (try dsimp only); omega, by (try dsimp only); omega, by (try dsimp only); omega, ⟨btp_2, bkk_2, bvv_2, bn_2, e25, e26, e27, e28, ttp_2, tkk_2, tvv_2, by (try dsimp only); omega, by (try dsimp only); omega, k29⟩⟩ (by (try dsimp only); omega)
    · exact ⟨rfl, rfl, rfl, W, Zfr.rf, by (try dsimp only); omega, by (try dsimp only); omega, by (try dsimp only); omega, by (try dsimp only); omega, by (try dsimp only); omega, by (try dsimp only); omega, by (try dsimp only); omega, ⟨btp0, bkk0, bvv0, bn0, h0Zkt0, h1Zkt0, h2Zkt0, h3Zkt0, ttp0, tkk0, tvv0, by (try dsimp only); omega, by (try dsimp only); omega, k0Zkt0⟩⟩
    · (try dsimp only); omega
  obtain ⟨b, eb, hb⟩ := L1
  refine wb eb ?_
  clear eb
  rcases b with b | b
  · obtain ⟨z0_64, c_64⟩ := b
    try dsimp only at hb ⊢
    obtain ⟨WXc_64, FXc_64, j65, j66, hXZktc_64⟩ := hb
    have e67 := (Zfr.gr FXc_64 t_a0 (by decide)).trans h0Zkt0
    have e68 := (Zfr.gr FXc_64 t_a0 (by decide)).trans h1Zkt0
    have e69 := (Zfr.gr FXc_64 t_a0 (by decide)).trans h2Zkt0
    have e70 := (Zfr.gi FXc_64 t_a0 (by decide)).trans h3Zkt0
    have k71 := TkR_fr k0Zkt0 FXc_64 tkk0 tvv0 (by decide) (by decide)
    have F72 := Zfr.tr F0 FXc_64 (by decide)
    obtain ⟨btpxc_64, bkkxc_64, bvvxc_64, bnxc_64, h0Zktxc_64, h1Zktxc_64, h2Zktxc_64, h3Zktxc_64, ttpxc_64, tkkxc_64, tvvxc_64, r0Zktxc_64, r1Zktxc_64, k0Zktxc_64⟩ := hXZktc_64
    exact ⟨_, rfl, WXc_64, F72, by (try dsimp only); omega, by (try dsimp only); omega, by (try dsimp only); omega, ⟨btpxc_64, bkkxc_64, bvvxc_64, bnxc_64, h0Zktxc_64, h1Zktxc_64, h2Zktxc_64, h3Zktxc_64, ttpxc_64, tkkxc_64, tvvxc_64, by (try dsimp only); omega, by (try dsimp only); omega, k0Zktxc_64⟩⟩
  · obtain c_77 := b
    try dsimp only at hb ⊢
    obtain ⟨WXc_77, FXc_77, hXZktc_77⟩ := hb
    have e78 := (Zfr.gr FXc_77 t_a0 (by decide)).trans h0Zkt0
    have e79 := (Zfr.gr FXc_77 t_a0 (by decide)).trans h1Zkt0
    have e80 := (Zfr.gr FXc_77 t_a0 (by decide)).trans h2Zkt0
    have e81 := (Zfr.gi FXc_77 t_a0 (by decide)).trans h3Zkt0
    have k82 := TkR_fr k0Zkt0 FXc_77 tkk0 tvv0 (by decide) (by decide)
    have F83 := Zfr.tr F0 FXc_77 (by decide)
    obtain ⟨btpxc_77, bkkxc_77, bvvxc_77, bnxc_77, h0Zktxc_77, h1Zktxc_77, h2Zktxc_77, h3Zktxc_77, ttpxc_77, tkkxc_77, tvvxc_77, r0Zktxc_77, r1Zktxc_77, k0Zktxc_77⟩ := hXZktc_77
    exact ⟨_, rfl, WXc_77, F83, by (try dsimp only); omega, by (try dsimp only); omega, by (try dsimp only); omega, ⟨btpxc_77, bkkxc_77, bvvxc_77, bnxc_77, h0Zktxc_77, h1Zktxc_77, h2Zktxc_77, h3Zktxc_77, ttpxc_77, tkkxc_77, tvvxc_77, by (try dsimp only); omega, by (try dsimp only); omega, k0Zktxc_77⟩⟩

end ZzT
