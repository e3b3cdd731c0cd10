section ZzT
abbrev M_Graph_reached : List (Nat × Nat) := []
set_option maxRecDepth 100000 in
set_option maxHeartbeats 400000 in
theorem p_Graph_reached {nf : Nat} (hn : 8589934592 ≤ nf) {G : List Nat} {c : Zc} (W : Zwt zty G c) {a0 : Nat} {a1 : Int32} {a2 : Int32}  (t_a0 : G[a0]? = some 1) (pl_a1 : 0 ≤ a1.toInt) (pu_a1 : a1.toInt ≤ 12) (pl_a2 : 0 ≤ a2.toInt) (pu_a2 : a2.toInt ≤ 15) : ∃ q, f_Graph_reached nf a0 a1 a2 c = some q ∧ Zwt zty G q.2 ∧ Zfr G M_Graph_reached c q.2 := by
  have F0 : Zfr G M_Graph_reached c c := Zfr.rf
  unfold f_Graph_reached
  obtain ⟨v1, ev1, tv1⟩ := gf_1_6 W t_a0
  refine wb ev1 ?_
  have := li_2
  have := i_mull (a := 2) (b := a1) (n := 2) li_2 (by omega) (by omega)
  have := li_16
  have := i_mulr (a := (2 * a1)) (b := 16) (n := 16) li_16 (by omega) (by omega)
  have := i_add (a := ((2 * a1) * 16)) (b := a2) (by omega) (by omega)
  obtain ⟨v2, ev2, _⟩ := ga_21 W tv1 (i := (((2 * a1) * 16) + a2)) (by omega) (by omega)
  refine wb ev2 ?_
  exact ⟨_, rfl, W, F0⟩

abbrev M_Way_open : List (Nat × Nat) := [(2, 2), (2, 3), (2, 4), (2, 5), (2, 9), (2, 10), (2, 17), (24, 0), (25, 0)]
set_option maxRecDepth 100000 in
set_option maxHeartbeats 400000 in
theorem p_Way_open {nf : Nat} (hn : 8589934592 ≤ nf) {G : List Nat} {c : Zc} (W : Zwt zty G c) {a0 : Nat} {a1 : Int32}  (t_a0 : G[a0]? = some 2) (pl_a1 : 0 ≤ a1.toInt) (pu_a1 : a1.toInt ≤ 1) : ∃ q, f_Way_open nf a0 a1 c = some q ∧ Zwt zty G q ∧ Zfr G M_Way_open c q := by
  have F0 : Zfr G M_Way_open c c := Zfr.rf
  unfold f_Way_open
  obtain ⟨c1, ec1, Wc1, fc1, gc1⟩ := pz_2_3 W t_a0 (x := a1) (rgi (by omega) (by omega))
  refine wb ec1 ?_
  have F1 := Zfr.tr F0 fc1 (by decide)
  have := li_0
  obtain ⟨c2, ec2, Wc2, fc2, gc2⟩ := pf_2_4 Wc1 t_a0 (x := 0) (rgi (by omega) (by omega))
  refine wb ec2 ?_
  have F2 := Zfr.tr F1 fc2 (by decide)
  obtain ⟨c3, ec3, Wc3, fc3, gc3⟩ := pf_2_2 Wc2 t_a0 (x := (-1)) (trivial)
  refine wb ec3 ?_
  have F3 := Zfr.tr F2 fc3 (by decide)
  obtain ⟨c4, ec4, Wc4, fc4, gc4⟩ := pf_2_5 Wc3 t_a0 (x := 0) (rgi (by omega) (by omega))
  refine wb ec4 ?_
  have F4 := Zfr.tr F3 fc4 (by decide)
  obtain ⟨c5, ec5, Wc5, fc5, gc5⟩ := pf_2_9 Wc4 t_a0 (x := 0) (rgi (by omega) (by omega))
  refine wb ec5 ?_
  have F5 := Zfr.tr F4 fc5 (by decide)
  obtain ⟨c6, ec6, Wc6, fc6, gc6⟩ := pf_2_10 Wc5 t_a0 (-1)
  refine wb ec6 ?_
  have F6 := Zfr.tr F5 fc6 (by decide)
  obtain ⟨v7, ev7, tv7⟩ := gf_2_11 Wc6 t_a0
  refine wb ev7 ?_
  obtain ⟨c8, ec8, Wc8, fc8, gc8⟩ := pa_24 Wc6 tv7 (i := 0) (by omega) (by omega) (-1)
  refine wb ec8 ?_
  have F7 := Zfr.tr F6 fc8 (by decide)
  obtain ⟨v9, ev9, tv9⟩ := gf_2_12 Wc8 t_a0
  refine wb ev9 ?_
  obtain ⟨c10, ec10, Wc10, fc10, gc10⟩ := pa_25 Wc8 tv9 (i := 0) (by omega) (by omega) (-1)
  refine wb ec10 ?_
  have F8 := Zfr.tr F7 fc10 (by decide)
  obtain ⟨c11, ec11, Wc11, fc11, gc11⟩ := pf_2_17 Wc10 t_a0 (x := (-1)) (trivial)
  refine wb ec11 ?_
  have F9 := Zfr.tr F8 fc11 (by decide)
  exact ⟨_, rfl, Wc11, F9⟩

abbrev M_Way_join : List (Nat × Nat) := [(2, 0), (2, 1)]
set_option maxRecDepth 100000 in
set_option maxHeartbeats 400000 in
theorem p_Way_join {nf : Nat} (hn : 8589934592 ≤ nf) {G : List Nat} {c : Zc} (W : Zwt zty G c) {a0 : Nat} {a1 : Int32} {a2 : Int32}  (t_a0 : G[a0]? = some 2) (pl_a1 : 0 ≤ a1.toInt) (pu_a1 : a1.toInt ≤ 7) (pl_a2 : 0 ≤ a2.toInt) (pu_a2 : a2.toInt ≤ 7) : ∃ q, f_Way_join nf a0 a1 a2 c = some q ∧ Zwt zty G q ∧ Zfr G M_Way_join c q := by
  have F0 : Zfr G M_Way_join c c := Zfr.rf
  unfold f_Way_join
  obtain ⟨v1, ev1, lv1, uv1⟩ := gf_2_3 W t_a0
  refine wb ev1 ?_
  refine wi (fun hq1 => ?_) (fun hq1 => ?_)
  · have := li_0
    have hq1 := i_eq hq1
    unfold f_Way_join_13
    obtain ⟨c3, ec3, Wc3, fc3, gc3⟩ := pf_2_0 W t_a0 (x := a1) (rgi (by omega) (by omega))
    refine wb ec3 ?_
    have e2 := (Zfr.gi fc3 t_a0 (by decide)).trans ev1
    have F3 := Zfr.tr F0 fc3 (by decide)
    refine wb e2 ?_
    refine wi (fun hq4 => ?_) (fun hq4 => ?_)
    · have hq4 := i_eq hq4
      unfold f_Way_join_29
      obtain ⟨c6, ec6, Wc6, fc6, gc6⟩ := pf_2_1 Wc3 t_a0 (x := a2) (rgi (by omega) (by omega))
      refine wb ec6 ?_
      have F5 := Zfr.tr F3 fc6 (by decide)
      exact ⟨_, rfl, Wc6, F5⟩
    · have hq4 := i_ne hq4
      exfalso
      omega
  · have := li_0
    have hq1 := i_ne hq1
    unfold f_Way_join_13
    obtain ⟨c3, ec3, Wc3, fc3, gc3⟩ := pf_2_0 W t_a0 (x := a2) (rgi (by omega) (by omega))
    refine wb ec3 ?_
    have e6 := (Zfr.gi fc3 t_a0 (by decide)).trans ev1
    have F7 := Zfr.tr F0 fc3 (by decide)
    refine wb e6 ?_
    refine wi (fun hq8 => ?_) (fun hq8 => ?_)
    · have hq8 := i_eq hq8
      exfalso
      omega
    · have hq8 := i_ne hq8
      unfold f_Way_join_29
      obtain ⟨c6, ec6, Wc6, fc6, gc6⟩ := pf_2_1 Wc3 t_a0 (x := a1) (rgi (by omega) (by omega))
      refine wb ec6 ?_
      have F9 := Zfr.tr F7 fc6 (by decide)
      exact ⟨_, rfl, Wc6, F9⟩

abbrev M_Way_lead : List (Nat × Nat) := [(23, 0)]
set_option maxRecDepth 100000 in
set_option maxHeartbeats 400000 in
theorem p_Way_lead {nf : Nat} (hn : 8589934592 ≤ nf) {G : List Nat} {c : Zc} (W : Zwt zty G c) {a0 : Nat} {a1 : Int64} {a3 : Int64}  (t_a0 : G[a0]? = some 2) : ∃ q, f_Way_lead nf a0 a1 a3 c = some q ∧ Zwt zty G q ∧ Zfr G M_Way_lead c q := by
  have F0 : Zfr G M_Way_lead c c := Zfr.rf
  unfold f_Way_lead
  unfold f_Way_lead_3
  have := li_0
  have L1 : ∃ b, zlp (fun a : Nat × Int64 × Int64 × Int32 × Zc => g_Way_lead_3 nf a.1 a.2.1 a.2.2.1 a.2.2.2.1 a.2.2.2.2) nf (a0, a1, a3, 0, c) = some b ∧ (fun b : (Zc) => Zwt zty G b ∧ Zfr G ([(23, 0)] : List (Nat × Nat)) c b) b := by
    refine wlp (fun a : Nat × Int64 × Int64 × Int32 × Zc => a0 = a.1 ∧ a1 = a.2.1 ∧ a3 = a.2.2.1 ∧ Zwt zty G a.2.2.2.2 ∧ Zfr G ([(23, 0)] : List (Nat × Nat)) c a.2.2.2.2 ∧ 0 ≤ a.2.2.2.1.toInt ∧ a.2.2.2.1.toInt ≤ 16) (fun a => (16 - a.2.2.2.1.toInt).toNat) (fun b : (Zc) => Zwt zty G b ∧ Zfr G ([(23, 0)] : List (Nat × Nat)) c b) ?_ ?_ ?_
    · rintro ⟨x0_2, x1_2, x3_2, x5_2, c_2⟩ hI
      try dsimp only at hI ⊢
      obtain ⟨rfl, rfl, rfl, WLc_2, FLc_2, j3, j4⟩ := hI
      unfold g_Way_lead_3
      obtain ⟨v1, ev1, lv1, uv1⟩ := gf_2_5 WLc_2 t_a0
      refine wb ev1 ?_
      refine wi (fun hq5 => ?_) (fun hq5 => ?_)
      · have hq5 := i_le hq5
        exact lInr ⟨WLc_2, FLc_2⟩
      · have hq5 := i_nle hq5
        refine wi (fun hq6 => ?_) (fun hq6 => ?_)
        · have hq6 := i_eq hq6
          unfold f_Way_lead_42
          have := li_1
          have := i_add (a := x5_2) (b := 1) (by omega) (by omega)
          exact lInl ⟨rfl, rfl, rfl, WLc_2, FLc_2, by (try dsimp only); omega, by (try dsimp only); omega⟩ (by (try dsimp only); omega)
        · have hq6 := i_ne hq6
          obtain ⟨v4, ev4, tv4⟩ := gf_2_7 WLc_2 t_a0
          refine wb ev4 ?_
          obtain ⟨v5, ev5, _⟩ := ga_23 WLc_2 tv4 (i := x5_2) (by omega) (by omega)
          refine wb ev5 ?_
          obtain ⟨c6, ec6, Wc6, fc6, gc6⟩ := pa_23 WLc_2 tv4 (i := x5_2) (by omega) (by omega) (x := (v5 ||| (Int64.toInt32 (a3 &&& 65535)))) (trivial)
          refine wb ec6 ?_
          have F7 := Zfr.tr FLc_2 fc6 (by decide)
          unfold f_Way_lead_42
          have := li_1
          have := i_add (a := x5_2) (b := 1) (by omega) (by omega)
          exact lInl ⟨rfl, rfl, rfl, Wc6, F7, by (try dsimp only); omega, by (try dsimp only); omega⟩ (by (try dsimp only); omega)
    · exact ⟨rfl, rfl, rfl, W, Zfr.rf, by (try dsimp only); omega, by (try dsimp only); omega⟩
    · (try dsimp only); omega
  obtain ⟨b, eb, hb⟩ := L1
  refine wb eb ?_
  clear eb
  obtain c_8 := b
  try dsimp only at hb ⊢
  obtain ⟨WXc_8, FXc_8⟩ := hb
  have F9 := Zfr.tr F0 FXc_8 (by decide)
  exact ⟨_, rfl, WXc_8, F9⟩

abbrev M_Way_settlePending : List (Nat × Nat) := [(2, 10), (23, 0), (25, 0)]
set_option maxRecDepth 100000 in
set_option maxHeartbeats 400000 in
theorem p_Way_settlePending {nf : Nat} (hn : 8589934592 ≤ nf) {G : List Nat} {c : Zc} (W : Zwt zty G c) {a0 : Nat}  (t_a0 : G[a0]? = some 2) : ∃ q, f_Way_settlePending nf a0 c = some q ∧ Zwt zty G q ∧ Zfr G M_Way_settlePending c q := by
  have F0 : Zfr G M_Way_settlePending c c := Zfr.rf
  unfold f_Way_settlePending
  obtain ⟨v1, ev1, tv1⟩ := gf_2_12 W t_a0
  refine wb ev1 ?_
  obtain ⟨v2, ev2, lv2, uv2⟩ := gf_2_9 W t_a0
  refine wb ev2 ?_
  obtain ⟨v3, ev3⟩ := ga_25 W tv1 (i := v2) (by omega) (by omega)
  refine wb ev3 ?_
  obtain ⟨v4, ev4⟩ := gf_2_10 W t_a0
  refine wb ev4 ?_
  refine wi (fun hq1 => ?_) (fun hq1 => ?_)
  · have := li_0
    have hq1 := i_eq hq1
    exact ⟨_, rfl, W, F0⟩
  · have := li_0
    have hq1 := i_ne hq1
    refine wi (fun hq2 => ?_) (fun hq2 => ?_)
    · have hq2 := i_eq hq2
      refine wb ev1 ?_
      refine wb ev2 ?_
      refine wb ev4 ?_
      obtain ⟨c23, ec23, Wc23, fc23, gc23⟩ := pa_25 W tv1 (i := v2) (by omega) (by omega) v4
      refine wb ec23 ?_
      have F3 := Zfr.tr F0 fc23 (by decide)
      unfold f_Way_settlePending_148
      obtain ⟨c18, ec18, Wc18, fc18, gc18⟩ := pf_2_10 Wc23 t_a0 (-1)
      refine wb ec18 ?_
      have F4 := Zfr.tr F3 fc18 (by decide)
      exact ⟨_, rfl, Wc18, F4⟩
    · have hq2 := i_ne hq2
      refine wb ev4 ?_
      obtain ⟨w9, ew9⟩ := go_2 W t_a0
      refine wb ew9 ?_
      obtain ⟨q8, eq8, Wq8, fq8⟩ := p_Way_lead hn W (a1 := v3) (a3 := v4) t_a0
      refine wb eq8 ?_
      have e5 := (Zfr.gr fq8 t_a0 (by decide)).trans ev1
      have e6 := (Zfr.gi fq8 t_a0 (by decide)).trans ev2
      have e7 := (Zfr.gl fq8 t_a0 (by decide)).trans ev4
      have F8 := Zfr.tr F0 fq8 (by decide)
      refine wb e7 ?_
      refine wi (fun hq9 => ?_) (fun hq9 => ?_)
      · have hq9 := i_eq hq9
        unfold f_Way_settlePending_95
        refine wb e7 ?_
        refine wi (fun hq10 => ?_) (fun hq10 => ?_)
        · have hq10 := i_eq hq10
          unfold f_Way_settlePending_121
          refine wb e5 ?_
          refine wb e6 ?_
          refine wb e7 ?_
          obtain ⟨c17, ec17, Wc17, fc17, gc17⟩ := pa_25 Wq8 tv1 (i := v2) (by omega) (by omega) (((v3 &&& 65535) ||| (((v4 >>> (Int32.toInt64 16 &&& 63)) &&& 65535) <<< (Int32.toInt64 16 &&& 63))) ||| ((v3 &&& v4) &&& 4294967296))
          refine wb ec17 ?_
          have F11 := Zfr.tr F8 fc17 (by decide)
          unfold f_Way_settlePending_148
          obtain ⟨c18, ec18, Wc18, fc18, gc18⟩ := pf_2_10 Wc17 t_a0 (-1)
          refine wb ec18 ?_
          have F12 := Zfr.tr F11 fc18 (by decide)
          exact ⟨_, rfl, Wc18, F12⟩
        · have hq10 := i_ne hq10
          unfold f_Way_settlePending_121
          refine wb e5 ?_
          refine wb e6 ?_
          refine wb e7 ?_
          obtain ⟨c17, ec17, Wc17, fc17, gc17⟩ := pa_25 Wq8 tv1 (i := v2) (by omega) (by omega) (((v3 &&& 65535) ||| ((((v4 >>> (Int32.toInt64 16 &&& 63)) &&& 65535) ||| ((v3 >>> (Int32.toInt64 16 &&& 63)) &&& 65535)) <<< (Int32.toInt64 16 &&& 63))) ||| ((v3 &&& v4) &&& 4294967296))
          refine wb ec17 ?_
          have F13 := Zfr.tr F8 fc17 (by decide)
          unfold f_Way_settlePending_148
          obtain ⟨c18, ec18, Wc18, fc18, gc18⟩ := pf_2_10 Wc17 t_a0 (-1)
          refine wb ec18 ?_
          have F14 := Zfr.tr F13 fc18 (by decide)
          exact ⟨_, rfl, Wc18, F14⟩
      · have hq9 := i_ne hq9
        refine wb e7 ?_
        unfold f_Way_settlePending_95
        refine wb e7 ?_
        refine wi (fun hq15 => ?_) (fun hq15 => ?_)
        · have hq15 := i_eq hq15
          unfold f_Way_settlePending_121
          refine wb e5 ?_
          refine wb e6 ?_
          refine wb e7 ?_
          obtain ⟨c17, ec17, Wc17, fc17, gc17⟩ := pa_25 Wq8 tv1 (i := v2) (by omega) (by omega) ((((v3 &&& 65535) ||| (v4 &&& 65535)) ||| (((v4 >>> (Int32.toInt64 16 &&& 63)) &&& 65535) <<< (Int32.toInt64 16 &&& 63))) ||| ((v3 &&& v4) &&& 4294967296))
          refine wb ec17 ?_
          have F16 := Zfr.tr F8 fc17 (by decide)
          unfold f_Way_settlePending_148
          obtain ⟨c18, ec18, Wc18, fc18, gc18⟩ := pf_2_10 Wc17 t_a0 (-1)
          refine wb ec18 ?_
          have F17 := Zfr.tr F16 fc18 (by decide)
          exact ⟨_, rfl, Wc18, F17⟩
        · have hq15 := i_ne hq15
          unfold f_Way_settlePending_121
          refine wb e5 ?_
          refine wb e6 ?_
          refine wb e7 ?_
          obtain ⟨c17, ec17, Wc17, fc17, gc17⟩ := pa_25 Wq8 tv1 (i := v2) (by omega) (by omega) ((((v3 &&& 65535) ||| (v4 &&& 65535)) ||| ((((v4 >>> (Int32.toInt64 16 &&& 63)) &&& 65535) ||| ((v3 >>> (Int32.toInt64 16 &&& 63)) &&& 65535)) <<< (Int32.toInt64 16 &&& 63))) ||| ((v3 &&& v4) &&& 4294967296))
          refine wb ec17 ?_
          have F18 := Zfr.tr F8 fc17 (by decide)
          unfold f_Way_settlePending_148
          obtain ⟨c18, ec18, Wc18, fc18, gc18⟩ := pf_2_10 Wc17 t_a0 (-1)
          refine wb ec18 ?_
          have F19 := Zfr.tr F18 fc18 (by decide)
          exact ⟨_, rfl, Wc18, F19⟩

abbrev M_Way_openRows : List (Nat × Nat) := [(2, 9), (2, 10), (23, 0), (24, 0), (25, 0)]
set_option maxRecDepth 100000 in
set_option maxHeartbeats 400000 in
theorem p_Way_openRows {nf : Nat} (hn : 8589934592 ≤ nf) {G : List Nat} {c : Zc} (W : Zwt zty G c) {a0 : Nat}  (t_a0 : G[a0]? = some 2) : ∃ q, f_Way_openRows nf a0 c = some q ∧ Zwt zty G q ∧ Zfr G M_Way_openRows c q := by
  have F0 : Zfr G M_Way_openRows c c := Zfr.rf
  unfold f_Way_openRows
  obtain ⟨w2, ew2⟩ := go_2 W t_a0
  refine wb ew2 ?_
  obtain ⟨q1, eq1, Wq1, fq1⟩ := p_Way_settlePending hn W  t_a0
  refine wb eq1 ?_
  have F1 := Zfr.tr F0 fq1 (by decide)
  obtain ⟨v3, ev3, lv3, uv3⟩ := gf_2_9 Wq1 t_a0
  refine wb ev3 ?_
  obtain ⟨v4, ev4, tv4⟩ := gf_2_12 Wq1 t_a0
  refine wb ev4 ?_
  refine wb (gl_25 Wq1 tv4) ?_
  refine wi (fun hq2 => ?_) (fun hq2 => ?_)
  · have := li_12
    have := li_1
    have := i_add (a := v3) (b := 1) (by omega) (by omega)
    have hq2 := i_le hq2
    unfold f_Way_openRows_52
    exact ⟨_, rfl, Wq1, F1⟩
  · have := li_12
    have := li_1
    have := i_add (a := v3) (b := 1) (by omega) (by omega)
    have hq2 := i_nle hq2
    refine wb ev3 ?_
    obtain ⟨c8, ec8, Wc8, fc8, gc8⟩ := pf_2_9 Wq1 t_a0 (x := (v3 + 1)) (rgi (by omega) (by omega))
    refine wb ec8 ?_
    have e3 := (Zfr.gr fc8 t_a0 (by decide)).trans ev4
    have F4 := Zfr.tr F1 fc8 (by decide)
    obtain ⟨v9, ev9, tv9⟩ := gf_2_11 Wc8 t_a0
    refine wb ev9 ?_
    refine wb gc8 ?_
    obtain ⟨c11, ec11, Wc11, fc11, gc11⟩ := pa_24 Wc8 tv9 (i := (v3 + 1)) (by omega) (by omega) (-1)
    refine wb ec11 ?_
    have e5 := (Zfr.gr fc11 t_a0 (by decide)).trans e3
    have e6 := (Zfr.gi fc11 t_a0 (by decide)).trans gc8
    have F7 := Zfr.tr F4 fc11 (by decide)
    refine wb e5 ?_
    refine wb e6 ?_
    obtain ⟨c14, ec14, Wc14, fc14, gc14⟩ := pa_25 Wc11 tv4 (i := (v3 + 1)) (by omega) (by omega) (-1)
    refine wb ec14 ?_
    have F8 := Zfr.tr F7 fc14 (by decide)
    unfold f_Way_openRows_52
    exact ⟨_, rfl, Wc14, F8⟩

abbrev M_Way_nextRow : List (Nat × Nat) := [(2, 10), (23, 0), (24, 0), (25, 0)]
set_option maxRecDepth 100000 in
set_option maxHeartbeats 400000 in
theorem p_Way_nextRow {nf : Nat} (hn : 8589934592 ≤ nf) {G : List Nat} {c : Zc} (W : Zwt zty G c) {a0 : Nat}  (t_a0 : G[a0]? = some 2) : ∃ q, f_Way_nextRow nf a0 c = some q ∧ Zwt zty G q ∧ Zfr G M_Way_nextRow c q := by
  have F0 : Zfr G M_Way_nextRow c c := Zfr.rf
  unfold f_Way_nextRow
  obtain ⟨w2, ew2⟩ := go_2 W t_a0
  refine wb ew2 ?_
  obtain ⟨q1, eq1, Wq1, fq1⟩ := p_Way_settlePending hn W  t_a0
  refine wb eq1 ?_
  have F1 := Zfr.tr F0 fq1 (by decide)
  obtain ⟨v3, ev3, tv3⟩ := gf_2_11 Wq1 t_a0
  refine wb ev3 ?_
  obtain ⟨v4, ev4, lv4, uv4⟩ := gf_2_9 Wq1 t_a0
  refine wb ev4 ?_
  obtain ⟨v5, ev5⟩ := ga_24 Wq1 tv3 (i := v4) (by omega) (by omega)
  refine wb ev5 ?_
  refine wb ev3 ?_
  refine wb ev4 ?_
  refine wi (fun hq2 => ?_) (fun hq2 => ?_)
  · have := li_0
    have hq2 := i_eq hq2
    obtain ⟨v16, ev16, tv16⟩ := gf_2_12 Wq1 t_a0
    refine wb ev16 ?_
    refine wb ev4 ?_
    obtain ⟨v18, ev18⟩ := ga_25 Wq1 tv16 (i := v4) (by omega) (by omega)
    refine wb ev18 ?_
    unfold f_Way_nextRow_53
    obtain ⟨c12, ec12, Wc12, fc12, gc12⟩ := pa_24 Wq1 tv3 (i := v4) (by omega) (by omega) v18
    refine wb ec12 ?_
    have e3 := (Zfr.gi fc12 t_a0 (by decide)).trans ev4
    have e4 := (Zfr.gr fc12 t_a0 (by decide)).trans ev16
    have F5 := Zfr.tr F1 fc12 (by decide)
    refine wb e4 ?_
    refine wb e3 ?_
    obtain ⟨c15, ec15, Wc15, fc15, gc15⟩ := pa_25 Wc12 tv16 (i := v4) (by omega) (by omega) (-1)
    refine wb ec15 ?_
    have F6 := Zfr.tr F5 fc15 (by decide)
    exact ⟨_, rfl, Wc15, F6⟩
  · have := li_0
    have hq2 := i_ne hq2
    obtain ⟨v9, ev9, tv9⟩ := gf_2_12 Wq1 t_a0
    refine wb ev9 ?_
    refine wb ev4 ?_
    obtain ⟨v11, ev11⟩ := ga_25 Wq1 tv9 (i := v4) (by omega) (by omega)
    refine wb ev11 ?_
    unfold f_Way_nextRow_53
    obtain ⟨c12, ec12, Wc12, fc12, gc12⟩ := pa_24 Wq1 tv3 (i := v4) (by omega) (by omega) (v5 ||| v11)
    refine wb ec12 ?_
    have e7 := (Zfr.gi fc12 t_a0 (by decide)).trans ev4
    have e8 := (Zfr.gr fc12 t_a0 (by decide)).trans ev9
    have F9 := Zfr.tr F1 fc12 (by decide)
    refine wb e8 ?_
    refine wb e7 ?_
    obtain ⟨c15, ec15, Wc15, fc15, gc15⟩ := pa_25 Wc12 tv9 (i := v4) (by omega) (by omega) (-1)
    refine wb ec15 ?_
    have F10 := Zfr.tr F9 fc15 (by decide)
    exact ⟨_, rfl, Wc15, F10⟩

abbrev M_Way_closeRows : List (Nat × Nat) := [(2, 9), (2, 10), (23, 0), (24, 0), (25, 0)]
set_option maxRecDepth 100000 in
set_option maxHeartbeats 400000 in
theorem p_Way_closeRows {nf : Nat} (hn : 8589934592 ≤ nf) {G : List Nat} {c : Zc} (W : Zwt zty G c) {a0 : Nat}  (t_a0 : G[a0]? = some 2) : ∃ q, f_Way_closeRows nf a0 c = some q ∧ Zwt zty G q ∧ Zfr G M_Way_closeRows c q := by
  have F0 : Zfr G M_Way_closeRows c c := Zfr.rf
  unfold f_Way_closeRows
  obtain ⟨w2, ew2⟩ := go_2 W t_a0
  refine wb ew2 ?_
  obtain ⟨q1, eq1, Wq1, fq1⟩ := p_Way_nextRow hn W  t_a0
  refine wb eq1 ?_
  have F1 := Zfr.tr F0 fq1 (by decide)
  obtain ⟨v3, ev3, tv3⟩ := gf_2_11 Wq1 t_a0
  refine wb ev3 ?_
  obtain ⟨v4, ev4, lv4, uv4⟩ := gf_2_9 Wq1 t_a0
  refine wb ev4 ?_
  obtain ⟨v5, ev5⟩ := ga_24 Wq1 tv3 (i := v4) (by omega) (by omega)
  refine wb ev5 ?_
  obtain ⟨c6, ec6, Wc6, fc6, gc6⟩ := pf_2_10 Wq1 t_a0 v5
  refine wb ec6 ?_
  have e2 := (Zfr.gi fc6 t_a0 (by decide)).trans ev4
  have F3 := Zfr.tr F1 fc6 (by decide)
  refine wb e2 ?_
  refine wi (fun hq4 => ?_) (fun hq4 => ?_)
  · have := li_0
    have hq4 := i_le hq4
    unfold f_Way_closeRows_34
    exact ⟨_, rfl, Wc6, F3⟩
  · have := li_0
    have hq4 := i_nle hq4
    refine wb e2 ?_
    have := li_1
    have := i_sub (a := v4) (b := 1) (by omega) (by omega)
    obtain ⟨c10, ec10, Wc10, fc10, gc10⟩ := pf_2_9 Wc6 t_a0 (x := (v4 - 1)) (rgi (by omega) (by omega))
    refine wb ec10 ?_
    have F5 := Zfr.tr F3 fc10 (by decide)
    unfold f_Way_closeRows_34
    exact ⟨_, rfl, Wc10, F5⟩

abbrev M_Way_endRows : List (Nat × Nat) := [(2, 8), (2, 10), (23, 0), (24, 0), (25, 0)]
set_option maxRecDepth 100000 in
set_option maxHeartbeats 400000 in
theorem p_Way_endRows {nf : Nat} (hn : 8589934592 ≤ nf) {G : List Nat} {c : Zc} (W : Zwt zty G c) {a0 : Nat}  (t_a0 : G[a0]? = some 2) : ∃ q, f_Way_endRows nf a0 c = some q ∧ Zwt zty G q ∧ Zfr G M_Way_endRows c q := by
  have F0 : Zfr G M_Way_endRows c c := Zfr.rf
  unfold f_Way_endRows
  obtain ⟨w2, ew2⟩ := go_2 W t_a0
  refine wb ew2 ?_
  obtain ⟨q1, eq1, Wq1, fq1⟩ := p_Way_nextRow hn W  t_a0
  refine wb eq1 ?_
  have F1 := Zfr.tr F0 fq1 (by decide)
  obtain ⟨v3, ev3, tv3⟩ := gf_2_11 Wq1 t_a0
  refine wb ev3 ?_
  obtain ⟨v4, ev4, lv4, uv4⟩ := gf_2_9 Wq1 t_a0
  refine wb ev4 ?_
  obtain ⟨v5, ev5⟩ := ga_24 Wq1 tv3 (i := v4) (by omega) (by omega)
  refine wb ev5 ?_
  obtain ⟨c6, ec6, Wc6, fc6, gc6⟩ := pf_2_8 Wq1 t_a0 v5
  refine wb ec6 ?_
  have F2 := Zfr.tr F1 fc6 (by decide)
  exact ⟨_, rfl, Wc6, F2⟩

abbrev M_Way_addStep : List (Nat × Nat) := [(2, 4), (2, 5), (2, 10), (22, 0), (23, 0), (25, 0)]
set_option maxRecDepth 100000 in
set_option maxHeartbeats 400000 in
theorem p_Way_addStep {nf : Nat} (hn : 8589934592 ≤ nf) {G : List Nat} {c : Zc} (W : Zwt zty G c) {a0 : Nat} {a1 : Int32} {a2 : Int32}  (t_a0 : G[a0]? = some 2) (pl_a1 : 0 ≤ a1.toInt) (pu_a1 : a1.toInt ≤ 12) (pl_a2 : 0 ≤ a2.toInt) (pu_a2 : a2.toInt ≤ 1) : ∃ q, f_Way_addStep nf a0 a1 a2 c = some q ∧ Zwt zty G q ∧ Zfr G M_Way_addStep c q := by
  have F0 : Zfr G M_Way_addStep c c := Zfr.rf
  unfold f_Way_addStep
  obtain ⟨w2, ew2⟩ := go_2 W t_a0
  refine wb ew2 ?_
  obtain ⟨q1, eq1, Wq1, fq1⟩ := p_Way_settlePending hn W  t_a0
  refine wb eq1 ?_
  have F1 := Zfr.tr F0 fq1 (by decide)
  obtain ⟨v3, ev3, lv3, uv3⟩ := gf_2_5 Wq1 t_a0
  refine wb ev3 ?_
  refine wi (fun hq2 => ?_) (fun hq2 => ?_)
  · have := li_16
    have hq2 := i_le hq2
    unfold f_Way_addStep_93
    exact ⟨_, rfl, Wq1, F1⟩
  · have := li_16
    have hq2 := i_nle hq2
    obtain ⟨v5, ev5, tv5⟩ := gf_2_6 Wq1 t_a0
    refine wb ev5 ?_
    refine wb ev3 ?_
    have := li_2
    have := i_mull (a := 2) (b := a1) (n := 2) li_2 (by omega) (by omega)
    have := i_add (a := (2 * a1)) (b := a2) (by omega) (by omega)
    obtain ⟨c7, ec7, Wc7, fc7, gc7⟩ := pa_22 Wq1 tv5 (i := v3) (by omega) (by omega) (x := ((2 * a1) + a2)) (rgi (by omega) (by omega))
    refine wb ec7 ?_
    have e3 := (Zfr.gi fc7 t_a0 (by decide)).trans ev3
    have F4 := Zfr.tr F1 fc7 (by decide)
    obtain ⟨v8, ev8, tv8⟩ := gf_2_7 Wc7 t_a0
    refine wb ev8 ?_
    refine wb e3 ?_
    obtain ⟨c10, ec10, Wc10, fc10, gc10⟩ := pa_23 Wc7 tv8 (i := v3) (by omega) (by omega) (x := 0) (trivial)
    refine wb ec10 ?_
    have e5 := (Zfr.gi fc10 t_a0 (by decide)).trans e3
    have F6 := Zfr.tr F4 fc10 (by decide)
    refine wb e5 ?_
    refine wb e5 ?_
    obtain ⟨c13, ec13, Wc13, fc13, gc13⟩ := pf_2_10 Wc10 t_a0 (((1 : Int64) <<< (Int32.toInt64 v3 &&& 63)) ||| ((1 : Int64) <<< (Int32.toInt64 (v3 + 16) &&& 63)))
    refine wb ec13 ?_
    have e7 := (Zfr.gi fc13 t_a0 (by decide)).trans e5
    have F8 := Zfr.tr F6 fc13 (by decide)
    obtain ⟨v14, ev14, lv14, uv14⟩ := gf_2_4 Wc13 t_a0
    refine wb ev14 ?_
    refine wi (fun hq9 => ?_) (fun hq9 => ?_)
    · have := li_8
      have hq9 := i_lt hq9
      unfold f_Way_addStep_78
      unfold f_Way_addStep_79
      have := li_0
      have := i_or (a := v14) (b := 0) 1 (by decide) (by omega) (by omega) (by omega) (by omega)
      obtain ⟨c16, ec16, Wc16, fc16, gc16⟩ := pz_2_4 Wc13 t_a0 (x := (v14 ||| 0)) (rgi (by omega) (by omega))
      refine wb ec16 ?_
      have e10 := (Zfr.gi fc16 t_a0 (by decide)).trans e7
      have F11 := Zfr.tr F8 fc16 (by decide)
      refine wb e10 ?_
      have := li_1
      have := i_add (a := v3) (b := 1) (by omega) (by omega)
      obtain ⟨c18, ec18, Wc18, fc18, gc18⟩ := pf_2_5 Wc16 t_a0 (x := (v3 + 1)) (rgi (by omega) (by omega))
      refine wb ec18 ?_
      have F12 := Zfr.tr F11 fc18 (by decide)
      unfold f_Way_addStep_93
      exact ⟨_, rfl, Wc18, F12⟩
    · have := li_8
      have hq9 := i_nlt hq9
      refine wi (fun hq13 => ?_) (fun hq13 => ?_)
      · have := li_12
        have hq13 := i_le hq13
        unfold f_Way_addStep_78
        unfold f_Way_addStep_79
        have := li_0
        have := i_or (a := v14) (b := 0) 1 (by decide) (by omega) (by omega) (by omega) (by omega)
        obtain ⟨c16, ec16, Wc16, fc16, gc16⟩ := pz_2_4 Wc13 t_a0 (x := (v14 ||| 0)) (rgi (by omega) (by omega))
        refine wb ec16 ?_
        have e14 := (Zfr.gi fc16 t_a0 (by decide)).trans e7
        have F15 := Zfr.tr F8 fc16 (by decide)
        refine wb e14 ?_
        have := li_1
        have := i_add (a := v3) (b := 1) (by omega) (by omega)
        obtain ⟨c18, ec18, Wc18, fc18, gc18⟩ := pf_2_5 Wc16 t_a0 (x := (v3 + 1)) (rgi (by omega) (by omega))
        refine wb ec18 ?_
        have F16 := Zfr.tr F15 fc18 (by decide)
        unfold f_Way_addStep_93
        exact ⟨_, rfl, Wc18, F16⟩
      · have := li_12
        have hq13 := i_nle hq13
        unfold f_Way_addStep_79
        have := li_1
        have := i_or (a := v14) (b := 1) 1 (by decide) (by omega) (by omega) (by omega) (by omega)
        obtain ⟨c16, ec16, Wc16, fc16, gc16⟩ := pz_2_4 Wc13 t_a0 (x := (v14 ||| 1)) (rgi (by omega) (by omega))
        refine wb ec16 ?_
        have e17 := (Zfr.gi fc16 t_a0 (by decide)).trans e7
        have F18 := Zfr.tr F8 fc16 (by decide)
        refine wb e17 ?_
        have := i_add (a := v3) (b := 1) (by omega) (by omega)
        obtain ⟨c18, ec18, Wc18, fc18, gc18⟩ := pf_2_5 Wc16 t_a0 (x := (v3 + 1)) (rgi (by omega) (by omega))
        refine wb ec18 ?_
        have F19 := Zfr.tr F18 fc18 (by decide)
        unfold f_Way_addStep_93
        exact ⟨_, rfl, Wc18, F19⟩

abbrev M_Way_repeat : List (Nat × Nat) := [(2, 10), (23, 0)]
set_option maxRecDepth 100000 in
set_option maxHeartbeats 400000 in
theorem p_Way_repeat {nf : Nat} (hn : 8589934592 ≤ nf) {G : List Nat} {c : Zc} (W : Zwt zty G c) {a0 : Nat} {a1 : Int32} {a2 : Int32}  (t_a0 : G[a0]? = some 2) : ∃ q, f_Way_repeat nf a0 a1 a2 c = some q ∧ Zwt zty G q ∧ Zfr G M_Way_repeat c q := by
  have F0 : Zfr G M_Way_repeat c c := Zfr.rf
  unfold f_Way_repeat
  refine wi (fun hq1 => ?_) (fun hq1 => ?_)
  · have := li_0
    have := i_ge a2
    have := i_up a2
    have hq1 := i_eq hq1
    unfold f_Way_repeat_16
    refine wi (fun hq2 => ?_) (fun hq2 => ?_)
    · have := i_ge a1
      have := i_up a1
      have hq2 := i_eq hq2
      unfold f_Way_repeat_32
      exact ⟨_, rfl, W, F0⟩
    · have := i_ge a1
      have := i_up a1
      have hq2 := i_ne hq2
      obtain ⟨v3, ev3⟩ := gf_2_10 W t_a0
      refine wb ev3 ?_
      obtain ⟨c4, ec4, Wc4, fc4, gc4⟩ := pf_2_10 W t_a0 (v3 ||| 4294967296)
      refine wb ec4 ?_
      have F3 := Zfr.tr F0 fc4 (by decide)
      unfold f_Way_repeat_32
      exact ⟨_, rfl, Wc4, F3⟩
  · have := li_0
    have := i_ge a2
    have := i_up a2
    have hq1 := i_ne hq1
    obtain ⟨v5, ev5⟩ := gf_2_10 W t_a0
    refine wb ev5 ?_
    refine wb ev5 ?_
    obtain ⟨w8, ew8⟩ := go_2 W t_a0
    refine wb ew8 ?_
    obtain ⟨q7, eq7, Wq7, fq7⟩ := p_Way_lead hn W (a1 := v5) (a3 := v5) t_a0
    refine wb eq7 ?_
    have e4 := (Zfr.gl fq7 t_a0 (by decide)).trans ev5
    have F5 := Zfr.tr F0 fq7 (by decide)
    unfold f_Way_repeat_16
    refine wi (fun hq6 => ?_) (fun hq6 => ?_)
    · have := i_ge a1
      have := i_up a1
      have hq6 := i_eq hq6
      unfold f_Way_repeat_32
      exact ⟨_, rfl, Wq7, F5⟩
    · have := i_ge a1
      have := i_up a1
      have hq6 := i_ne hq6
      refine wb e4 ?_
      obtain ⟨c4, ec4, Wc4, fc4, gc4⟩ := pf_2_10 Wq7 t_a0 (v5 ||| 4294967296)
      refine wb ec4 ?_
      have F7 := Zfr.tr F5 fc4 (by decide)
      unfold f_Way_repeat_32
      exact ⟨_, rfl, Wc4, F7⟩

abbrev M_Way_forgetArcs : List (Nat × Nat) := [(2, 16), (26, 0), (27, 0), (28, 0)]
set_option maxRecDepth 100000 in
set_option maxHeartbeats 400000 in
theorem p_Way_forgetArcs {nf : Nat} (hn : 8589934592 ≤ nf) {G : List Nat} {c : Zc} (W : Zwt zty G c) {a0 : Nat}  (t_a0 : G[a0]? = some 2) : ∃ q, f_Way_forgetArcs nf a0 c = some q ∧ Zwt zty G q ∧ Zfr G M_Way_forgetArcs c q := by
  have F0 : Zfr G M_Way_forgetArcs c c := Zfr.rf
  unfold f_Way_forgetArcs
  obtain ⟨v1, ev1, tv1⟩ := gf_2_13 W t_a0
  refine wb ev1 ?_
  have := li_m1
  obtain ⟨q2, eq2, Wq2, fq2⟩ := p_Arrays_fill__WArcs hn W (a1 := (-1)) tv1
  refine wb eq2 ?_
  have F1 := Zfr.tr F0 fq2 (by decide)
  obtain ⟨v3, ev3, tv3⟩ := gf_2_14 Wq2 t_a0
  refine wb ev3 ?_
  have := li_0
  obtain ⟨q4, eq4, Wq4, fq4⟩ := p_Arrays_fill__WAhead hn Wq2 (a1 := 0) tv3
  refine wb eq4 ?_
  have F2 := Zfr.tr F1 fq4 (by decide)
  obtain ⟨v5, ev5, tv5⟩ := gf_2_15 Wq4 t_a0
  refine wb ev5 ?_
  obtain ⟨q6, eq6, Wq6, fq6⟩ := p_Arrays_fill__WBehind hn Wq4 (a1 := 0) tv5
  refine wb eq6 ?_
  have F3 := Zfr.tr F2 fq6 (by decide)
  obtain ⟨c7, ec7, Wc7, fc7, gc7⟩ := pf_2_16 Wq6 t_a0 (x := 0) (trivial)
  refine wb ec7 ?_
  have F4 := Zfr.tr F3 fc7 (by decide)
  exact ⟨_, rfl, Wc7, F4⟩

abbrev M_Way_arrive : List (Nat × Nat) := [(2, 16), (26, 0), (27, 0), (28, 0)]
set_option maxRecDepth 100000 in
set_option maxHeartbeats 400000 in
theorem p_Way_arrive {nf : Nat} (hn : 8589934592 ≤ nf) {G : List Nat} {c : Zc} (W : Zwt zty G c) {a0 : Nat} {a1 : Int32} {a2 : Int32} {a3 : Int32}  (t_a0 : G[a0]? = some 2) (pl_a1 : 0 ≤ a1.toInt) (pu_a1 : a1.toInt ≤ 15) : ∃ q, f_Way_arrive nf a0 a1 a2 a3 c = some q ∧ Zwt zty G q ∧ Zfr G M_Way_arrive c q := by
  have F0 : Zfr G M_Way_arrive c c := Zfr.rf
  unfold f_Way_arrive
  obtain ⟨v1, ev1, tv1⟩ := gf_2_14 W t_a0
  refine wb ev1 ?_
  obtain ⟨v2, ev2, _⟩ := ga_27 W tv1 (i := a1) (by omega) (by omega)
  refine wb ev2 ?_
  unfold f_Way_arrive_15
  have := li_0
  have L1 : ∃ b, zlp (fun a : Nat × Int32 × Int32 × Int32 × Int32 × Zc => g_Way_arrive_15 nf a.1 a.2.1 a.2.2.1 a.2.2.2.1 a.2.2.2.2.1 a.2.2.2.2.2) nf (a0, a1, a3, (a2 &&& (v2 ^^^ (-1))), 0, c) = some b ∧ (fun b : (Nat × Int32 × Int32 × Zc) => a0 = b.1 ∧ a1 = b.2.1 ∧ (a2 &&& (v2 ^^^ (-1))) = b.2.2.1 ∧ Zwt zty G b.2.2.2 ∧ Zfr G ([(26, 0), (28, 0)] : List (Nat × Nat)) c b.2.2.2) b := by
    refine wlp (fun a : Nat × Int32 × Int32 × Int32 × Int32 × Zc => a0 = a.1 ∧ a1 = a.2.1 ∧ a3 = a.2.2.1 ∧ (a2 &&& (v2 ^^^ (-1))) = a.2.2.2.1 ∧ Zwt zty G a.2.2.2.2.2 ∧ Zfr G ([(26, 0), (28, 0)] : List (Nat × Nat)) c a.2.2.2.2.2 ∧ 0 ≤ a.2.2.2.2.1.toInt ∧ a.2.2.2.2.1.toInt ≤ 16) (fun a => (16 - a.2.2.2.2.1.toInt).toNat) (fun b : (Nat × Int32 × Int32 × Zc) => a0 = b.1 ∧ a1 = b.2.1 ∧ (a2 &&& (v2 ^^^ (-1))) = b.2.2.1 ∧ Zwt zty G b.2.2.2 ∧ Zfr G ([(26, 0), (28, 0)] : List (Nat × Nat)) c b.2.2.2) ?_ ?_ ?_
    · rintro ⟨x0_2, x1_2, x3_2, x4_2, x5_2, c_2⟩ hI
      try dsimp only at hI ⊢
      obtain ⟨rfl, rfl, rfl, rfl, WLc_2, FLc_2, j3, j4⟩ := hI
      have e5 := (Zfr.ai FLc_2 tv1 (by decide)).trans ev2
      unfold g_Way_arrive_15
      refine wi (fun hq6 => ?_) (fun hq6 => ?_)
      · have := li_16
        have hq6 := i_le hq6
        exact lInr ⟨rfl, rfl, rfl, WLc_2, FLc_2⟩
      · have := li_16
        have hq6 := i_nle hq6
        refine wi (fun hq7 => ?_) (fun hq7 => ?_)
        · have := li_1
          have := i_andr (a := ((a2 &&& (v2 ^^^ (-1))) >>> (x5_2 &&& 31))) (b := 1) (by omega)
          have hq7 := i_eq hq7
          unfold f_Way_arrive_58
          have := i_add (a := x5_2) (b := 1) (by omega) (by omega)
          exact lInl ⟨rfl, rfl, rfl, rfl, WLc_2, FLc_2, by (try dsimp only); omega, by (try dsimp only); omega⟩ (by (try dsimp only); omega)
        · have := li_1
          have := i_andr (a := ((a2 &&& (v2 ^^^ (-1))) >>> (x5_2 &&& 31))) (b := 1) (by omega)
          have hq7 := i_ne hq7
          obtain ⟨v5, ev5, tv5⟩ := gf_2_13 WLc_2 t_a0
          refine wb ev5 ?_
          have := i_mulr (a := a1) (b := 16) (n := 16) li_16 (by omega) (by omega)
          have := i_add (a := (a1 * 16)) (b := x5_2) (by omega) (by omega)
          obtain ⟨c6, ec6, Wc6, fc6, gc6⟩ := pa_26 WLc_2 tv5 (i := ((a1 * 16) + x5_2)) (by omega) (by omega) (x := a3) (trivial)
          refine wb ec6 ?_
          have e8 := (Zfr.ai fc6 tv1 (by decide)).trans e5
          have F9 := Zfr.tr FLc_2 fc6 (by decide)
          obtain ⟨v7, ev7, tv7⟩ := gf_2_15 Wc6 t_a0
          refine wb ev7 ?_
          obtain ⟨v8, ev8, _⟩ := ga_28 Wc6 tv7 (i := x5_2) (by omega) (by omega)
          refine wb ev8 ?_
          obtain ⟨c9, ec9, Wc9, fc9, gc9⟩ := pa_28 Wc6 tv7 (i := x5_2) (by omega) (by omega) (x := (v8 ||| ((1 : Int32) <<< (a1 &&& 31)))) (trivial)
          refine wb ec9 ?_
          have F10 := Zfr.tr F9 fc9 (by decide)
          unfold f_Way_arrive_58
          have := i_add (a := x5_2) (b := 1) (by omega) (by omega)
          exact lInl ⟨rfl, rfl, rfl, rfl, Wc9, F10, by (try dsimp only); omega, by (try dsimp only); omega⟩ (by (try dsimp only); omega)
    · exact ⟨rfl, rfl, rfl, rfl, W, Zfr.rf, by (try dsimp only); omega, by (try dsimp only); omega⟩
    · (try dsimp only); omega
  obtain ⟨b, eb, hb⟩ := L1
  refine wb eb ?_
  clear eb
  obtain ⟨z0_11, z1_11, z2_11, c_11⟩ := b
  try dsimp only at hb ⊢
  obtain ⟨rfl, rfl, rfl, WXc_11, FXc_11⟩ := hb
  have e12 := (Zfr.gr FXc_11 t_a0 (by decide)).trans ev1
  have e13 := (Zfr.ai FXc_11 tv1 (by decide)).trans ev2
  have F14 := Zfr.tr F0 FXc_11 (by decide)
  refine wb e12 ?_
  refine wb e13 ?_
  obtain ⟨c12, ec12, Wc12, fc12, gc12⟩ := pa_27 WXc_11 tv1 (i := a1) (by omega) (by omega) (x := (v2 ||| (a2 &&& (v2 ^^^ (-1))))) (trivial)
  refine wb ec12 ?_
  have F15 := Zfr.tr F14 fc12 (by decide)
  obtain ⟨v13, ev13, _⟩ := gf_2_16 Wc12 t_a0
  refine wb ev13 ?_
  obtain ⟨c14, ec14, Wc14, fc14, gc14⟩ := pf_2_16 Wc12 t_a0 (x := (v13 ||| ((a2 &&& (v2 ^^^ (-1))) &&& ((1 : Int32) <<< (a1 &&& 31))))) (trivial)
  refine wb ec14 ?_
  have F16 := Zfr.tr F15 fc14 (by decide)
  exact ⟨_, rfl, Wc14, F16⟩

abbrev M_Way_arcsBetween : List (Nat × Nat) := []
set_option maxRecDepth 100000 in
set_option maxHeartbeats 400000 in
theorem p_Way_arcsBetween {nf : Nat} (hn : 8589934592 ≤ nf) {G : List Nat} {c : Zc} (W : Zwt zty G c) {a0 : Nat} {a1 : Int32} {a2 : Int32}  (t_a0 : G[a0]? = some 2) (pl_a1 : 0 ≤ a1.toInt) (pu_a1 : a1.toInt ≤ 15) (pl_a2 : 0 ≤ a2.toInt) (pu_a2 : a2.toInt ≤ 15) : ∃ q, f_Way_arcsBetween nf a0 a1 a2 c = some q ∧ Zwt zty G q.2 ∧ Zfr G M_Way_arcsBetween c q.2 := by
  have F0 : Zfr G M_Way_arcsBetween c c := Zfr.rf
  unfold f_Way_arcsBetween
  obtain ⟨v1, ev1, tv1⟩ := gf_2_13 W t_a0
  refine wb ev1 ?_
  have := li_16
  have := i_mulr (a := a1) (b := 16) (n := 16) li_16 (by omega) (by omega)
  have := i_add (a := (a1 * 16)) (b := a2) (by omega) (by omega)
  obtain ⟨v2, ev2, _⟩ := ga_26 W tv1 (i := ((a1 * 16) + a2)) (by omega) (by omega)
  refine wb ev2 ?_
  exact ⟨_, rfl, W, F0⟩

abbrev M_Text_endGroup : List (Nat × Nat) := [(33, 0), (34, 0)]
set_option maxRecDepth 100000 in
set_option maxHeartbeats 400000 in
theorem p_Text_endGroup {nf : Nat} (hn : 8589934592 ≤ nf) {G : List Nat} {c : Zc} (W : Zwt zty G c) {a0 : Nat}  (t_a0 : G[a0]? = some 3) (hb_Ztg : Ztg G c a0) : ∃ q, f_Text_endGroup nf a0 c = some q ∧ Zwt zty G q ∧ Zfr G M_Text_endGroup c q ∧ Ztg G q a0 := by
  have F0 : Zfr G M_Text_endGroup c c := Zfr.rf
  unfold f_Text_endGroup
  obtain ⟨bg0, h0Ztg0, r0Ztg0, r1Ztg0⟩ := hb_Ztg
  obtain ⟨v1, ev1, tv1⟩ := gf_3_10 W t_a0
  refine wb ev1 ?_
  refine wb h0Ztg0 ?_
  obtain ⟨v3, ev3, lv3, uv3⟩ := gf_3_3 W t_a0
  refine wb ev3 ?_
  have := li_1
  have := i_sub (a := bg0) (b := 1) (by omega) (by omega)
  obtain ⟨c4, ec4, Wc4, fc4, gc4⟩ := pa_33 W tv1 (i := (bg0 - 1)) (by omega) (by omega) (x := v3) (rgi (by omega) (by omega))
  refine wb ec4 ?_
  have e1 := (Zfr.gi fc4 t_a0 (by decide)).trans h0Ztg0
  have F2 := Zfr.tr F0 fc4 (by decide)
  obtain ⟨v5, ev5, tv5⟩ := gf_3_11 Wc4 t_a0
  refine wb ev5 ?_
  refine wb e1 ?_
  obtain ⟨v7, ev7, lv7, uv7⟩ := gf_3_5 Wc4 t_a0
  refine wb ev7 ?_
  obtain ⟨c8, ec8, Wc8, fc8, gc8⟩ := pa_34 Wc4 tv5 (i := (bg0 - 1)) (by omega) (by omega) (x := v7) (rgi (by omega) (by omega))
  refine wb ec8 ?_
  have e3 := (Zfr.gi fc8 t_a0 (by decide)).trans e1
  have F4 := Zfr.tr F2 fc8 (by decide)
  exact ⟨_, rfl, Wc8, F4, ⟨bg0, e3, by (try dsimp only); omega, by (try dsimp only); omega⟩⟩

abbrev M_Text_openGroup : List (Nat × Nat) := [(3, 8), (32, 0), (33, 0), (34, 0)]
set_option maxRecDepth 100000 in
set_option maxHeartbeats 400000 in
theorem p_Text_openGroup {nf : Nat} (hn : 8589934592 ≤ nf) {G : List Nat} {c : Zc} (W : Zwt zty G c) {a0 : Nat}  (t_a0 : G[a0]? = some 3) : ∃ q, f_Text_openGroup nf a0 c = some q ∧ Zwt zty G q ∧ Zfr G M_Text_openGroup c q ∧ Ztg G q a0 := by
  have F0 : Zfr G M_Text_openGroup c c := Zfr.rf
  unfold f_Text_openGroup
  obtain ⟨v1, ev1, lv1, uv1⟩ := gf_3_8 W t_a0
  refine wb ev1 ?_
  refine wi (fun hq1 => ?_) (fun hq1 => ?_)
  · have := li_70
    have hq1 := i_le hq1
    unfold f_Text_openGroup_33
    exact ⟨_, rfl, W, F0, ⟨v1, ev1, by (try dsimp only); omega, by (try dsimp only); omega⟩⟩
  · have := li_70
    have hq1 := i_nle hq1
    obtain ⟨v3, ev3, tv3⟩ := gf_3_9 W t_a0
    refine wb ev3 ?_
    refine wb ev1 ?_
    obtain ⟨c5, ec5, Wc5, fc5, gc5⟩ := pa_32 W tv3 (i := v1) (by omega) (by omega) (x := 0) (trivial)
    refine wb ec5 ?_
    have e3 := (Zfr.gi fc5 t_a0 (by decide)).trans ev1
    have F4 := Zfr.tr F0 fc5 (by decide)
    refine wb e3 ?_
    have := li_1
    have := i_add (a := v1) (b := 1) (by omega) (by omega)
    obtain ⟨c7, ec7, Wc7, fc7, gc7⟩ := pf_3_8 Wc5 t_a0 (x := (v1 + 1)) (rgi (by omega) (by omega))
    refine wb ec7 ?_
    have F5 := Zfr.tr F4 fc7 (by decide)
    obtain ⟨w9, ew9⟩ := go_3 Wc7 t_a0
    refine wb ew9 ?_
    obtain ⟨q8, eq8, Wq8, fq8, pbZtgq8⟩ := p_Text_endGroup hn Wc7  t_a0 ⟨(v1 + 1), gc7, by (try dsimp only); omega, by (try dsimp only); omega⟩
    refine wb eq8 ?_
    have e7 := (Zfr.gi fq8 t_a0 (by decide)).trans gc7
    have F8 := Zfr.tr F5 fq8 (by decide)
    obtain ⟨bgq8, h0Ztgq8, r0Ztgq8, r1Ztgq8⟩ := pbZtgq8
    unfold f_Text_openGroup_33
    exact ⟨_, rfl, Wq8, F8, ⟨bgq8, h0Ztgq8, by (try dsimp only); omega, by (try dsimp only); omega⟩⟩

abbrev M_Text_clear : List (Nat × Nat) := [(3, 0), (3, 2), (3, 3), (3, 5), (3, 8), (3, 12), (3, 14), (3, 15), (3, 18), (32, 0), (33, 0), (34, 0)]
set_option maxRecDepth 100000 in
set_option maxHeartbeats 400000 in
theorem p_Text_clear {nf : Nat} (hn : 8589934592 ≤ nf) {G : List Nat} {c : Zc} (W : Zwt zty G c) {a0 : Nat}  (t_a0 : G[a0]? = some 3) : ∃ q, f_Text_clear nf a0 c = some q ∧ Zwt zty G q ∧ Zfr G M_Text_clear c q ∧ Ztg G q a0 := by
  have F0 : Zfr G M_Text_clear c c := Zfr.rf
  unfold f_Text_clear
  have := li_0
  obtain ⟨c1, ec1, Wc1, fc1, gc1⟩ := pf_3_0 W t_a0 (x := 0) (rgi (by omega) (by omega))
  refine wb ec1 ?_
  have F1 := Zfr.tr F0 fc1 (by decide)
  obtain ⟨c2, ec2, Wc2, fc2, gc2⟩ := pf_3_2 Wc1 t_a0 (x := 0) (trivial)
  refine wb ec2 ?_
  have F2 := Zfr.tr F1 fc2 (by decide)
  obtain ⟨c3, ec3, Wc3, fc3, gc3⟩ := pf_3_3 Wc2 t_a0 (x := 0) (rgi (by omega) (by omega))
  refine wb ec3 ?_
  have F3 := Zfr.tr F2 fc3 (by decide)
  obtain ⟨c4, ec4, Wc4, fc4, gc4⟩ := pf_3_5 Wc3 t_a0 (x := 0) (rgi (by omega) (by omega))
  refine wb ec4 ?_
  have F4 := Zfr.tr F3 fc4 (by decide)
  obtain ⟨c5, ec5, Wc5, fc5, gc5⟩ := pf_3_8 Wc4 t_a0 (x := 0) (rgi (by omega) (by omega))
  refine wb ec5 ?_
  have F5 := Zfr.tr F4 fc5 (by decide)
  obtain ⟨c6, ec6, Wc6, fc6, gc6⟩ := pf_3_12 Wc5 t_a0 (x := 0) (rgi (by omega) (by omega))
  refine wb ec6 ?_
  have e6 := (Zfr.gi fc6 t_a0 (by decide)).trans gc5
  have F7 := Zfr.tr F5 fc6 (by decide)
  obtain ⟨c7, ec7, Wc7, fc7, gc7⟩ := pf_3_14 Wc6 t_a0 (x := 0) (rgi (by omega) (by omega))
  refine wb ec7 ?_
  have e8 := (Zfr.gi fc7 t_a0 (by decide)).trans e6
  have F9 := Zfr.tr F7 fc7 (by decide)
  obtain ⟨c8, ec8, Wc8, fc8, gc8⟩ := pf_3_15 Wc7 t_a0 (x := 0) (rgi (by omega) (by omega))
  refine wb ec8 ?_
  have e10 := (Zfr.gi fc8 t_a0 (by decide)).trans e8
  have F11 := Zfr.tr F9 fc8 (by decide)
  have := li_20000
  obtain ⟨c9, ec9, Wc9, fc9, gc9⟩ := pf_3_18 Wc8 t_a0 (x := 20000) (rgi (by omega) (by omega))
  refine wb ec9 ?_
  have e12 := (Zfr.gi fc9 t_a0 (by decide)).trans e10
  have F13 := Zfr.tr F11 fc9 (by decide)
  obtain ⟨w11, ew11⟩ := go_3 Wc9 t_a0
  refine wb ew11 ?_
  obtain ⟨q10, eq10, Wq10, fq10, pbZtgq10⟩ := p_Text_openGroup hn Wc9  t_a0
  refine wb eq10 ?_
  have F14 := Zfr.tr F13 fq10 (by decide)
  obtain ⟨bgq10, h0Ztgq10, r0Ztgq10, r1Ztgq10⟩ := pbZtgq10
  exact ⟨_, rfl, Wq10, F14, ⟨bgq10, h0Ztgq10, by (try dsimp only); omega, by (try dsimp only); omega⟩⟩

abbrev M_Text_addDemand : List (Nat × Nat) := [(3, 5), (30, 0)]
set_option maxRecDepth 100000 in
set_option maxHeartbeats 400000 in
theorem p_Text_addDemand {nf : Nat} (hn : 8589934592 ≤ nf) {G : List Nat} {c : Zc} (W : Zwt zty G c) {a0 : Nat} {a1 : Int32} {a2 : Int32}  (t_a0 : G[a0]? = some 3) (pl_a1 : 0 ≤ a1.toInt) (pu_a1 : a1.toInt ≤ 7) (pl_a2 : 0 ≤ a2.toInt) (pu_a2 : a2.toInt ≤ 255) : ∃ q, f_Text_addDemand nf a0 a1 a2 c = some q ∧ Zwt zty G q ∧ Zfr G M_Text_addDemand c q := by
  have F0 : Zfr G M_Text_addDemand c c := Zfr.rf
  unfold f_Text_addDemand
  obtain ⟨v1, ev1, lv1, uv1⟩ := gf_3_5 W t_a0
  refine wb ev1 ?_
  refine wi (fun hq1 => ?_) (fun hq1 => ?_)
  · have := li_70
    have hq1 := i_le hq1
    unfold f_Text_addDemand_35
    exact ⟨_, rfl, W, F0⟩
  · have := li_70
    have hq1 := i_nle hq1
    obtain ⟨v3, ev3, tv3⟩ := gf_3_6 W t_a0
    refine wb ev3 ?_
    refine wb ev1 ?_
    have := li_256
    have := i_mulr (a := a1) (b := 256) (n := 256) li_256 (by omega) (by omega)
    have := i_add (a := (a1 * 256)) (b := a2) (by omega) (by omega)
    obtain ⟨c5, ec5, Wc5, fc5, gc5⟩ := pa_30 W tv3 (i := v1) (by omega) (by omega) (x := ((a1 * 256) + a2)) (rgi (by omega) (by omega))
    refine wb ec5 ?_
    have e2 := (Zfr.gi fc5 t_a0 (by decide)).trans ev1
    have F3 := Zfr.tr F0 fc5 (by decide)
    refine wb e2 ?_
    have := li_1
    have := i_add (a := v1) (b := 1) (by omega) (by omega)
    obtain ⟨c7, ec7, Wc7, fc7, gc7⟩ := pf_3_5 Wc5 t_a0 (x := (v1 + 1)) (rgi (by omega) (by omega))
    refine wb ec7 ?_
    have F4 := Zfr.tr F3 fc7 (by decide)
    unfold f_Text_addDemand_35
    exact ⟨_, rfl, Wc7, F4⟩

abbrev M_Text_emit : List (Nat × Nat) := [(3, 12), (35, 0)]
set_option maxRecDepth 100000 in
set_option maxHeartbeats 400000 in
theorem p_Text_emit {nf : Nat} (hn : 8589934592 ≤ nf) {G : List Nat} {c : Zc} (W : Zwt zty G c) {a0 : Nat} {a1 : Int32} {a2 : Int32}  (t_a0 : G[a0]? = some 3) (pk_0 : okCode (a1 + (a2 * 32))) : ∃ q, f_Text_emit nf a0 a1 a2 c = some q ∧ Zwt zty G q.2 ∧ Zfr G M_Text_emit c q.2 := by
  have F0 : Zfr G M_Text_emit c c := Zfr.rf
  unfold f_Text_emit
  obtain ⟨v1, ev1, lv1, uv1⟩ := gf_3_12 W t_a0
  refine wb ev1 ?_
  obtain ⟨v2, ev2, tv2⟩ := gf_3_13 W t_a0
  refine wb ev2 ?_
  refine wb (gl_35 W tv2) ?_
  refine wi (fun hq1 => ?_) (fun hq1 => ?_)
  · have := li_202
    have hq1 := i_lt hq1
    refine wb ev2 ?_
    refine wb ev1 ?_
    obtain ⟨c7, ec7, Wc7, fc7, gc7⟩ := pa_35 W tv2 (i := v1) (by omega) (by omega) (x := (a1 + (a2 * 32))) (pk_0)
    refine wb ec7 ?_
    have e2 := (Zfr.gi fc7 t_a0 (by decide)).trans ev1
    have F3 := Zfr.tr F0 fc7 (by decide)
    refine wb e2 ?_
    have := li_1
    have := i_add (a := v1) (b := 1) (by omega) (by omega)
    obtain ⟨c9, ec9, Wc9, fc9, gc9⟩ := pf_3_12 Wc7 t_a0 (x := (v1 + 1)) (rgi (by omega) (by omega))
    refine wb ec9 ?_
    have F4 := Zfr.tr F3 fc9 (by decide)
    refine wb gc9 ?_
    have := i_sub (a := (v1 + 1)) (b := 1) (by omega) (by omega)
    exact ⟨_, rfl, Wc9, F4⟩
  · have := li_202
    have hq1 := i_nlt hq1
    refine wb ev1 ?_
    have := li_1
    have := i_sub (a := v1) (b := 1) (by omega) (by omega)
    exact ⟨_, rfl, W, F0⟩

abbrev M_Text_change : List (Nat × Nat) := [(35, 0)]
set_option maxRecDepth 100000 in
set_option maxHeartbeats 400000 in
theorem p_Text_change {nf : Nat} (hn : 8589934592 ≤ nf) {G : List Nat} {c : Zc} (W : Zwt zty G c) {a0 : Nat} {a1 : Int32} {a2 : Int32} {a3 : Int32}  (t_a0 : G[a0]? = some 3) (pk_0 : okCode (a2 + (a3 * 32))) : ∃ q, f_Text_change nf a0 a1 a2 a3 c = some q ∧ Zwt zty G q ∧ Zfr G M_Text_change c q := by
  have F0 : Zfr G M_Text_change c c := Zfr.rf
  unfold f_Text_change
  have J1 : ∃ q, f_Text_change_24 nf c = some q ∧ Zwt zty G q ∧ Zfr G M_Text_change c q := by
    unfold f_Text_change_24
    exact ⟨_, rfl, W, F0⟩
  refine wi (fun hq2 => ?_) (fun hq2 => ?_)
  · have := li_0
    have := i_ge a1
    have := i_up a1
    have hq2 := i_lt hq2
    exact J1
  · have := li_0
    have := i_ge a1
    have := i_up a1
    have hq2 := i_nlt hq2
    obtain ⟨v2, ev2, lv2, uv2⟩ := gf_3_12 W t_a0
    refine wb ev2 ?_
    refine wi (fun hq3 => ?_) (fun hq3 => ?_)
    · have hq3 := i_le hq3
      exact J1
    · have hq3 := i_nle hq3
      obtain ⟨v4, ev4, tv4⟩ := gf_3_13 W t_a0
      refine wb ev4 ?_
      obtain ⟨c5, ec5, Wc5, fc5, gc5⟩ := pa_35 W tv4 (i := a1) (by omega) (by omega) (x := (a2 + (a3 * 32))) (pk_0)
      refine wb ec5 ?_
      have F4 := Zfr.tr F0 fc5 (by decide)
      unfold f_Text_change_24
      exact ⟨_, rfl, Wc5, F4⟩

abbrev M_Text_openItem : List (Nat × Nat) := [(36, 0)]
set_option maxRecDepth 100000 in
set_option maxHeartbeats 400000 in
theorem p_Text_openItem {nf : Nat} (hn : 8589934592 ≤ nf) {G : List Nat} {c : Zc} (W : Zwt zty G c) {a0 : Nat} {a1 : Int32}  (t_a0 : G[a0]? = some 3) : ∃ q, f_Text_openItem nf a0 a1 c = some q ∧ Zwt zty G q ∧ Zfr G M_Text_openItem c q := by
  have F0 : Zfr G M_Text_openItem c c := Zfr.rf
  unfold f_Text_openItem
  obtain ⟨v1, ev1, lv1, uv1⟩ := gf_3_15 W t_a0
  refine wb ev1 ?_
  refine wi (fun hq1 => ?_) (fun hq1 => ?_)
  · have := li_8
    have hq1 := i_le hq1
    unfold f_Text_openItem_19
    exact ⟨_, rfl, W, F0⟩
  · have := li_8
    have hq1 := i_nle hq1
    obtain ⟨v3, ev3, tv3⟩ := gf_3_16 W t_a0
    refine wb ev3 ?_
    refine wb ev1 ?_
    obtain ⟨c5, ec5, Wc5, fc5, gc5⟩ := pa_36 W tv3 (i := v1) (by omega) (by omega) (x := a1) (trivial)
    refine wb ec5 ?_
    have F2 := Zfr.tr F0 fc5 (by decide)
    unfold f_Text_openItem_19
    exact ⟨_, rfl, Wc5, F2⟩

abbrev M_Text_endItem : List (Nat × Nat) := [(3, 15), (37, 0)]
set_option maxRecDepth 100000 in
set_option maxHeartbeats 400000 in
theorem p_Text_endItem {nf : Nat} (hn : 8589934592 ≤ nf) {G : List Nat} {c : Zc} (W : Zwt zty G c) {a0 : Nat}  (t_a0 : G[a0]? = some 3) : ∃ q, f_Text_endItem nf a0 c = some q ∧ Zwt zty G q ∧ Zfr G M_Text_endItem c q := by
  have F0 : Zfr G M_Text_endItem c c := Zfr.rf
  unfold f_Text_endItem
  obtain ⟨v1, ev1, lv1, uv1⟩ := gf_3_15 W t_a0
  refine wb ev1 ?_
  refine wi (fun hq1 => ?_) (fun hq1 => ?_)
  · have := li_8
    have hq1 := i_le hq1
    unfold f_Text_endItem_32
    exact ⟨_, rfl, W, F0⟩
  · have := li_8
    have hq1 := i_nle hq1
    obtain ⟨v3, ev3, tv3⟩ := gf_3_17 W t_a0
    refine wb ev3 ?_
    refine wb ev1 ?_
    obtain ⟨v5, ev5, lv5, uv5⟩ := gf_3_12 W t_a0
    refine wb ev5 ?_
    obtain ⟨c6, ec6, Wc6, fc6, gc6⟩ := pa_37 W tv3 (i := v1) (by omega) (by omega) (x := v5) (rgi (by omega) (by omega))
    refine wb ec6 ?_
    have e2 := (Zfr.gi fc6 t_a0 (by decide)).trans ev1
    have F3 := Zfr.tr F0 fc6 (by decide)
    refine wb e2 ?_
    have := li_1
    have := i_add (a := v1) (b := 1) (by omega) (by omega)
    obtain ⟨c8, ec8, Wc8, fc8, gc8⟩ := pf_3_15 Wc6 t_a0 (x := (v1 + 1)) (rgi (by omega) (by omega))
    refine wb ec8 ?_
    have F4 := Zfr.tr F3 fc8 (by decide)
    unfold f_Text_endItem_32
    exact ⟨_, rfl, Wc8, F4⟩

abbrev M_Text_itemBegin : List (Nat × Nat) := []
set_option maxRecDepth 100000 in
set_option maxHeartbeats 400000 in
theorem p_Text_itemBegin {nf : Nat} (hn : 8589934592 ≤ nf) {G : List Nat} {c : Zc} (W : Zwt zty G c) {a0 : Nat} {a1 : Int32}  (t_a0 : G[a0]? = some 3) (pl_a1 : 0 ≤ a1.toInt) (pu_a1 : a1.toInt ≤ 7) : ∃ q, f_Text_itemBegin nf a0 a1 c = some q ∧ Zwt zty G q.2 ∧ Zfr G M_Text_itemBegin c q.2 ∧ 0 ≤ q.1.toInt ∧ q.1.toInt ≤ 202 := by
  have F0 : Zfr G M_Text_itemBegin c c := Zfr.rf
  unfold f_Text_itemBegin
  refine wi (fun hq1 => ?_) (fun hq1 => ?_)
  · have := li_0
    have hq1 := i_eq hq1
    obtain ⟨v4, ev4, lv4, uv4⟩ := gf_3_14 W t_a0
    refine wb ev4 ?_
    unfold f_Text_itemBegin_19
    exact ⟨_, rfl, W, F0, by (try dsimp only); omega, by (try dsimp only); omega⟩
  · have := li_0
    have hq1 := i_ne hq1
    obtain ⟨v2, ev2, tv2⟩ := gf_3_17 W t_a0
    refine wb ev2 ?_
    have := li_1
    have := i_sub (a := a1) (b := 1) (by omega) (by omega)
    obtain ⟨v3, ev3, lv3, uv3⟩ := ga_37 W tv2 (i := (a1 - 1)) (by omega) (by omega)
    refine wb ev3 ?_
    unfold f_Text_itemBegin_19
    exact ⟨_, rfl, W, F0, by (try dsimp only); omega, by (try dsimp only); omega⟩

abbrev M_Text_wayOfLeast : List (Nat × Nat) := []
set_option maxRecDepth 100000 in
set_option maxHeartbeats 400000 in
theorem p_Text_wayOfLeast {nf : Nat} (hn : 8589934592 ≤ nf) {G : List Nat} {c : Zc} (W : Zwt zty G c) {a0 : Nat} {a1 : Int32}  (t_a0 : G[a0]? = some 3) : ∃ q, f_Text_wayOfLeast nf a0 a1 c = some q ∧ Zwt zty G q.2 ∧ Zfr G M_Text_wayOfLeast c q.2 ∧ 0 ≤ q.1.toInt ∧ q.1.toInt ≤ 9 := by
  have F0 : Zfr G M_Text_wayOfLeast c c := Zfr.rf
  unfold f_Text_wayOfLeast
  unfold f_Text_wayOfLeast_2
  have := li_0
  have L1 : ∃ b, zlp (fun a : Nat × Int32 × Int32 × Zc => g_Text_wayOfLeast_2 nf a.1 a.2.1 a.2.2.1 a.2.2.2) nf (a0, a1, 0, c) = some b ∧ (fun b : ((Int32 × Zc) ⊕ (Zc)) => (match b with | .inl b => Zwt zty G b.2 ∧ Zfr G ([] : List (Nat × Nat)) c b.2 ∧ 0 ≤ b.1.toInt ∧ b.1.toInt ≤ 9 | .inr b => Zwt zty G b ∧ Zfr G ([] : List (Nat × Nat)) c b)) b := by
    refine wlp (fun a : Nat × Int32 × Int32 × Zc => a0 = a.1 ∧ a1 = a.2.1 ∧ Zwt zty G a.2.2.2 ∧ Zfr G ([] : List (Nat × Nat)) c a.2.2.2 ∧ 0 ≤ a.2.2.1.toInt ∧ a.2.2.1.toInt ≤ 10) (fun a => (10 - a.2.2.1.toInt).toNat) (fun b : ((Int32 × Zc) ⊕ (Zc)) => (match b with | .inl b => Zwt zty G b.2 ∧ Zfr G ([] : List (Nat × Nat)) c b.2 ∧ 0 ≤ b.1.toInt ∧ b.1.toInt ≤ 9 | .inr b => Zwt zty G b ∧ Zfr G ([] : List (Nat × Nat)) c b)) ?_ ?_ ?_
    · rintro ⟨x0_2, x1_2, x2_2, c_2⟩ hI
      try dsimp only at hI ⊢
      obtain ⟨rfl, rfl, WLc_2, FLc_2, j3, j4⟩ := hI
      unfold g_Text_wayOfLeast_2
      obtain ⟨v1, ev1, lv1, uv1⟩ := gf_3_3 WLc_2 t_a0
      refine wb ev1 ?_
      refine wi (fun hq5 => ?_) (fun hq5 => ?_)
      · have hq5 := i_le hq5
        exact lInr ⟨WLc_2, FLc_2⟩
      · have hq5 := i_nle hq5
        obtain ⟨v3, ev3, tv3⟩ := gf_3_4 WLc_2 t_a0
        refine wb ev3 ?_
        obtain ⟨v4, ev4, tv4⟩ := ga_29 WLc_2 tv3 (i := x2_2) (by omega) (by omega)
        refine wb ev4 ?_
        obtain ⟨v5, ev5, _⟩ := gf_2_2 WLc_2 tv4
        refine wb ev5 ?_
        refine wi (fun hq6 => ?_) (fun hq6 => ?_)
        · have := i_ge v5
          have := i_up v5
          have := i_ge a1
          have := i_up a1
          have hq6 := i_eq hq6
          exact lInr ⟨WLc_2, FLc_2, by (try dsimp only); omega, by (try dsimp only); omega⟩
        · have := i_ge v5
          have := i_up v5
          have := i_ge a1
          have := i_up a1
          have hq6 := i_ne hq6
          have := li_1
          have := i_add (a := x2_2) (b := 1) (by omega) (by omega)
          exact lInl ⟨rfl, rfl, WLc_2, FLc_2, by (try dsimp only); omega, by (try dsimp only); omega⟩ (by (try dsimp only); omega)
    · exact ⟨rfl, rfl, W, Zfr.rf, by (try dsimp only); omega, by (try dsimp only); omega⟩
    · (try dsimp only); omega
  obtain ⟨b, eb, hb⟩ := L1
  refine wb eb ?_
  clear eb
  rcases b with b | b
  · obtain ⟨z0_7, c_7⟩ := b
    try dsimp only at hb ⊢
    obtain ⟨WXc_7, FXc_7, j8, j9⟩ := hb
    have F10 := Zfr.tr F0 FXc_7 (by decide)
    exact ⟨_, rfl, WXc_7, F10, by (try dsimp only); omega, by (try dsimp only); omega⟩
  · obtain c_11 := b
    try dsimp only at hb ⊢
    obtain ⟨WXc_11, FXc_11⟩ := hb
    have F12 := Zfr.tr F0 FXc_11 (by decide)
    exact ⟨_, rfl, WXc_11, F12, by (try dsimp only); omega, by (try dsimp only); omega⟩

abbrev M_Text_work : List (Nat × Nat) := []
set_option maxRecDepth 100000 in
set_option maxHeartbeats 400000 in
theorem p_Text_work {nf : Nat} (hn : 8589934592 ≤ nf) {G : List Nat} {c : Zc} (W : Zwt zty G c) {a0 : Nat} {a1 : Int32}  (t_a0 : G[a0]? = some 3) : ∃ q, f_Text_work nf a0 a1 c = some q ∧ Zwt zty G q.2 ∧ Zfr G M_Text_work c q.2 := by
  have F0 : Zfr G M_Text_work c c := Zfr.rf
  unfold f_Text_work
  unfold f_Text_work_5
  have := li_0
  have L1 : ∃ b, zlp (fun a : Nat × Int32 × Int64 × Int32 × Zc => g_Text_work_5 nf a.1 a.2.1 a.2.2.1 a.2.2.2.1 a.2.2.2.2) nf (a0, a1, 1, 0, c) = some b ∧ (fun b : (Int64 × Zc) => Zwt zty G b.2 ∧ Zfr G ([] : List (Nat × Nat)) c b.2) b := by
    refine wlp (fun a : Nat × Int32 × Int64 × Int32 × Zc => a0 = a.1 ∧ a1 = a.2.1 ∧ Zwt zty G a.2.2.2.2 ∧ Zfr G ([] : List (Nat × Nat)) c a.2.2.2.2 ∧ 0 ≤ a.2.2.2.1.toInt ∧ a.2.2.2.1.toInt ≤ 2147483647) (fun a => (2147483647 - a.2.2.2.1.toInt).toNat) (fun b : (Int64 × Zc) => Zwt zty G b.2 ∧ Zfr G ([] : List (Nat × Nat)) c b.2) ?_ ?_ ?_
    · rintro ⟨x0_2, x1_2, x2_2, x4_2, c_2⟩ hI
      try dsimp only at hI ⊢
      obtain ⟨rfl, rfl, WLc_2, FLc_2, j3, j4⟩ := hI
      unfold g_Text_work_5
      obtain ⟨v1, ev1, _⟩ := gf_3_2 WLc_2 t_a0
      refine wb ev1 ?_
      refine wi (fun hq5 => ?_) (fun hq5 => ?_)
      · have := i_ge v1
        have := i_up v1
        have hq5 := i_le hq5
        exact lInr ⟨WLc_2, FLc_2⟩
      · have := i_ge v1
        have := i_up v1
        have hq5 := i_nle hq5
        have := li_1
        have := i_add (a := x4_2) (b := 1) (by omega) (by omega)
        exact lInl ⟨rfl, rfl, WLc_2, FLc_2, by (try dsimp only); omega, by (try dsimp only); omega⟩ (by (try dsimp only); omega)
    · exact ⟨rfl, rfl, W, Zfr.rf, by (try dsimp only); omega, by (try dsimp only); omega⟩
    · (try dsimp only); omega
  obtain ⟨b, eb, hb⟩ := L1
  refine wb eb ?_
  clear eb
  obtain ⟨z0_6, c_6⟩ := b
  try dsimp only at hb ⊢
  obtain ⟨WXc_6, FXc_6⟩ := hb
  have F7 := Zfr.tr F0 FXc_6 (by decide)
  exact ⟨_, rfl, WXc_6, F7⟩

abbrev M_Operators_begin : List (Nat × Nat) := [(5, 0), (5, 1), (5, 2), (5, 3), (5, 4)]
set_option maxRecDepth 100000 in
set_option maxHeartbeats 400000 in
theorem p_Operators_begin {nf : Nat} (hn : 8589934592 ≤ nf) {G : List Nat} {c : Zc} (W : Zwt zty G c) {a0 : Nat} {a1 : Nat}  (t_a0 : G[a0]? = some 5) (t_a1 : G[a1]? = some 3) : ∃ q, f_Operators_begin nf a0 a1 c = some q ∧ Zwt zty G q ∧ Zfr G M_Operators_begin c q := by
  have F0 : Zfr G M_Operators_begin c c := Zfr.rf
  unfold f_Operators_begin
  obtain ⟨c1, ec1, Wc1, fc1, gc1⟩ := pf_5_3 W t_a0 t_a1 (by decide)
  refine wb ec1 ?_
  have F1 := Zfr.tr F0 fc1 (by decide)
  obtain ⟨c2, ec2, Wc2, fc2, gc2⟩ := pf_5_0 Wc1 t_a0 (x := 0) (trivial)
  refine wb ec2 ?_
  have F2 := Zfr.tr F1 fc2 (by decide)
  obtain ⟨c3, ec3, Wc3, fc3, gc3⟩ := pf_5_1 Wc2 t_a0 (x := 0) (trivial)
  refine wb ec3 ?_
  have F3 := Zfr.tr F2 fc3 (by decide)
  obtain ⟨c4, ec4, Wc4, fc4, gc4⟩ := pf_5_2 Wc3 t_a0 (x := 0) (trivial)
  refine wb ec4 ?_
  have F4 := Zfr.tr F3 fc4 (by decide)
  have := li_0
  obtain ⟨c5, ec5, Wc5, fc5, gc5⟩ := pf_5_4 Wc4 t_a0 (x := 0) (rgi (by omega) (by omega))
  refine wb ec5 ?_
  have F5 := Zfr.tr F4 fc5 (by decide)
  exact ⟨_, rfl, Wc5, F5⟩

abbrev M_Operators_push : List (Nat × Nat) := [(5, 4), (43, 0), (44, 0), (45, 0)]
set_option maxRecDepth 100000 in
set_option maxHeartbeats 400000 in
theorem p_Operators_push {nf : Nat} (hn : 8589934592 ≤ nf) {G : List Nat} {c : Zc} (W : Zwt zty G c) {a0 : Nat} {a1 : Int32} {a2 : Int32}  (t_a0 : G[a0]? = some 5) (pk_0 : okOp a2) : ∃ q, f_Operators_push nf a0 a1 a2 c = some q ∧ Zwt zty G q ∧ Zfr G M_Operators_push c q ∧ Zot G q a0 := by
  have F0 : Zfr G M_Operators_push c c := Zfr.rf
  unfold f_Operators_push
  have pq_0 : a2.toInt = 0 ∨ (5 ≤ a2.toInt ∧ a2.toInt ≤ 31) := pk_0
  obtain ⟨v1, ev1, lv1, uv1⟩ := gf_5_4 W t_a0
  refine wb ev1 ?_
  refine wi (fun hq1 => ?_) (fun hq1 => ?_)
  · have := li_80
    have hq1 := i_le hq1
    unfold f_Operators_push_49
    exact ⟨_, rfl, W, F0, ⟨v1, ev1, by (try dsimp only); omega, by (try dsimp only); omega⟩⟩
  · have := li_80
    have hq1 := i_nle hq1
    obtain ⟨v3, ev3, tv3⟩ := gf_5_5 W t_a0
    refine wb ev3 ?_
    refine wb ev1 ?_
    obtain ⟨c5, ec5, Wc5, fc5, gc5⟩ := pa_43 W tv3 (i := v1) (by omega) (by omega) (x := a1) (trivial)
    refine wb ec5 ?_
    have e3 := (Zfr.gi fc5 t_a0 (by decide)).trans ev1
    have F4 := Zfr.tr F0 fc5 (by decide)
    obtain ⟨v6, ev6, tv6⟩ := gf_5_6 Wc5 t_a0
    refine wb ev6 ?_
    refine wb e3 ?_
    obtain ⟨c8, ec8, Wc8, fc8, gc8⟩ := pa_44 Wc5 tv6 (i := v1) (by omega) (by omega) (x := a2) (pk_0)
    refine wb ec8 ?_
    have e5 := (Zfr.gi fc8 t_a0 (by decide)).trans e3
    have F6 := Zfr.tr F4 fc8 (by decide)
    obtain ⟨v9, ev9, tv9⟩ := gf_5_7 Wc8 t_a0
    refine wb ev9 ?_
    refine wb e5 ?_
    obtain ⟨c11, ec11, Wc11, fc11, gc11⟩ := pa_45 Wc8 tv9 (i := v1) (by omega) (by omega) (x := (-1)) (trivial)
    refine wb ec11 ?_
    have e7 := (Zfr.gi fc11 t_a0 (by decide)).trans e5
    have F8 := Zfr.tr F6 fc11 (by decide)
    refine wb e7 ?_
    have := li_1
    have := i_add (a := v1) (b := 1) (by omega) (by omega)
    obtain ⟨c13, ec13, Wc13, fc13, gc13⟩ := pf_5_4 Wc11 t_a0 (x := (v1 + 1)) (rgi (by omega) (by omega))
    refine wb ec13 ?_
    have F9 := Zfr.tr F8 fc13 (by decide)
    unfold f_Operators_push_49
    exact ⟨_, rfl, Wc13, F9, ⟨(v1 + 1), gc13, by (try dsimp only); omega, by (try dsimp only); omega⟩⟩

abbrev M_Operators_unwind : List (Nat × Nat) := [(3, 12), (5, 0), (5, 4), (35, 0)]
set_option maxRecDepth 100000 in
set_option maxHeartbeats 400000 in
theorem p_Operators_unwind {nf : Nat} (hn : 8589934592 ≤ nf) {G : List Nat} {c : Zc} (W : Zwt zty G c) {a0 : Nat} {a1 : Int32}  (t_a0 : G[a0]? = some 5) : ∃ q, f_Operators_unwind nf a0 a1 c = some q ∧ Zwt zty G q ∧ Zfr G M_Operators_unwind c q := by
  have F0 : Zfr G M_Operators_unwind c c := Zfr.rf
  unfold f_Operators_unwind
  unfold f_Operators_unwind_2
  have := li_0
  have L1 : ∃ b, zlp (fun a : Nat × Int32 × Int32 × Zc => g_Operators_unwind_2 nf a.1 a.2.1 a.2.2.1 a.2.2.2) nf (a0, a1, 0, c) = some b ∧ (fun b : (Zc) => Zwt zty G b ∧ Zfr G ([(3, 12), (5, 0), (5, 4), (35, 0)] : List (Nat × Nat)) c b) b := by
    refine wlp (fun a : Nat × Int32 × Int32 × Zc => a0 = a.1 ∧ a1 = a.2.1 ∧ Zwt zty G a.2.2.2 ∧ Zfr G ([(3, 12), (5, 0), (5, 4), (35, 0)] : List (Nat × Nat)) c a.2.2.2 ∧ 0 ≤ a.2.2.1.toInt ∧ a.2.2.1.toInt ≤ 80) (fun a => (80 - a.2.2.1.toInt).toNat) (fun b : (Zc) => Zwt zty G b ∧ Zfr G ([(3, 12), (5, 0), (5, 4), (35, 0)] : List (Nat × Nat)) c b) ?_ ?_ ?_
    · rintro ⟨x0_2, x1_2, x2_2, c_2⟩ hI
      try dsimp only at hI ⊢
      obtain ⟨rfl, rfl, WLc_2, FLc_2, j3, j4⟩ := hI
      unfold g_Operators_unwind_2
      refine wi (fun hq5 => ?_) (fun hq5 => ?_)
      · have := li_80
        have hq5 := i_le hq5
        exact lInr ⟨WLc_2, FLc_2⟩
      · have := li_80
        have hq5 := i_nle hq5
        obtain ⟨v2, ev2, lv2, uv2⟩ := gf_5_4 WLc_2 t_a0
        refine wb ev2 ?_
        refine wi (fun hq6 => ?_) (fun hq6 => ?_)
        · have hq6 := i_le hq6
          exact lInr ⟨WLc_2, FLc_2⟩
        · have hq6 := i_nle hq6
          obtain ⟨v4, ev4, tv4⟩ := gf_5_5 WLc_2 t_a0
          refine wb ev4 ?_
          refine wb ev2 ?_
          have := li_1
          have := i_sub (a := v2) (b := 1) (by omega) (by omega)
          obtain ⟨v6, ev6, _⟩ := ga_43 WLc_2 tv4 (i := (v2 - 1)) (by omega) (by omega)
          refine wb ev6 ?_
          refine wi (fun hq7 => ?_) (fun hq7 => ?_)
          · have := i_ge v6
            have := i_up v6
            have := i_ge a1
            have := i_up a1
            have hq7 := i_lt hq7
            exact lInr ⟨WLc_2, FLc_2⟩
          · have := i_ge v6
            have := i_up v6
            have := i_ge a1
            have := i_up a1
            have hq7 := i_nlt hq7
            refine wb ev2 ?_
            obtain ⟨c9, ec9, Wc9, fc9, gc9⟩ := pf_5_4 WLc_2 t_a0 (x := (v2 - 1)) (rgi (by omega) (by omega))
            refine wb ec9 ?_
            have e8 := (Zfr.gr fc9 t_a0 (by decide)).trans ev4
            have e9 := (Zfr.ai fc9 tv4 (by decide)).trans ev6
            have F10 := Zfr.tr FLc_2 fc9 (by decide)
            obtain ⟨v10, ev10, tv10⟩ := gf_5_7 Wc9 t_a0
            refine wb ev10 ?_
            refine wb gc9 ?_
            obtain ⟨v12, ev12, _⟩ := ga_45 Wc9 tv10 (i := (v2 - 1)) (by omega) (by omega)
            refine wb ev12 ?_
            refine wi (fun hq11 => ?_) (fun hq11 => ?_)
            · have := li_m1
              have := i_ge v12
              have := i_up v12
              have hq11 := i_eq hq11
              obtain ⟨v14, ev14, tv14⟩ := gf_5_3 Wc9 t_a0
              refine wb ev14 ?_
              obtain ⟨v15, ev15, tv15⟩ := gf_5_6 Wc9 t_a0
              refine wb ev15 ?_
              refine wb gc9 ?_
              obtain ⟨v17, ev17, pv17⟩ := ga_44 Wc9 tv15 (i := (v2 - 1)) (by omega) (by omega)
              have pv17 : v17.toInt = 0 ∨ (5 ≤ v17.toInt ∧ v17.toInt ≤ 31) := pv17
              refine wb ev17 ?_
              obtain ⟨w19, ew19⟩ := go_3 Wc9 tv14
              refine wb ew19 ?_
              have := li_32
              have := i_mulr (a := 0) (b := 32) (n := 32) li_32 (by omega) (by omega)
              have := i_add (a := v17) (b := (0 * 32)) (by omega) (by omega)
              obtain ⟨q18, eq18, Wq18, fq18⟩ := p_Text_emit hn Wc9 (a1 := v17) (a2 := 0) tv14 (okCi (by omega) (by omega) (by omega) (by omega) (by omega) (by omega))
              refine wb eq18 ?_
              have e12 := (Zfr.gr fq18 t_a0 (by decide)).trans e8
              have e13 := (Zfr.ai fq18 tv4 (by decide)).trans e9
              have e14 := (Zfr.gi fq18 t_a0 (by decide)).trans gc9
              have e15 := (Zfr.ai fq18 tv10 (by decide)).trans ev12
              have e16 := (Zfr.ai fq18 tv15 (by decide)).trans ev17
              have F17 := Zfr.tr F10 fq18 (by decide)
              unfold f_Operators_unwind_106
              refine wb e12 ?_
              refine wb e14 ?_
              refine wb e13 ?_
              refine wi (fun hq18 => ?_) (fun hq18 => ?_)
              · have := li_3
                have hq18 := i_eq hq18
                unfold f_Operators_unwind_133
                obtain ⟨v24, ev24, _⟩ := gf_5_0 Wq18 t_a0
                refine wb ev24 ?_
                obtain ⟨c25, ec25, Wc25, fc25, gc25⟩ := pf_5_0 Wq18 t_a0 (x := (v24 - 1)) (trivial)
                refine wb ec25 ?_
                have F19 := Zfr.tr F17 fc25 (by decide)
                unfold f_Operators_unwind_143
                have := i_add (a := x2_2) (b := 1) (by omega) (by omega)
                exact lInl ⟨rfl, rfl, Wc25, F19, by (try dsimp only); omega, by (try dsimp only); omega⟩ (by (try dsimp only); omega)
              · have := li_3
                have hq18 := i_ne hq18
                refine wb e12 ?_
                refine wb e14 ?_
                refine wb e13 ?_
                refine wi (fun hq20 => ?_) (fun hq20 => ?_)
                · have := li_7
                  have hq20 := i_eq hq20
                  unfold f_Operators_unwind_133
                  obtain ⟨v24, ev24, _⟩ := gf_5_0 Wq18 t_a0
                  refine wb ev24 ?_
                  obtain ⟨c25, ec25, Wc25, fc25, gc25⟩ := pf_5_0 Wq18 t_a0 (x := (v24 - 1)) (trivial)
                  refine wb ec25 ?_
                  have F21 := Zfr.tr F17 fc25 (by decide)
                  unfold f_Operators_unwind_143
                  have := i_add (a := x2_2) (b := 1) (by omega) (by omega)
                  exact lInl ⟨rfl, rfl, Wc25, F21, by (try dsimp only); omega, by (try dsimp only); omega⟩ (by (try dsimp only); omega)
                · have := li_7
                  have hq20 := i_ne hq20
                  unfold f_Operators_unwind_143
                  have := i_add (a := x2_2) (b := 1) (by omega) (by omega)
                  exact lInl ⟨rfl, rfl, Wq18, F17, by (try dsimp only); omega, by (try dsimp only); omega⟩ (by (try dsimp only); omega)
            · have := li_m1
              have := i_ge v12
              have := i_up v12
              have hq11 := i_ne hq11
              obtain ⟨v30, ev30, tv30⟩ := gf_5_3 Wc9 t_a0
              refine wb ev30 ?_
              refine wb ev10 ?_
              refine wb gc9 ?_
              refine wb ev12 ?_
              obtain ⟨v34, ev34, tv34⟩ := gf_5_6 Wc9 t_a0
              refine wb ev34 ?_
              refine wb gc9 ?_
              obtain ⟨v36, ev36, pv36⟩ := ga_44 Wc9 tv34 (i := (v2 - 1)) (by omega) (by omega)
              have pv36 : v36.toInt = 0 ∨ (5 ≤ v36.toInt ∧ v36.toInt ≤ 31) := pv36
              refine wb ev36 ?_
              refine wb ev30 ?_
              obtain ⟨v38, ev38, lv38, uv38⟩ := gf_3_12 Wc9 tv30
              refine wb ev38 ?_
              obtain ⟨w40, ew40⟩ := go_3 Wc9 tv30
              refine wb ew40 ?_
              have := li_32
              have := i_mulr (a := v38) (b := 32) (n := 32) li_32 (by omega) (by omega)
              have := i_add (a := v36) (b := (v38 * 32)) (by omega) (by omega)
              obtain ⟨q39, eq39, Wq39, fq39⟩ := p_Text_change hn Wc9 (a1 := v12) (a2 := v36) (a3 := v38) tv30 (okCi (by omega) (by omega) (by omega) (by omega) (by omega) (by omega))
              refine wb eq39 ?_
              have e22 := (Zfr.gr fq39 t_a0 (by decide)).trans e8
              have e23 := (Zfr.ai fq39 tv4 (by decide)).trans e9
              have e24 := (Zfr.gi fq39 t_a0 (by decide)).trans gc9
              have e25 := (Zfr.ai fq39 tv10 (by decide)).trans ev12
              have e26 := (Zfr.ai fq39 tv34 (by decide)).trans ev36
              have F27 := Zfr.tr F10 fq39 (by decide)
              unfold f_Operators_unwind_106
              refine wb e22 ?_
              refine wb e24 ?_
              refine wb e23 ?_
              refine wi (fun hq28 => ?_) (fun hq28 => ?_)
              · have := li_3
                have hq28 := i_eq hq28
                unfold f_Operators_unwind_133
                obtain ⟨v24, ev24, _⟩ := gf_5_0 Wq39 t_a0
                refine wb ev24 ?_
                obtain ⟨c25, ec25, Wc25, fc25, gc25⟩ := pf_5_0 Wq39 t_a0 (x := (v24 - 1)) (trivial)
                refine wb ec25 ?_
                have F29 := Zfr.tr F27 fc25 (by decide)
                unfold f_Operators_unwind_143
                have := i_add (a := x2_2) (b := 1) (by omega) (by omega)
                exact lInl ⟨rfl, rfl, Wc25, F29, by (try dsimp only); omega, by (try dsimp only); omega⟩ (by (try dsimp only); omega)
              · have := li_3
                have hq28 := i_ne hq28
                refine wb e22 ?_
                refine wb e24 ?_
                refine wb e23 ?_
                refine wi (fun hq30 => ?_) (fun hq30 => ?_)
                · have := li_7
                  have hq30 := i_eq hq30
                  unfold f_Operators_unwind_133
                  obtain ⟨v24, ev24, _⟩ := gf_5_0 Wq39 t_a0
                  refine wb ev24 ?_
                  obtain ⟨c25, ec25, Wc25, fc25, gc25⟩ := pf_5_0 Wq39 t_a0 (x := (v24 - 1)) (trivial)
                  refine wb ec25 ?_
                  have F31 := Zfr.tr F27 fc25 (by decide)
                  unfold f_Operators_unwind_143
                  have := i_add (a := x2_2) (b := 1) (by omega) (by omega)
                  exact lInl ⟨rfl, rfl, Wc25, F31, by (try dsimp only); omega, by (try dsimp only); omega⟩ (by (try dsimp only); omega)
                · have := li_7
                  have hq30 := i_ne hq30
                  unfold f_Operators_unwind_143
                  have := i_add (a := x2_2) (b := 1) (by omega) (by omega)
                  exact lInl ⟨rfl, rfl, Wq39, F27, by (try dsimp only); omega, by (try dsimp only); omega⟩ (by (try dsimp only); omega)
    · exact ⟨rfl, rfl, W, Zfr.rf, by (try dsimp only); omega, by (try dsimp only); omega⟩
    · (try dsimp only); omega
  obtain ⟨b, eb, hb⟩ := L1
  refine wb eb ?_
  clear eb
  obtain c_32 := b
  try dsimp only at hb ⊢
  obtain ⟨WXc_32, FXc_32⟩ := hb
  have F33 := Zfr.tr F0 FXc_32 (by decide)
  unfold f_Operators_unwind_149
  exact ⟨_, rfl, WXc_32, F33⟩

end ZzT
