section ZzT

def Zp4 (G : List Nat) (c : Zc) (k : Nat) (tp : Int32) : Prop := ∃ n : Int32, zgi c k 11 10 = some n ∧ n.toInt = tp.toInt + 4
def Zpf (G : List Nat) (c : Zc) (k : Nat) (r : Int32) (tp : Int32) : Prop := ∃ n : Int32, zgi c k 11 10 = some n ∧ ((tp.toInt + 20 ≤ 1500 ∧ r.toInt = tp.toInt + 20 ∧ n.toInt = tp.toInt + 20) ∨ (1500 < tp.toInt + 20 ∧ r.toInt = -3 ∧ n.toInt = tp.toInt))
def Zpc (G : List Nat) (c : Zc) (k : Nat) (r : Int32) (tp : Int32) (a : Int32) : Prop := ∃ n : Int32, zgi c k 11 10 = some n ∧ ((0 ≤ a.toInt ∧ a.toInt ≤ tp.toInt ∧ r.toInt = tp.toInt - a.toInt ∧ n.toInt = tp.toInt - a.toInt) ∨ ((a.toInt < 0 ∨ tp.toInt < a.toInt) ∧ r.toInt = -1 ∧ n.toInt = tp.toInt))
def Zpq (G : List Nat) (c : Zc) (k : Nat) (tp : Int32) (a : Int32) : Prop := ∃ n : Int32, zgi c k 11 10 = some n ∧ ((0 ≤ a.toInt ∧ a.toInt < 4 ∧ n.toInt = 0) ∨ (¬ (0 ≤ a.toInt ∧ a.toInt < 4) ∧ n.toInt = tp.toInt))
def Zpz (G : List Nat) (c : Zc) (k : Nat) : Prop := ∃ n : Int32, zgi c k 11 10 = some n ∧ n.toInt = 0
abbrev M_PQ_append__t : List (Nat × Nat) := [(14, 10), (42, 0)]
set_option maxRecDepth 100000 in
set_option maxHeartbeats 400000 in
theorem p_PQ_append__t {nf : Nat} (hn : 8589934592 ≤ nf) {G : List Nat} {c : Zc} (W : Zwt zty G c) {a0 : Nat} {a1 : Int32} {tp : Int32} (t_a0 : G[a0]? = some 14) (pl_tp : 0 ≤ tp.toInt) (pu_tp : tp.toInt ≤ 1496) (eh_tp : zgi c a0 11 10 = some tp) : ∃ q, f_PQ_append nf a0 a1 c = some q ∧ Zwt zty G q ∧ Zfr G M_PQ_append__t c q ∧ Zp4 G q a0 tp := by
  have F0 : Zfr G M_PQ_append__t c c := Zfr.rf
  unfold f_PQ_append
  unfold f_PQ_append_3
  have := li_24
  have L1 : ∃ b, zlp (fun a : Nat × Int32 × Int32 × Zc => g_PQ_append_3 nf a.1 a.2.1 a.2.2.1 a.2.2.2) nf (a0, a1, 24, c) = some b ∧ (fun b : (Zc) => Zwt zty G b ∧ Zfr G ([(14, 10), (42, 0)] : List (Nat × Nat)) c b ∧ ∃ nH, zgi b a0 11 10 = some nH ∧ nH.toInt = tp.toInt + 4) b := by
    refine wlp (fun a : Nat × Int32 × Int32 × Zc => a0 = a.1 ∧ a1 = a.2.1 ∧ Zwt zty G a.2.2.2 ∧ Zfr G ([(14, 10), (42, 0)] : List (Nat × Nat)) c a.2.2.2 ∧ (-8) ≤ a.2.2.1.toInt ∧ a.2.2.1.toInt ≤ 24 ∧ ∃ nH, zgi a.2.2.2 a0 11 10 = some nH ∧ 8 * (nH.toInt - tp.toInt) + a.2.2.1.toInt = 24) (fun a => (a.2.2.1.toInt + 8).toNat) (fun b : (Zc) => Zwt zty G b ∧ Zfr G ([(14, 10), (42, 0)] : List (Nat × Nat)) c b ∧ ∃ nH, zgi b a0 11 10 = some nH ∧ nH.toInt = tp.toInt + 4) ?_ ?_ ?_
    · rintro ⟨x0_2, x1_2, x2_2, c_2⟩ hI
      try dsimp only at hI ⊢
      obtain ⟨rfl, rfl, WLc_2, FLc_2, j3, j4, n_2, ehn_2, j5⟩ := hI
      unfold g_PQ_append_3
      refine wi (fun hq6 => ?_) (fun hq6 => ?_)
      · have := li_0
        have hq6 := i_lt hq6
        exact lInr ⟨WLc_2, FLc_2, n_2, ehn_2, by (try dsimp only); omega⟩
      · have := li_0
        have hq6 := i_nlt hq6
        refine wb ehn_2 ?_
        refine wi (fun hq8 => ?_) (fun hq8 => ?_)
        · have := li_1500
          have hq8 := i_le hq8
          exact lInr ⟨WLc_2, FLc_2, n_2, ehn_2, by (try dsimp only); omega⟩
        · have := li_1500
          have hq8 := i_nle hq8
          obtain ⟨v4, ev4, tv4⟩ := gf_14_0 WLc_2 t_a0
          refine wb ev4 ?_
          refine wb ehn_2 ?_
          obtain ⟨c6, ec6, Wc6, fc6, gc6⟩ := pa_42 WLc_2 tv4 (i := n_2) (by omega) (by omega) (x := (vp_nar .byte (Int8.toInt32 (Int32.toInt8 (a1 >>> (x2_2 &&& 31)))))) (trivial)
          refine wb ec6 ?_
          have e10 := (Zfr.gi fc6 t_a0 (by decide)).trans ehn_2
          have F11 := Zfr.tr FLc_2 fc6 (by decide)
          refine wb e10 ?_
          have := li_1
          have := i_add (a := n_2) (b := 1) (by omega) (by omega)
          obtain ⟨c8, ec8, Wc8, fc8, gc8⟩ := pf_14_10 Wc6 t_a0 (x := (n_2 + 1)) (rgi (by omega) (by omega))
          refine wb ec8 ?_
          have F12 := Zfr.tr F11 fc8 (by decide)
          have := li_m8
          have hg13 := i_add (a := x2_2) (b := (-8)) (by omega) (by omega)
          generalize (x2_2 + (-8)) = y14 at hg13 ⊢
          exact lInl ⟨rfl, rfl, Wc8, F12, by (try dsimp only); omega, by (try dsimp only); omega, (n_2 + 1), gc8, by (try dsimp only); omega⟩ (by (try dsimp only); omega)
    · exact ⟨rfl, rfl, W, Zfr.rf, by (try dsimp only); omega, by (try dsimp only); omega, tp, eh_tp, by (try dsimp only); omega⟩
    · (try dsimp only); omega
  obtain ⟨b, eb, hb⟩ := L1
  refine wb eb ?_
  clear eb
  obtain c_17 := b
  try dsimp only at hb ⊢
  obtain ⟨WXc_17, FXc_17, nXc_17, exnc_17, j18⟩ := hb
  have F19 := Zfr.tr F0 FXc_17 (by decide)
  unfold f_PQ_append_46
  obtain ⟨xq, xe, lw_20, uw_20⟩ := gf_14_10 WXc_17 t_a0
  rw [exnc_17] at xe; cases xe
  exact ⟨_, rfl, WXc_17, F19, ⟨nXc_17, exnc_17, by (try dsimp only); omega⟩⟩

abbrev M_PQ_feed__t : List (Nat × Nat) := [(14, 10), (42, 0)]
set_option maxRecDepth 100000 in
set_option maxHeartbeats 400000 in
theorem p_PQ_feed__t {nf : Nat} (hn : 8589934592 ≤ nf) {G : List Nat} {c : Zc} (W : Zwt zty G c) {a0 : Nat} {a1 : Int32} {a2 : Int32} {a3 : Int32} {a4 : Int32} {a5 : Int32} {tp : Int32} (t_a0 : G[a0]? = some 14) (pl_tp : 0 ≤ tp.toInt) (pu_tp : tp.toInt ≤ 1500) (eh_tp : zgi c a0 11 10 = some tp) : ∃ q, f_PQ_feed nf a0 a1 a2 a3 a4 a5 c = some q ∧ Zwt zty G q.2 ∧ Zfr G M_PQ_feed__t c q.2 ∧ Zpf G q.2 a0 q.1 tp := by
  have F0 : Zfr G M_PQ_feed__t c c := Zfr.rf
  unfold f_PQ_feed
  refine wb eh_tp ?_
  refine wi (fun hq1 => ?_) (fun hq1 => ?_)
  · have := li_20
    have := i_add (a := tp) (b := 20) (by omega) (by omega)
    have := li_1500
    have hq1 := i_le hq1
    obtain ⟨w4, ew4⟩ := go_14 W t_a0
    refine wb ew4 ?_
    obtain ⟨q3, eq3, Wq3, fq3, pbZp4q3⟩ := p_PQ_append__t hn W (a1 := a1) t_a0 (by omega) (by omega) eh_tp
    refine wb eq3 ?_
    have F3 := Zfr.tr F0 fq3 (by decide)
    obtain ⟨bnq3, h0Zp4q3, r0Zp4q3⟩ := pbZp4q3
    obtain ⟨w6, ew6⟩ := go_14 Wq3 t_a0
    refine wb ew6 ?_
    obtain ⟨q5, eq5, Wq5, fq5, pbZp4q5⟩ := p_PQ_append__t hn Wq3 (a1 := a2) t_a0 (by omega) (by omega) h0Zp4q3
    refine wb eq5 ?_
    have F5 := Zfr.tr F3 fq5 (by decide)
    obtain ⟨bnq5, h0Zp4q5, r0Zp4q5⟩ := pbZp4q5
    obtain ⟨w8, ew8⟩ := go_14 Wq5 t_a0
    refine wb ew8 ?_
    obtain ⟨q7, eq7, Wq7, fq7, pbZp4q7⟩ := p_PQ_append__t hn Wq5 (a1 := a3) t_a0 (by omega) (by omega) h0Zp4q5
    refine wb eq7 ?_
    have F7 := Zfr.tr F5 fq7 (by decide)
    obtain ⟨bnq7, h0Zp4q7, r0Zp4q7⟩ := pbZp4q7
    obtain ⟨w10, ew10⟩ := go_14 Wq7 t_a0
    refine wb ew10 ?_
    obtain ⟨q9, eq9, Wq9, fq9, pbZp4q9⟩ := p_PQ_append__t hn Wq7 (a1 := a4) t_a0 (by omega) (by omega) h0Zp4q7
    refine wb eq9 ?_
    have F9 := Zfr.tr F7 fq9 (by decide)
    obtain ⟨bnq9, h0Zp4q9, r0Zp4q9⟩ := pbZp4q9
    obtain ⟨w12, ew12⟩ := go_14 Wq9 t_a0
    refine wb ew12 ?_
    obtain ⟨q11, eq11, Wq11, fq11, pbZp4q11⟩ := p_PQ_append__t hn Wq9 (a1 := a5) t_a0 (by omega) (by omega) h0Zp4q9
    refine wb eq11 ?_
    have F11 := Zfr.tr F9 fq11 (by decide)
    obtain ⟨bnq11, h0Zp4q11, r0Zp4q11⟩ := pbZp4q11
    refine wb h0Zp4q11 ?_
    exact ⟨_, rfl, Wq11, F11, ⟨bnq11, h0Zp4q11, by (try dsimp only); omega⟩⟩
  · have := li_20
    have := i_add (a := tp) (b := 20) (by omega) (by omega)
    have := li_1500
    have hq1 := i_nle hq1
    have := li_m3
    exact ⟨_, rfl, W, F0, ⟨tp, eh_tp, by (try dsimp only); omega⟩⟩

abbrev M_PQ_cut__t : List (Nat × Nat) := [(14, 10)]
set_option maxRecDepth 100000 in
set_option maxHeartbeats 400000 in
theorem p_PQ_cut__t {nf : Nat} (hn : 8589934592 ≤ nf) {G : List Nat} {c : Zc} (W : Zwt zty G c) {a0 : Nat} {a1 : Int32} {tp : Int32} (t_a0 : G[a0]? = some 14) (pl_tp : 0 ≤ tp.toInt) (pu_tp : tp.toInt ≤ 1500) (eh_tp : zgi c a0 11 10 = some tp) : ∃ q, f_PQ_cut nf a0 a1 c = some q ∧ Zwt zty G q.2 ∧ Zfr G M_PQ_cut__t c q.2 ∧ Zpc G q.2 a0 q.1 tp a1 := by
  have F0 : Zfr G M_PQ_cut__t c c := Zfr.rf
  unfold f_PQ_cut
  refine wi (fun hq1 => ?_) (fun hq1 => ?_)
  · have := li_0
    have := i_ge a1
    have := i_up a1
    have hq1 := i_lt hq1
    unfold f_PQ_cut_12
    have := li_m1
    exact ⟨_, rfl, W, F0, ⟨tp, eh_tp, by (try dsimp only); omega⟩⟩
  · have := li_0
    have := i_ge a1
    have := i_up a1
    have hq1 := i_nlt hq1
    refine wb eh_tp ?_
    refine wi (fun hq3 => ?_) (fun hq3 => ?_)
    · have hq3 := i_le hq3
      refine wb eh_tp ?_
      have := i_sub (a := tp) (b := a1) (by omega) (by omega)
      obtain ⟨c5, ec5, Wc5, fc5, gc5⟩ := pf_14_10 W t_a0 (x := (tp - a1)) (rgi (by omega) (by omega))
      refine wb ec5 ?_
      have F4 := Zfr.tr F0 fc5 (by decide)
      refine wb gc5 ?_
      exact ⟨_, rfl, Wc5, F4, ⟨(tp - a1), gc5, by (try dsimp only); omega⟩⟩
    · have hq3 := i_nle hq3
      unfold f_PQ_cut_12
      have := li_m1
      exact ⟨_, rfl, W, F0, ⟨tp, eh_tp, by (try dsimp only); omega⟩⟩

abbrev M_PQ_question__t : List (Nat × Nat) := [(2, 0), (2, 1), (2, 2), (2, 3), (2, 4), (2, 5), (2, 8), (2, 9), (2, 10), (2, 17), (3, 0), (3, 1), (3, 2), (3, 3), (3, 5), (3, 8), (3, 12), (3, 14), (3, 15), (3, 18), (3, 19), (3, 20), (4, 3), (4, 4), (4, 5), (5, 0), (5, 1), (5, 2), (5, 3), (5, 4), (6, 0), (6, 4), (6, 5), (6, 6), (6, 7), (6, 8), (6, 9), (6, 10), (6, 11), (6, 12), (6, 13), (6, 14), (6, 15), (6, 16), (6, 17), (6, 18), (6, 19), (14, 2), (14, 10), (22, 0), (23, 0), (24, 0), (25, 0), (30, 0), (32, 0), (33, 0), (34, 0), (35, 0), (36, 0), (37, 0), (38, 0), (39, 0), (40, 0), (43, 0), (44, 0), (45, 0), (46, 0), (60, 0), (62, 0)]
set_option maxRecDepth 100000 in
set_option maxHeartbeats 400000 in
theorem p_PQ_question__t {nf : Nat} (hn : 8589934592 ≤ nf) {G : List Nat} {c : Zc} (W : Zwt zty G c) {a0 : Nat} {a1 : Int32} {tp : Int32} (t_a0 : G[a0]? = some 14) (pl_tp : 0 ≤ tp.toInt) (pu_tp : tp.toInt ≤ 1500) (eh_tp : zgi c a0 11 10 = some tp) : ∃ q, f_PQ_question nf a0 a1 c = some q ∧ Zwt zty G q.2 ∧ Zfr G M_PQ_question__t c q.2 ∧ Zpq G q.2 a0 tp a1 := by
  have F0 : Zfr G M_PQ_question__t c c := Zfr.rf
  unfold f_PQ_question
  refine wi (fun hq1 => ?_) (fun hq1 => ?_)
  · have := li_0
    have := i_ge a1
    have := i_up a1
    have hq1 := i_lt hq1
    unfold f_PQ_question_9
    obtain ⟨v2, ev2, tv2⟩ := gf_14_3 W t_a0
    refine wb ev2 ?_
    obtain ⟨c3, ec3, Wc3, fc3, gc3⟩ := pf_6_0 W tv2 (x := (-2)) (trivial)
    refine wb ec3 ?_
    have e2 := (Zfr.gi fc3 t_a0 (by decide)).trans eh_tp
    have F3 := Zfr.tr F0 fc3 (by decide)
    have := li_m1
    exact ⟨_, rfl, Wc3, F3, ⟨tp, e2, by (try dsimp only); omega⟩⟩
  · have := li_0
    have := i_ge a1
    have := i_up a1
    have hq1 := i_nlt hq1
    refine wi (fun hq5 => ?_) (fun hq5 => ?_)
    · have := li_4
      have hq5 := i_lt hq5
      obtain ⟨v5, ev5, tv5⟩ := gf_14_3 W t_a0
      refine wb ev5 ?_
      obtain ⟨v6, ev6, tv6⟩ := gf_14_0 W t_a0
      refine wb ev6 ?_
      refine wb eh_tp ?_
      obtain ⟨v8, ev8, tv8⟩ := gf_14_2 W t_a0
      refine wb ev8 ?_
      obtain ⟨w10, ew10⟩ := go_6 W tv5
      refine wb ew10 ?_
      obtain ⟨q9, eq9, Wq9, fq9⟩ := p_Reader_read hn W (a2 := tp) (a4 := 0) tv5 tv6 tv8 (by omega) (by omega) (by omega) (by omega)
      refine wb eq9 ?_
      have e6 := (Zfr.gi fq9 t_a0 (by decide)).trans eh_tp
      have e7 := (Zfr.gr fq9 t_a0 (by decide)).trans ev8
      have F8 := Zfr.tr F0 fq9 (by decide)
      obtain ⟨c11, ec11, Wc11, fc11, gc11⟩ := pf_14_10 Wq9 t_a0 (x := 0) (rgi (by omega) (by omega))
      refine wb ec11 ?_
      have e9 := (Zfr.gr fc11 t_a0 (by decide)).trans e7
      have F10 := Zfr.tr F8 fc11 (by decide)
      refine wi (fun hq11 => ?_) (fun hq11 => ?_)
      · have := i_ge q9.1
        have := i_up q9.1
        have hq11 := i_eq hq11
        obtain ⟨v13, ev13, tv13⟩ := gf_14_7 Wc11 t_a0
        refine wb ev13 ?_
        obtain ⟨v14, ev14, tv14⟩ := ga_60 Wc11 tv13 (i := a1) (by omega) (by omega)
        refine wb ev14 ?_
        refine wb ev13 ?_
        refine wb e9 ?_
        obtain ⟨c17, ec17, Wc17, fc17, gc17⟩ := pa_60 Wc11 tv13 (i := a1) (by omega) (by omega) tv8
        refine wb ec17 ?_
        have e12 := (Zfr.gi fc17 t_a0 (by decide)).trans gc11
        have e13 := (Zfr.gr fc17 t_a0 (by decide)).trans ev13
        have F14 := Zfr.tr F10 fc17 (by decide)
        obtain ⟨c18, ec18, Wc18, fc18, gc18⟩ := pf_14_2 Wc17 t_a0 tv14 (by decide)
        refine wb ec18 ?_
        have e15 := (Zfr.gi fc18 t_a0 (by decide)).trans e12
        have e16 := (Zfr.gr fc18 t_a0 (by decide)).trans e13
        have e17 := (Zfr.ar fc18 tv13 (by decide)).trans gc17
        have F18 := Zfr.tr F14 fc18 (by decide)
        obtain ⟨v19, ev19, tv19⟩ := gf_14_9 Wc18 t_a0
        refine wb ev19 ?_
        obtain ⟨c20, ec20, Wc20, fc20, gc20⟩ := pa_62 Wc18 tv19 (i := a1) (by omega) (by omega) (x := (-1)) (trivial)
        refine wb ec20 ?_
        have e19 := (Zfr.gi fc20 t_a0 (by decide)).trans e15
        have e20 := (Zfr.gr fc20 t_a0 (by decide)).trans e16
        have e21 := (Zfr.ar fc20 tv13 (by decide)).trans e17
        have F22 := Zfr.tr F18 fc20 (by decide)
        refine wb e20 ?_
        refine wb e21 ?_
        obtain ⟨v23, ev23, lv23, uv23⟩ := gf_3_15 Wc20 tv8
        refine wb ev23 ?_
        exact ⟨_, rfl, Wc20, F22, ⟨(0 : Int32), e19, by (try dsimp only); omega⟩⟩
      · have := i_ge q9.1
        have := i_up q9.1
        have hq11 := i_ne hq11
        have := li_m10
        exact ⟨_, rfl, Wc11, F10, ⟨(0 : Int32), gc11, by (try dsimp only); omega⟩⟩
    · have := li_4
      have hq5 := i_nlt hq5
      unfold f_PQ_question_9
      obtain ⟨v2, ev2, tv2⟩ := gf_14_3 W t_a0
      refine wb ev2 ?_
      obtain ⟨c3, ec3, Wc3, fc3, gc3⟩ := pf_6_0 W tv2 (x := (-2)) (trivial)
      refine wb ec3 ?_
      have e25 := (Zfr.gi fc3 t_a0 (by decide)).trans eh_tp
      have F26 := Zfr.tr F0 fc3 (by decide)
      have := li_m1
      exact ⟨_, rfl, Wc3, F26, ⟨tp, e25, by (try dsimp only); omega⟩⟩

abbrev M_PQ_rule__t : List (Nat × Nat) := [(1, 9), (2, 0), (2, 1), (2, 2), (2, 3), (2, 4), (2, 5), (2, 8), (2, 9), (2, 10), (2, 17), (3, 0), (3, 1), (3, 2), (3, 3), (3, 5), (3, 8), (3, 12), (3, 14), (3, 15), (3, 18), (3, 19), (3, 20), (4, 3), (4, 4), (4, 5), (5, 0), (5, 1), (5, 2), (5, 3), (5, 4), (6, 0), (6, 4), (6, 5), (6, 6), (6, 7), (6, 8), (6, 9), (6, 10), (6, 11), (6, 12), (6, 13), (6, 14), (6, 15), (6, 16), (6, 17), (6, 18), (6, 19), (14, 2), (14, 10), (22, 0), (23, 0), (24, 0), (25, 0), (30, 0), (32, 0), (33, 0), (34, 0), (35, 0), (36, 0), (37, 0), (38, 0), (39, 0), (40, 0), (43, 0), (44, 0), (45, 0), (46, 0), (55, 0)]
set_option maxRecDepth 100000 in
set_option maxHeartbeats 400000 in
theorem p_PQ_rule__t {nf : Nat} (hn : 8589934592 ≤ nf) {G : List Nat} {c : Zc} (W : Zwt zty G c) {a0 : Nat} {tp : Int32} (t_a0 : G[a0]? = some 14) (pl_tp : 0 ≤ tp.toInt) (pu_tp : tp.toInt ≤ 1500) (eh_tp : zgi c a0 11 10 = some tp) : ∃ q, f_PQ_rule nf a0 c = some q ∧ Zwt zty G q.2 ∧ Zfr G M_PQ_rule__t c q.2 ∧ Zpz G q.2 a0 := by
  have F0 : Zfr G M_PQ_rule__t c c := Zfr.rf
  unfold f_PQ_rule
  obtain ⟨v1, ev1, tv1⟩ := gf_14_3 W t_a0
  refine wb ev1 ?_
  obtain ⟨v2, ev2, tv2⟩ := gf_14_0 W t_a0
  refine wb ev2 ?_
  refine wb eh_tp ?_
  obtain ⟨v4, ev4, tv4⟩ := gf_14_2 W t_a0
  refine wb ev4 ?_
  obtain ⟨w6, ew6⟩ := go_6 W tv1
  refine wb ew6 ?_
  have := li_1
  obtain ⟨q5, eq5, Wq5, fq5⟩ := p_Reader_read hn W (a2 := tp) (a4 := 1) tv1 tv2 tv4 (by omega) (by omega) (by omega) (by omega)
  refine wb eq5 ?_
  have e1 := (Zfr.gi fq5 t_a0 (by decide)).trans eh_tp
  have e2 := (Zfr.gr fq5 t_a0 (by decide)).trans ev4
  have F3 := Zfr.tr F0 fq5 (by decide)
  have := li_0
  obtain ⟨c7, ec7, Wc7, fc7, gc7⟩ := pf_14_10 Wq5 t_a0 (x := 0) (rgi (by omega) (by omega))
  refine wb ec7 ?_
  have e4 := (Zfr.gr fc7 t_a0 (by decide)).trans e2
  have F5 := Zfr.tr F3 fc7 (by decide)
  refine wi (fun hq6 => ?_) (fun hq6 => ?_)
  · have := i_ge q5.1
    have := i_up q5.1
    have hq6 := i_eq hq6
    refine wb e4 ?_
    obtain ⟨v10, ev10, lv10, uv10⟩ := gf_3_1 Wc7 tv4
    refine wb ev10 ?_
    obtain ⟨v11, ev11, tv11⟩ := gf_14_5 Wc7 t_a0
    refine wb ev11 ?_
    refine wb e4 ?_
    obtain ⟨w14, ew14⟩ := go_9 Wc7 tv11
    refine wb ew14 ?_
    obtain ⟨q13, eq13, Wq13, fq13, po0q13⟩ := p_RuleBook_replace hn Wc7  tv11 tv4
    refine wb eq13 ?_
    have e7 := (Zfr.gi fq13 t_a0 (by decide)).trans gc7
    have F8 := Zfr.tr F5 fq13 (by decide)
    obtain ⟨c15, ec15, Wc15, fc15, gc15⟩ := pf_14_2 Wq13 t_a0 po0q13 (by decide)
    refine wb ec15 ?_
    have e9 := (Zfr.gi fc15 t_a0 (by decide)).trans e7
    have F10 := Zfr.tr F8 fc15 (by decide)
    obtain ⟨v16, ev16, tv16⟩ := gf_14_1 Wc15 t_a0
    refine wb ev16 ?_
    obtain ⟨v17, ev17, _⟩ := gf_1_9 Wc15 tv16
    refine wb ev17 ?_
    obtain ⟨c18, ec18, Wc18, fc18, gc18⟩ := pf_1_9 Wc15 tv16 (x := (v17 + 1)) (trivial)
    refine wb ec18 ?_
    have e11 := (Zfr.gi fc18 t_a0 (by decide)).trans e9
    have F12 := Zfr.tr F10 fc18 (by decide)
    exact ⟨_, rfl, Wc18, F12, ⟨(0 : Int32), e11, by (try dsimp only); omega⟩⟩
  · have := i_ge q5.1
    have := i_up q5.1
    have hq6 := i_ne hq6
    have := li_m10
    exact ⟨_, rfl, Wc7, F5, ⟨(0 : Int32), gc7, by (try dsimp only); omega⟩⟩

end ZzT
