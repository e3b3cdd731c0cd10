section ZzT
abbrev MA : List (Nat × Nat) := [(63, 0), (63, 2), (57, 0)]
abbrev MC : List (Nat × Nat) := (10, 0) :: (10, 1) :: (10, 2) :: (10, 3) :: (10, 4) :: (11, 0) :: (11, 1) :: (11, 2) :: (11, 3) :: (11, 4) :: (63, 0) :: (63, 1) :: (63, 2) :: (57, 0) :: (58, 0) :: (59, 0) :: MF
section
variable {nf : Nat} {G : List Nat} {c : Zc} {a0 a1 a2 rp fp cl od ot clf odf otf cla oda ota : Nat} {r n w rf wf ra wa : Int32}
set_option maxRecDepth 100000 in
set_option maxHeartbeats 1000000 in
theorem p_coll79 (hn : 8589934592 ≤ nf) (W : Zwt zty G c) (h0 : G[a0]? = some 13) (h1 : G[a1]? = some 3) (ef : zgr c a0 10 2 = some fp) (tf : G[fp]? = some 11) (Rf : Zro G c fp rf n clf odf otf) (hl : rf.toInt ≤ zln c odf) (O : OrT c odf rf rf.toInt) (ta : G[a2]? = some 63) (Ra : Zro G c a2 ra n cla oda ota) (hr : 1 ≤ ra.toInt) (ei : zgi c a1 2 15 = some n) {x4 x5 : Int32} {kk nn : Nat} (g1 : 0 ≤ x5.toInt) (g2 : x5.toInt < rf.toInt) : ∃ q, zlp (fun a : Nat × Nat × Nat × Int32 × Int32 × Int32 × Nat × Nat × Zc => g_Collector_collect_79 nf a.1 a.2.1 a.2.2.1 a.2.2.2.1 a.2.2.2.2.1 a.2.2.2.2.2.1 a.2.2.2.2.2.2.1 a.2.2.2.2.2.2.2.1 a.2.2.2.2.2.2.2.2) nf (a0, a1, a2, x4, x5, 0, kk, nn, c) = some (a0, a1, a2, x4, x5, kk, nn, q) ∧ Zwt zty G q ∧ Zfr G [(57, 0)] c q := by
  have l0 : (0 : Int32).toInt = 0 := by decide
  have l1 : (1 : Int32).toInt = 1 := by decide
  have bb := Rf.2.2.1
  have L : ∃ b, zlp (fun a : Nat × Nat × Nat × Int32 × Int32 × Int32 × Nat × Nat × Zc => g_Collector_collect_79 nf a.1 a.2.1 a.2.2.1 a.2.2.2.1 a.2.2.2.2.1 a.2.2.2.2.2.1 a.2.2.2.2.2.2.1 a.2.2.2.2.2.2.2.1 a.2.2.2.2.2.2.2.2) nf (a0, a1, a2, x4, x5, 0, kk, nn, c) = some b ∧ (fun b : Nat × Nat × Nat × Int32 × Int32 × Nat × Nat × Zc => (a0, a1, a2, x4, x5, kk, nn) = (b.1, b.2.1, b.2.2.1, b.2.2.2.1, b.2.2.2.2.1, b.2.2.2.2.2.1, b.2.2.2.2.2.2.1) ∧ Zwt zty G b.2.2.2.2.2.2.2 ∧ Zfr G [(57, 0)] c b.2.2.2.2.2.2.2) b := by
    refine wlp (fun a : Nat × Nat × Nat × Int32 × Int32 × Int32 × Nat × Nat × Zc => (a0, a1, a2, x4, x5, kk, nn) = (a.1, a.2.1, a.2.2.1, a.2.2.2.1, a.2.2.2.2.1, a.2.2.2.2.2.2.1, a.2.2.2.2.2.2.2.1) ∧ (0 ≤ a.2.2.2.2.2.1.toInt ∧ a.2.2.2.2.2.1.toInt ≤ 8) ∧ Zwt zty G a.2.2.2.2.2.2.2.2 ∧ Zfr G [(57, 0)] c a.2.2.2.2.2.2.2.2) (fun a => (8 - a.2.2.2.2.2.1.toInt).toNat) _ ?_ ?_ ?_
    · rintro ⟨y0, y1, y2, y3, y4, x6, y6, y7, c9⟩ hI
      dsimp only at hI ⊢
      obtain ⟨hq, ⟨j1, j2⟩, W9, F9⟩ := hI
      cases hq
      have ei9 := (F9.gi (ci := 2) h1 (j := 15) (by decide)).trans ei
      have ef9 := (F9.gr (ci := 10) h0 (j := 2) (by decide)).trans ef
      have R9 := Rf.fr F9 tf (by decide)
      have O9 := O.fr F9 Rf.2.1.2.1 (by decide)
      have hl9 : rf.toInt ≤ zln c9 odf := by rw [(F9 odf 58 Rf.2.1.2.1).2.2]; exact hl
      unfold g_Collector_collect_79
      refine wb ei9 ?_
      refine wi (fun q => ?_) (fun q => ?_)
      · exact lInr ⟨rfl, W9, F9⟩
      · have q := i_nle q
        have hs := i_add (a := x6) (b := 1) (by omega) (by omega)
        obtain ⟨vs, ev⟩ := go_11 W9 tf
        obtain ⟨x, ex, g3, g4⟩ := p_Rows_sorted (nf := nf) W9 R9 hl9 O9 g1 g2
        obtain ⟨y, ey⟩ := p_Rows_cell (nf := nf) W9 R9 g3 g4 j1 q
        obtain ⟨vs2, ev2⟩ := go_63 W9 ta
        obtain ⟨z, ez, Wz, fz⟩ := p_Rows_setCell (nf := nf) (a1 := x6) (a2 := y) W9 (Ra.fr F9 ta (by decide)) hr j1 q
        refine wb ef9 (wb ef9 (wb ev (wb ex (wb ev (wb ey (wb ev2 (wb ez ?_)))))))
        exact lInl ⟨rfl, ⟨by dsimp only; omega, by dsimp only; omega⟩, Wz, Zfr.tr F9 fz (by decide)⟩ (by dsimp only; omega)
    · exact ⟨rfl, ⟨by dsimp only; omega, by dsimp only; omega⟩, W, Zfr.rf⟩
    · dsimp only; omega
  obtain ⟨⟨y0, y1, y2, y3, y4, y5, y6, q⟩, eb, hb⟩ := L
  dsimp only at hb
  obtain ⟨hq, Wq, Fq⟩ := hb
  cases hq
  exact ⟨q, eb, Wq, Fq⟩
set_option maxRecDepth 100000 in
set_option maxHeartbeats 1000000 in
theorem p_coll62 (hn : 8589934592 ≤ nf) (W : Zwt zty G c) (h0 : G[a0]? = some 13) (h1 : G[a1]? = some 3) (ef : zgr c a0 10 2 = some fp) (tf : G[fp]? = some 11) (Rf : Zro G c fp rf n clf odf otf) (hl : rf.toInt ≤ zln c odf) (O : OrT c odf rf rf.toInt) (ta : G[a2]? = some 63) (Ra : Zro G c a2 0 n cla oda ota) (ei : zgi c a1 2 15 = some n) {x4 : Int32} (g1 : 0 ≤ x4.toInt) (g2 : x4.toInt ≤ rf.toInt) {k0 n0 : Nat} : ∃ kk nn q G' ra' cla', f_Collector_collect_62 nf a0 a1 a2 x4 k0 n0 c = some (k0 + kk, n0 + nn, q) ∧ Zex G G' ∧ Zwt zty G' q ∧ Zfr G MA c q ∧ Zro G' q a2 ra' n cla' oda ota ∧ kk + zlg (zln c cla) ≤ zlg (zln q cla') ∧ nn + 2 * zln c cla ≤ 2 * zln q cla' ∧ zln q oda = zln c oda := by
  have l0 : (0 : Int32).toInt = 0 := by decide
  have l1 : (1 : Int32).toInt = 1 := by decide
  have bb := Rf.2.2.1
  have L : ∃ b, zlp (fun a : Nat × Nat × Nat × Int32 × Int32 × Nat × Nat × Zc => g_Collector_collect_65 nf a.1 a.2.1 a.2.2.1 a.2.2.2.1 a.2.2.2.2.1 a.2.2.2.2.2.1 a.2.2.2.2.2.2.1 a.2.2.2.2.2.2.2) nf (a0, a1, a2, x4, 0, k0, n0, c) = some b ∧ (fun b : Nat × Nat × Zc => ∃ kk nn G' ra' cla', b.1 = k0 + kk ∧ b.2.1 = n0 + nn ∧ Zex G G' ∧ Zwt zty G' b.2.2 ∧ Zfr G MA c b.2.2 ∧ Zro G' b.2.2 a2 ra' n cla' oda ota ∧ kk + zlg (zln c cla) ≤ zlg (zln b.2.2 cla') ∧ nn + 2 * zln c cla ≤ 2 * zln b.2.2 cla' ∧ zln b.2.2 oda = zln c oda) b := by
    refine wlp (fun a : Nat × Nat × Nat × Int32 × Int32 × Nat × Nat × Zc => (a0, a1, a2, x4) = (a.1, a.2.1, a.2.2.1, a.2.2.2.1) ∧ (0 ≤ a.2.2.2.2.1.toInt ∧ a.2.2.2.2.1.toInt ≤ x4.toInt) ∧ ∃ kk nn G' ra' cla', a.2.2.2.2.2.1 = k0 + kk ∧ a.2.2.2.2.2.2.1 = n0 + nn ∧ Zex G G' ∧ Zwt zty G' a.2.2.2.2.2.2.2 ∧ Zfr G MA c a.2.2.2.2.2.2.2 ∧ Zro G' a.2.2.2.2.2.2.2 a2 ra' n cla' oda ota ∧ ra'.toInt = a.2.2.2.2.1.toInt ∧ kk + zlg (zln c cla) ≤ zlg (zln a.2.2.2.2.2.2.2 cla') ∧ nn + 2 * zln c cla ≤ 2 * zln a.2.2.2.2.2.2.2 cla' ∧ zln a.2.2.2.2.2.2.2 oda = zln c oda) (fun a => (x4.toInt - a.2.2.2.2.1.toInt).toNat) _ ?_ ?_ ?_
    · rintro ⟨y0, y1, y2, y3, x5, k9, n9, c9⟩ hI
      dsimp only at hI ⊢
      obtain ⟨hq, ⟨j1, j2⟩, kk, nn, G1, ra1, cl1, rfl, rfl, x1, W9, F9, R9, j3, j4, j5, j6⟩ := hI
      cases hq
      unfold g_Collector_collect_65
      refine wi (fun q => ?_) (fun q => ?_)
      · exact lInr ⟨kk, nn, G1, ra1, cl1, rfl, rfl, x1, W9, F9, R9, j4, j5, j6⟩
      · have q := i_nle q
        have hs := i_add (a := x5) (b := 1) (by omega) (by omega)
        have hr1 := i_add (a := ra1) (b := 1) (by omega) (by omega)
        obtain ⟨vs, ev⟩ := go_63 W9 (x1.get ta)
        obtain ⟨k1, n1, d, G2, cl2, ed, xd', Wd, Fd, Rd, d1, d2, d3⟩ := p_Rows_addRow (nf := nf) rfl (by decide) W9 (x1.get ta) R9 (by omega)
        have xd := x1.tr xd'
        have Kd : Zfr G MA c d := Zfr.tr F9 (Zfr.lo x1 Fd) (by decide)
        have efd := (Kd.gr (ci := 10) h0 (j := 2) (by decide)).trans ef
        have eid := (Kd.gi (ci := 2) h1 (j := 15) (by decide)).trans ei
        have Rfd := (Rf.fr Kd tf (by decide)).ex xd
        have Od := O.fr Kd Rf.2.1.2.1 (by decide)
        have hld : rf.toInt ≤ zln d odf := by rw [(Kd odf 58 Rf.2.1.2.1).2.2]; exact hl
        obtain ⟨z, ez, Wz, Fz⟩ := p_coll79 (x4 := x4) (x5 := x5) (kk := k0 + kk + k1) (nn := n0 + nn + n1) hn Wd (xd.get h0) (xd.get h1) efd (xd.get tf) Rfd hld Od (xd.get ta) Rd (by omega) eid j1 (by omega)
        have hcz : zln z cl2 = zln d cl2 := (Fz cl2 57 Rd.2.1.1).2.2
        have hoz : zln z oda = zln d oda := (Fz oda 58 Rd.2.1.2.1).2.2
        refine wb ev (wb ed ?_)
        unfold f_Collector_collect_76 f_Collector_collect_79
        refine wb ez ?_
        exact lInl ⟨rfl, ⟨by dsimp only; omega, by dsimp only; omega⟩, kk + k1, nn + n1, G2, ra1 + 1, cl2, by dsimp only; omega, by dsimp only; omega, xd, Wz, Zfr.tr Kd (Zfr.lo xd Fz) (by decide), Rd.fr Fz (xd.get ta) (by decide), by dsimp only; omega, by dsimp only; rw [hcz]; omega, by dsimp only; rw [hcz]; omega, by dsimp only; rw [hoz, d3]; exact j6⟩ (by dsimp only; omega)
    · exact ⟨rfl, ⟨by dsimp only; omega, by dsimp only; omega⟩, 0, 0, G, 0, cla, rfl, rfl, Zex.rf, W, Zfr.rf, Ra, rfl, by dsimp only; omega, by dsimp only; omega, rfl⟩
    · dsimp only; omega
  obtain ⟨⟨k9, n9, q⟩, eb, hb⟩ := L
  dsimp only at hb
  obtain ⟨kk, nn, G1, r1, cl1, rfl, rfl, x1, Wq, Fq, Rq, j4, j5, j6⟩ := hb
  refine ⟨kk, nn, q, G1, r1, cl1, ?_, x1, Wq, Fq, Rq, j4, j5, j6⟩
  unfold f_Collector_collect_62 f_Collector_collect_65
  rw [eb]
  rfl
set_option maxRecDepth 100000 in
set_option maxHeartbeats 2000000 in
theorem p_Collector_collect (hn : 8589934592 ≤ nf) (W : Zwt zty G c) (h0 : G[a0]? = some 13) (h1 : G[a1]? = some 3) (er : zgr c a0 10 1 = some rp) (tr : G[rp]? = some 10) (R : Zro G c rp r w cl od ot) (ef : zgr c a0 10 2 = some fp) (tf : G[fp]? = some 11) (Rf : Zro G c fp rf wf clf odf otf) (ta : G[a2]? = some 63) (Ra : Zro G c a2 ra wa cla oda ota) : ∃ kk nn q G', f_Collector_collect nf a0 a1 a2 c = some (kk, nn, q) ∧ Zex G G' ∧ Zwt zty G' q ∧ Zfr G MC c q ∧ ∃ r1 w1 cl1 od1 ot1 r2 w2 cl2 od2 ot2 r3 w3 cl3, Zro G' q rp r1 w1 cl1 od1 ot1 ∧ Zro G' q fp r2 w2 cl2 od2 ot2 ∧ Zro G' q a2 r3 w3 cl3 oda ota ∧ kk + (zlg (zln c cl) + 2 * zlg (zln c od)) + (zlg (zln c clf) + 2 * zlg (zln c odf)) + zlg (zln c cla) ≤ (zlg (zln q cl1) + 2 * zlg (zln q od1)) + (zlg (zln q cl2) + 2 * zlg (zln q od2)) + zlg (zln q cl3) ∧ nn + (2 * zln c cl + 4 * zln c od) + (2 * zln c clf + 4 * zln c odf) + 2 * zln c cla ≤ (2 * zln q cl1 + 4 * zln q od1) + (2 * zln q cl2 + 4 * zln q od2) + 2 * zln q cl3 ∧ zln q oda = zln c oda := by
  obtain ⟨n, ei, nb1, nb2⟩ := gf_3_15 W h1
  obtain ⟨vs0, ev0⟩ := go_13 W h0
  -- the rows come
  obtain ⟨k1, n1, c1, G1, r1, cl1, ec1, x1, W1, F1, R1, p1, s1, o1⟩ := p_Collector_gather (nf := nf) hn W h0 h1 er tr R ei
  have Rf1 := (Rf.fr F1 tf (by decide)).ex x1
  have Ra1 := (Ra.fr F1 ta (by decide)).ex x1
  obtain ⟨q3, ec3, W3, F3⟩ := p_Collector_keysOf hn W1 (x1.get h1)
  have K3 : Zfr G MC c q3.2 := Zfr.tr (Zfr.mo F1 (by decide)) (Zfr.lo x1 F3) (by decide)
  have er3 := (K3.gr (ci := 10) h0 (j := 1) (by decide)).trans er
  have R3 := R1.fr F3 (x1.get tr) (by decide)
  obtain ⟨vs1, ev1⟩ := go_10 W3 (x1.get tr)
  -- sorted
  obtain ⟨k2, n2, c5, G2, od5, ot5, ec5, x2, W5, F5, R5, hl5, O5, p2, s2, o2⟩ := p_Rows_sort (nf := nf) (a1 := q3.1) hn rfl (by decide) W3 (x1.get tr) R3
  have x12 := x1.tr x2
  have K5 : Zfr G MC c c5 := Zfr.tr K3 (Zfr.lo x1 F5) (by decide)
  have er5 := (K5.gr (ci := 10) h0 (j := 1) (by decide)).trans er
  have ef5 := (K5.gr (ci := 10) h0 (j := 2) (by decide)).trans ef
  have ei5 := (K5.gi (ci := 2) h1 (j := 15) (by decide)).trans ei
  have Rf5 := ((Rf1.fr F3 (x1.get tf) (by decide)).fr F5 (x1.get tf) (by decide)).ex x2
  have Ra5 := ((Ra1.fr F3 (x1.get ta) (by decide)).fr F5 (x1.get ta) (by decide)).ex x2
  obtain ⟨vs2, ev2⟩ := go_13 W5 (x12.get h0)
  -- folded
  obtain ⟨k3, n3, c7, G3, r7, cl7, ec7, x3, W7, F7, R7, p3, s3, o3⟩ := p_Collector_fold (nf := nf) (a2 := q3.1) hn W5 (x12.get h0) (x12.get h1) er5 (x12.get tr) R5 hl5 O5 ef5 (x12.get tf) Rf5 ei5
  have x13 := x12.tr x3
  have K7 : Zfr G MC c c7 := Zfr.tr K5 (Zfr.lo x12 F7) (by decide)
  have ef7 := (K7.gr (ci := 10) h0 (j := 2) (by decide)).trans ef
  have Rr7 := (R5.fr F7 (x12.get tr) (by decide)).ex x3
  have Ra7 := (Ra5.fr F7 (x12.get ta) (by decide)).ex x3
  obtain ⟨vs3, ev3⟩ := go_11 W7 (x13.get tf)
  -- sorted again
  obtain ⟨k4, n4, c9, G4, od9, ot9, ec9, x4, W9, F9, R9, hl9, O9, p4, s4, o4⟩ := p_Rows_sort (nf := nf) (a1 := -1) hn rfl (by decide) W7 (x13.get tf) R7
  have x14 := x13.tr x4
  have K9 : Zfr G MC c c9 := Zfr.tr K7 (Zfr.lo x13 F9) (by decide)
  have Rr9 := (Rr7.fr F9 (x13.get tr) (by decide)).ex x4
  have Ra9 := (Ra7.fr F9 (x13.get ta) (by decide)).ex x4
  have ei9 := (K9.gi (ci := 2) h1 (j := 15) (by decide)).trans ei
  obtain ⟨vs4, ev4⟩ := go_63 W9 (x14.get ta)
  -- the answer
  obtain ⟨c11, ec11, W11, F11, R11⟩ := p_Rows_clear (nf := nf) (a1 := n) rfl W9 (x14.get ta) Ra9 nb1 nb2
  have K11 : Zfr G MC c c11 := Zfr.tr K9 (Zfr.lo x14 F11) (by decide)
  have ef11 := (K11.gr (ci := 10) h0 (j := 2) (by decide)).trans ef
  have Rf11 := R9.fr F11 (x14.get tf) (by decide)
  obtain ⟨v17, e17, lb1, lb2⟩ := gf_3_18 W11 (x14.get h1)
  obtain ⟨m, em, hm⟩ := m_min (nf := nf) (c := c11) (a := r7) (b := v17)
  have rb := Rf11.2.2.1
  have hm1 : 0 ≤ m.toInt ∧ m.toInt ≤ r7.toInt := by
    rcases hm with ⟨rfl, h⟩ | ⟨rfl, h⟩ <;> omega
  obtain ⟨vs5, ev5⟩ := go_63 W11 (x14.get ta)
  obtain ⟨k5, n5, c13, G5, cl13, ec13, x5, W13, F13, R13, _, p5, s5, o5⟩ := p_Rows_reserve (nf := nf) (a1 := m) rfl (by decide) W11 (x14.get ta) R11 (by omega) (by omega)
  have x15 := x14.tr x5
  have K13 : Zfr G MC c c13 := Zfr.tr K11 (Zfr.lo x14 F13) (by decide)
  have ef13 := (K13.gr (ci := 10) h0 (j := 2) (by decide)).trans ef
  have ei13 := (K13.gi (ci := 2) h1 (j := 15) (by decide)).trans ei
  have Rf13 := (Rf11.fr F13 (x14.get tf) (by decide)).ex x5
  have O11 := O9.fr F11 R9.2.1.2.1 (by decide)
  have O13 := O11.fr F13 R9.2.1.2.1 (by decide)
  have hl13 : r7.toInt ≤ zln c13 od9 := by rw [(F13 od9 58 R9.2.1.2.1).2.2, (F11 od9 58 R9.2.1.2.1).2.2]; exact hl9
  obtain ⟨k6, n6, q, G6, r15, cl15, ec15, x6, W15, F15, R15, p6, s6, o6⟩ := p_coll62 (nf := nf) (x4 := m) (k0 := k1 + k2 + k3 + k4 + k5) (n0 := n1 + n2 + n3 + n4 + n5) hn W13 (x15.get h0) (x15.get h1) ef13 (x15.get tf) Rf13 hl13 O13 (x15.get ta) R13 ei13 hm1.1 hm1.2
  have x16 := x15.tr x6
  have Kq : Zfr G MC c q := Zfr.tr K13 (Zfr.lo x15 F15) (by decide)
  have u1 : zln q cl1 = zln c1 cl1 := by
    have t := R1.2.1.1
    rw [(F15 cl1 57 (x5.get (x4.get (x3.get (x2.get t))))).2.2, (F13 cl1 57 (x4.get (x3.get (x2.get t)))).2.2, (F11 cl1 57 (x4.get (x3.get (x2.get t)))).2.2, (F9 cl1 57 (x3.get (x2.get t))).2.2, (F7 cl1 57 (x2.get t)).2.2, (F5 cl1 57 t).2.2, (F3 cl1 57 t).2.2]
  have u2 : zln q od5 = zln c5 od5 := by
    have t := R5.2.1.2.1
    rw [(F15 od5 58 (x5.get (x4.get (x3.get t)))).2.2, (F13 od5 58 (x4.get (x3.get t))).2.2, (F11 od5 58 (x4.get (x3.get t))).2.2, (F9 od5 58 (x3.get t)).2.2, (F7 od5 58 t).2.2]
  have u3 : zln q3.2 od = zln c od := (K3 od 58 R.2.1.2.1).2.2
  have u4 : zln c5 clf = zln c clf := (K5 clf 57 Rf.2.1.1).2.2
  have u5 : zln q cl7 = zln c7 cl7 := by
    have t := R7.2.1.1
    rw [(F15 cl7 57 (x5.get (x4.get t))).2.2, (F13 cl7 57 (x4.get t)).2.2, (F11 cl7 57 (x4.get t)).2.2, (F9 cl7 57 t).2.2]
  have u6 : zln c7 odf = zln c odf := (K7 odf 58 Rf.2.1.2.1).2.2
  have u7 : zln q od9 = zln c9 od9 := by
    have t := R9.2.1.2.1
    rw [(F15 od9 58 (x5.get t)).2.2, (F13 od9 58 t).2.2, (F11 od9 58 t).2.2]
  have u8 : zln c11 cla = zln c cla := (K11 cla 57 Ra.2.1.1).2.2
  have Rr15 := ((((Rr9.fr F11 (x14.get tr) (by decide)).fr F13 (x14.get tr) (by decide)).ex x5).fr F15 (x15.get tr) (by decide)).ex x6
  have Rf15 := (Rf13.fr F15 (x15.get tf) (by decide)).ex x6
  refine ⟨k1 + k2 + k3 + k4 + k5 + k6, n1 + n2 + n3 + n4 + n5 + n6, q, G6, ?_, x16, W15, Zfr.tr K13 (Zfr.lo x15 F15) (by decide), r1, n, cl1, od5, ot5, r7, n, cl7, od9, ot9, r15, n, cl15, Rr15, Rf15, R15, ?_, ?_, ?_⟩
  · unfold f_Collector_collect
    rw [ev0]; simp only [Option.bind_some]
    rw [ec1]; simp only [Option.bind_some, Nat.zero_add]
    unfold f_Collector_collect_5
    rw [ec3]; simp only [Option.bind_some]
    rw [er3]; simp only [Option.bind_some]
    rw [ev1]; simp only [Option.bind_some]
    rw [ec5]; simp only [Option.bind_some]
    unfold f_Collector_collect_18
    rw [ev2]; simp only [Option.bind_some]
    rw [ec7]; simp only [Option.bind_some]
    unfold f_Collector_collect_24
    rw [ef7]; simp only [Option.bind_some]
    rw [ev3]; simp only [Option.bind_some]
    rw [ec9]; simp only [Option.bind_some]
    unfold f_Collector_collect_32
    rw [ei9]; simp only [Option.bind_some]
    rw [ev4]; simp only [Option.bind_some]
    rw [ec11]; simp only [Option.bind_some]
    rw [ef11]; simp only [Option.bind_some]
    rw [Rf11.1.1]; simp only [Option.bind_some]
    rw [e17]; simp only [Option.bind_some]
    rw [em]; simp only [Option.bind_some]
    rw [ev5]; simp only [Option.bind_some]
    rw [ec13]; simp only [Option.bind_some]
    exact ec15
  · rw [u1, u2, u5, u7]
    rw [u3] at p2
    rw [u4] at p3
    rw [u6] at p4
    rw [u8] at p5
    omega
  · rw [u1, u2, u5, u7]
    rw [u3] at s2
    rw [u4] at s3
    rw [u6] at s4
    rw [u8] at s5
    omega
  · exact (Kq oda 58 Ra.2.1.2.1).2.2
end
end ZzT
