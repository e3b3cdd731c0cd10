section ZzT
section
variable {nf : Nat} {G : List Nat} {c : Zc} {a0 a1 rp fp cl od ot clf odf otf : Nat} {r n rf wf : Int32}
set_option maxRecDepth 100000 in
set_option maxHeartbeats 2000000 in
theorem p_Collector_fold (hn : 8589934592 ≤ nf) (W : Zwt zty G c) (h0 : G[a0]? = some 13) (h1 : G[a1]? = some 3) (er : zgr c a0 10 1 = some rp) (tr : G[rp]? = some 10) (R : Zro G c rp r n cl od ot) (hl : r.toInt ≤ zln c od) (O : OrT c od r r.toInt) (ef : zgr c a0 10 2 = some fp) (tf : G[fp]? = some 11) (Rf : Zro G c fp rf wf clf odf otf) (ei : zgi c a1 2 15 = some n) {a2 : Int32} : ∃ kk nn q G' rf' clf', f_Collector_fold nf a0 a1 a2 c = some (kk, nn, q) ∧ Zex G G' ∧ Zwt zty G' q ∧ Zfr G MH c q ∧ Zro G' q fp rf' n clf' odf otf ∧ kk + zlg (zln c clf) ≤ zlg (zln q clf') ∧ nn + 2 * zln c clf ≤ 2 * zln q clf' ∧ zln q odf = zln c odf := by
  have l0 : (0 : Int32).toInt = 0 := by decide
  have l1 : (1 : Int32).toInt = 1 := by decide
  have bb := R.2.2.1
  obtain ⟨vs0, ev0⟩ := go_11 W tf
  obtain ⟨c1, ec1, W1, F1, R1⟩ := p_Rows_clear (nf := nf) (a1 := n) rfl W tf Rf bb.2.2.1 bb.2.2.2
  have K1 : Zfr G MH c c1 := Zfr.mo F1 (by decide)
  have L : ∃ b, zlp (fun a : Nat × Nat × Int32 × Int32 × Nat × Nat × Zc => g_Collector_fold_13 nf a.1 a.2.1 a.2.2.1 a.2.2.2.1 a.2.2.2.2.1 a.2.2.2.2.2.1 a.2.2.2.2.2.2) nf (a0, a1, a2, 0, 0, 0, c1) = some b ∧ (fun b : Nat × Nat × Zc => ∃ G' rf' clf', Zex G G' ∧ Zwt zty G' b.2.2 ∧ Zfr G MH c b.2.2 ∧ Zro G' b.2.2 fp rf' n clf' odf otf ∧ b.1 + zlg (zln c clf) ≤ zlg (zln b.2.2 clf') ∧ b.2.1 + 2 * zln c clf ≤ 2 * zln b.2.2 clf' ∧ zln b.2.2 odf = zln c odf) b := by
    refine wlp (fun a : Nat × Nat × Int32 × Int32 × Nat × Nat × Zc => (a0, a1, a2) = (a.1, a.2.1, a.2.2.1) ∧ (0 ≤ a.2.2.2.1.toInt ∧ a.2.2.2.1.toInt ≤ 20000) ∧ ∃ G' rf' clf', Zex G G' ∧ Zwt zty G' a.2.2.2.2.2.2 ∧ Zfr G MH c a.2.2.2.2.2.2 ∧ Zro G' a.2.2.2.2.2.2 fp rf' n clf' odf otf ∧ (rf'.toInt ≤ a.2.2.2.1.toInt ∧ (1 ≤ a.2.2.2.1.toInt → 1 ≤ rf'.toInt)) ∧ a.2.2.2.2.1 + zlg (zln c clf) ≤ zlg (zln a.2.2.2.2.2.2 clf') ∧ a.2.2.2.2.2.1 + 2 * zln c clf ≤ 2 * zln a.2.2.2.2.2.2 clf' ∧ zln a.2.2.2.2.2.2 odf = zln c odf) (fun a => (20000 - a.2.2.2.1.toInt).toNat) _ ?_ ?_ ?_
    · rintro ⟨y0, y1, y2, x3, kk, nn, c9⟩ hI
      dsimp only at hI ⊢
      obtain ⟨hq, ⟨j1, j2⟩, G1, rf1, cl1, x1, W9, F9, R9, ⟨j3, j3'⟩, j4, j5, j6⟩ := hI
      cases hq
      have er9 := (F9.gr (ci := 10) h0 (j := 1) (by decide)).trans er
      have Rr9 := R.fr F9 tr (by decide)
      have O9 := O.fr F9 R.2.1.2.1 (by decide)
      have hl9 : r.toInt ≤ zln c9 od := by rw [(F9 od 58 R.2.1.2.1).2.2]; exact hl
      unfold g_Collector_fold_13
      refine wb er9 (wb Rr9.1.1 ?_)
      refine wi (fun q => ?_) (fun q => ?_)
      · exact lInr ⟨G1, rf1, cl1, x1, W9, F9, R9, j4, j5, j6⟩
      · have q := i_nle q
        have hs := i_add (a := x3) (b := 1) (by omega) (by omega)
        obtain ⟨vs, ev⟩ := go_10 W9 (x1.get tr)
        obtain ⟨x, ex, g1, g2⟩ := p_Rows_sorted (nf := nf) W9 (Rr9.ex x1) hl9 O9 j1 q
        -- the totals come into the last row
        have t115 : ∀ (d : Zc) (G2 : List Nat) (rf2 : Int32) (cl2 k2 n2 : Nat), Zex G G2 → Zwt zty G2 d → Zfr G MH c d → Zro G2 d fp rf2 n cl2 odf otf → 1 ≤ rf2.toInt → rf2.toInt ≤ x3.toInt + 1 → k2 + zlg (zln c clf) ≤ zlg (zln d cl2) → n2 + 2 * zln c clf ≤ 2 * zln d cl2 → zln d odf = zln c odf → ∃ r_1, f_Collector_fold_115 nf a0 a1 a2 x3 k2 n2 d = some r_1 ∧ (∀ y, r_1 = .inl y → ((a0, a1, a2) = (y.1, y.2.1, y.2.2.1) ∧ (0 ≤ y.2.2.2.1.toInt ∧ y.2.2.2.1.toInt ≤ 20000) ∧ ∃ G' rf' clf', Zex G G' ∧ Zwt zty G' y.2.2.2.2.2.2 ∧ Zfr G MH c y.2.2.2.2.2.2 ∧ Zro G' y.2.2.2.2.2.2 fp rf' n clf' odf otf ∧ (rf'.toInt ≤ y.2.2.2.1.toInt ∧ (1 ≤ y.2.2.2.1.toInt → 1 ≤ rf'.toInt)) ∧ y.2.2.2.2.1 + zlg (zln c clf) ≤ zlg (zln y.2.2.2.2.2.2 clf') ∧ y.2.2.2.2.2.1 + 2 * zln c clf ≤ 2 * zln y.2.2.2.2.2.2 clf' ∧ zln y.2.2.2.2.2.2 odf = zln c odf) ∧ (20000 - y.2.2.2.1.toInt).toNat < (20000 - x3.toInt).toNat) ∧ ∀ b, r_1 = .inr b → ∃ G' rf' clf', Zex G G' ∧ Zwt zty G' b.2.2 ∧ Zfr G MH c b.2.2 ∧ Zro G' b.2.2 fp rf' n clf' odf otf ∧ b.1 + zlg (zln c clf) ≤ zlg (zln b.2.2 clf') ∧ b.2.1 + 2 * zln c clf ≤ 2 * zln b.2.2 clf' ∧ zln b.2.2 odf = zln c odf := by
          intro d G2 rf2 cl2 k2 n2 xd Wd Fd Rd r1 r2 d1 d2 d3
          have efd := (Fd.gr (ci := 10) h0 (j := 2) (by decide)).trans ef
          have eid := (Fd.gi (ci := 2) h1 (j := 15) (by decide)).trans ei
          obtain ⟨z, ez, Wz, Fz⟩ := p_fold118 (x2 := a2) (x3 := x3) (kk := k2) (nn := n2) hn Wd (xd.get h0) (xd.get h1) efd (xd.get tf) Rd r1 eid
          have hcz : zln z cl2 = zln d cl2 := (Fz cl2 57 Rd.2.1.1).2.2
          have hoz : zln z odf = zln d odf := (Fz odf 58 Rd.2.1.2.1).2.2
          unfold f_Collector_fold_115 f_Collector_fold_118
          refine wb ez ?_
          exact lInl ⟨rfl, ⟨by dsimp only; omega, by dsimp only; omega⟩, G2, rf2, cl2, xd, Wz, Zfr.tr Fd (Zfr.lo xd Fz) (by decide), Rd.fr Fz (xd.get tf) (by decide), ⟨by dsimp only; omega, fun _ => r1⟩, by dsimp only; rw [hcz]; exact d1, by dsimp only; rw [hcz]; exact d2, by dsimp only; rw [hoz]; exact d3⟩ (by dsimp only; omega)
        -- a row of its own
        have t61 : ∃ r_1, f_Collector_fold_61 nf a0 a1 a2 x3 x kk nn c9 = some r_1 ∧ (∀ y, r_1 = .inl y → ((a0, a1, a2) = (y.1, y.2.1, y.2.2.1) ∧ (0 ≤ y.2.2.2.1.toInt ∧ y.2.2.2.1.toInt ≤ 20000) ∧ ∃ G' rf' clf', Zex G G' ∧ Zwt zty G' y.2.2.2.2.2.2 ∧ Zfr G MH c y.2.2.2.2.2.2 ∧ Zro G' y.2.2.2.2.2.2 fp rf' n clf' odf otf ∧ (rf'.toInt ≤ y.2.2.2.1.toInt ∧ (1 ≤ y.2.2.2.1.toInt → 1 ≤ rf'.toInt)) ∧ y.2.2.2.2.1 + zlg (zln c clf) ≤ zlg (zln y.2.2.2.2.2.2 clf') ∧ y.2.2.2.2.2.1 + 2 * zln c clf ≤ 2 * zln y.2.2.2.2.2.2 clf' ∧ zln y.2.2.2.2.2.2 odf = zln c odf) ∧ (20000 - y.2.2.2.1.toInt).toNat < (20000 - x3.toInt).toNat) ∧ ∀ b, r_1 = .inr b → ∃ G' rf' clf', Zex G G' ∧ Zwt zty G' b.2.2 ∧ Zfr G MH c b.2.2 ∧ Zro G' b.2.2 fp rf' n clf' odf otf ∧ b.1 + zlg (zln c clf) ≤ zlg (zln b.2.2 clf') ∧ b.2.1 + 2 * zln c clf ≤ 2 * zln b.2.2 clf' ∧ zln b.2.2 odf = zln c odf := by
          have ef9 := (F9.gr (ci := 10) h0 (j := 2) (by decide)).trans ef
          obtain ⟨vs, ev⟩ := go_11 W9 (x1.get tf)
          obtain ⟨k1, n1, d, G2, cl2, ed, xd', Wd, Fd, Rd, d1, d2, d3⟩ := p_Rows_addRow (nf := nf) rfl (by decide) W9 (x1.get tf) R9 (by omega)
          have hr1 := i_add (a := rf1) (b := 1) (by have := R9.2.2.1; omega) (by have := R9.2.2.1; omega)
          have xd := x1.tr xd'
          have Kd : Zfr G MH c d := Zfr.tr F9 (Zfr.lo x1 Fd) (by decide)
          have erd := (Kd.gr (ci := 10) h0 (j := 1) (by decide)).trans er
          have eid := (Kd.gi (ci := 2) h1 (j := 15) (by decide)).trans ei
          have Rrd := (R.fr Kd tr (by decide)).ex xd
          obtain ⟨z, ez, Wz, Fz⟩ := p_fold71 (x2 := a2) (x3 := x3) (x4 := x) (kk := kk + k1) (nn := nn + n1) hn Wd (xd.get h0) (xd.get h1) erd (xd.get tr) Rrd eid g1 g2
          have hcz : zln z cl2 = zln d cl2 := (Fz cl2 57 Rd.2.1.1).2.2
          have hoz : zln z odf = zln d odf := (Fz odf 58 Rd.2.1.2.1).2.2
          have r90 := R9.2.2.1.1
          unfold f_Collector_fold_61 f_Collector_fold_68 f_Collector_fold_71
          refine wb ef9 (wb ev (wb ed (wb ez ?_)))
          exact t115 z G2 (rf1 + 1) cl2 (kk + k1) (nn + n1) xd Wz (Zfr.tr Kd (Zfr.lo xd Fz) (by decide)) (Rd.fr Fz (xd.get tf) (by decide)) (by omega) (by omega) (by rw [hcz]; omega) (by rw [hcz]; omega) (by rw [hoz, d3]; exact j6)
        refine wb er9 (wb ev (wb ex ?_))
        refine wi (fun q2 => ?_) (fun q2 => ?_)
        · exact t61
        · have q2 := i_ne q2
          have hs1 := i_sub (a := x3) (b := 1) (by omega) (by omega)
          obtain ⟨y, ey, g3, g4⟩ := p_Rows_sorted (nf := nf) (a1 := x3 - 1) W9 (Rr9.ex x1) hl9 O9 (by omega) (by omega)
          obtain ⟨m, em⟩ := p_Rows_compare (nf := nf) (a3 := a2) hn W9 (Rr9.ex x1) g3 g4 g1 g2
          refine wb er9 (wb er9 (wb ev (wb ey (wb ev (wb em ?_)))))
          refine wi (fun _ => ?_) (fun _ => ?_)
          · have ei9 := (F9.gi (ci := 2) h1 (j := 15) (by decide)).trans ei
            obtain ⟨vs2, ev2⟩ := go_13 W9 (x1.get h0)
            obtain ⟨z, ez, Wz, Fz⟩ := p_Collector_addTo (nf := nf) (a2 := x) hn W9 (x1.get h0) (x1.get h1) er9 (x1.get tr) (Rr9.ex x1) ei9 g1 g2
            have hcz : zln z cl1 = zln c9 cl1 := (Fz cl1 57 R9.2.1.1).2.2
            have hoz : zln z odf = zln c9 odf := (Fz odf 58 R9.2.1.2.1).2.2
            refine wb ev2 (wb ez ?_)
            exact t115 z G1 rf1 cl1 kk nn x1 Wz (Zfr.tr F9 (Zfr.lo x1 Fz) (by decide)) (R9.fr Fz (x1.get tf) (by decide)) (j3' (by omega)) (by omega) (by rw [hcz]; exact j4) (by rw [hcz]; exact j5) (by rw [hoz]; exact j6)
          · exact t61
    · have hc : zln c1 clf = zln c clf := (K1 clf 57 Rf.2.1.1).2.2
      have ho : zln c1 odf = zln c odf := (K1 odf 58 Rf.2.1.2.1).2.2
      exact ⟨rfl, ⟨by dsimp only; omega, by dsimp only; omega⟩, G, 0, clf, Zex.rf, W1, K1, R1, ⟨by dsimp only; omega, fun h => by dsimp only at h; omega⟩, by dsimp only; rw [hc]; omega, by dsimp only; rw [hc]; omega, ho⟩
    · dsimp only; omega
  obtain ⟨⟨kk, nn, q⟩, eb, hb⟩ := L
  dsimp only at hb
  obtain ⟨G1, r1, cl1, x1, Wq, Fq, Rq, j4, j5, j6⟩ := hb
  refine ⟨kk, nn, q, G1, r1, cl1, ?_, x1, Wq, Fq, Rq, j4, j5, j6⟩
  unfold f_Collector_fold
  rw [ef]; simp only [Option.bind_some]
  rw [ei]; simp only [Option.bind_some]
  rw [ev0]; simp only [Option.bind_some]
  rw [ec1]; simp only [Option.bind_some]
  unfold f_Collector_fold_13
  rw [eb]
  rfl
end
end ZzT
