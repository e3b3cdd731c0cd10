section ZzT
abbrev MF : List (Nat × Nat) := [(2, 16), (2, 17), (7, 5), (7, 6), (7, 7), (7, 8), (7, 9), (7, 10), (7, 11), (8, 8), (26, 0), (27, 0), (28, 0), (31, 0), (47, 0), (48, 0), (49, 0), (50, 0), (51, 0), (52, 0), (53, 0), (54, 0)]
abbrev MF1 : List (Nat × Nat) := (57, 0) :: MF
abbrev MG : List (Nat × Nat) := (10, 0) :: (10, 1) :: (10, 2) :: MF1
section
variable {nf : Nat} {G : List Nat} {c : Zc} {a0 a1 rp fp cl od ot kk nn : Nat} {r n : Int32}
set_option maxRecDepth 100000 in
set_option maxHeartbeats 1000000 in
theorem p_gather47 (hn : 8589934592 ≤ nf) (W : Zwt zty G c) (h0 : G[a0]? = some 13) (h1 : G[a1]? = some 3) (er : zgr c a0 10 1 = some rp) (tr : G[rp]? = some 10) (R : Zro G c rp r n cl od ot) (hr : 1 ≤ r.toInt) (ei : zgi c a1 2 15 = some n) {x2 : Int32} : ∃ q, zlp (fun a : Nat × Nat × Int32 × Int32 × Nat × Nat × Zc => g_Collector_gather_47 nf a.1 a.2.1 a.2.2.1 a.2.2.2.1 a.2.2.2.2.1 a.2.2.2.2.2.1 a.2.2.2.2.2.2) nf (a0, a1, x2, 0, kk, nn, c) = some (a0, a1, x2, kk, nn, q) ∧ Zwt zty G q ∧ Zfr G MF1 c q := by
  have l0 : (0 : Int32).toInt = 0 := by decide
  have l1 : (1 : Int32).toInt = 1 := by decide
  have bb := R.2.2.1
  have L : ∃ b, zlp (fun a : Nat × Nat × Int32 × Int32 × Nat × Nat × Zc => g_Collector_gather_47 nf a.1 a.2.1 a.2.2.1 a.2.2.2.1 a.2.2.2.2.1 a.2.2.2.2.2.1 a.2.2.2.2.2.2) nf (a0, a1, x2, 0, kk, nn, c) = some b ∧ (fun b : Nat × Nat × Int32 × Nat × Nat × Zc => a0 = b.1 ∧ a1 = b.2.1 ∧ x2 = b.2.2.1 ∧ kk = b.2.2.2.1 ∧ nn = b.2.2.2.2.1 ∧ Zwt zty G b.2.2.2.2.2 ∧ Zfr G MF1 c b.2.2.2.2.2) b := by
    refine wlp (fun a : Nat × Nat × Int32 × Int32 × Nat × Nat × Zc => a0 = a.1 ∧ a1 = a.2.1 ∧ x2 = a.2.2.1 ∧ kk = a.2.2.2.2.1 ∧ nn = a.2.2.2.2.2.1 ∧ (0 ≤ a.2.2.2.1.toInt ∧ a.2.2.2.1.toInt ≤ 8) ∧ Zwt zty G a.2.2.2.2.2.2 ∧ Zfr G MF1 c a.2.2.2.2.2.2) (fun a => (8 - a.2.2.2.1.toInt).toNat) _ ?_ ?_ ?_
    · rintro ⟨y0, y1, y2, x3, y3, y4, c9⟩ hI
      dsimp only at hI ⊢
      obtain ⟨rfl, rfl, rfl, rfl, rfl, ⟨j1, j2⟩, W9, F9⟩ := hI
      have ei9 := (F9.gi (ci := 2) h1 (j := 15) (by decide)).trans ei
      have er9 := (F9.gr (ci := 10) h0 (j := 1) (by decide)).trans er
      unfold g_Collector_gather_47
      refine wb ei9 ?_
      refine wi (fun q => ?_) (fun q => ?_)
      · exact lInr ⟨rfl, rfl, rfl, rfl, rfl, W9, F9⟩
      · have q := i_nle q
        have hs := i_add (a := x3) (b := 1) (by omega) (by omega)
        obtain ⟨v18, e18, t18⟩ := gf_3_16 W9 h1
        obtain ⟨v19, e19, _⟩ := ga_36 W9 t18 (i := x3) (by omega) (by omega)
        -- what is behind the value: it comes into its cell
        have t105 : ∀ (d : Zc) (v : Int32), Zwt zty G d → Zfr G MF1 c d → ∃ r_1, f_Collector_gather_105 nf a0 a1 x2 x3 rp x3 v kk nn d = some r_1 ∧ (∀ y, r_1 = .inl y → (a0 = y.1 ∧ a1 = y.2.1 ∧ x2 = y.2.2.1 ∧ kk = y.2.2.2.2.1 ∧ nn = y.2.2.2.2.2.1 ∧ (0 ≤ y.2.2.2.1.toInt ∧ y.2.2.2.1.toInt ≤ 8) ∧ Zwt zty G y.2.2.2.2.2.2 ∧ Zfr G MF1 c y.2.2.2.2.2.2) ∧ (8 - y.2.2.2.1.toInt).toNat < (8 - x3.toInt).toNat) ∧ ∀ b, r_1 = .inr b → a0 = b.1 ∧ a1 = b.2.1 ∧ x2 = b.2.2.1 ∧ kk = b.2.2.2.1 ∧ nn = b.2.2.2.2.1 ∧ Zwt zty G b.2.2.2.2.2 ∧ Zfr G MF1 c b.2.2.2.2.2 := by
          intro d v Wd Fd
          have Rd := R.fr Fd tr (by decide)
          obtain ⟨vs, ev⟩ := go_10 Wd tr
          obtain ⟨z, ez, Wz, fz⟩ := p_Rows_setCell (nf := nf) (a1 := x3) (a2 := v) Wd Rd hr j1 q
          unfold f_Collector_gather_105
          refine wb ev (wb ez ?_)
          exact lInl ⟨rfl, rfl, rfl, rfl, rfl, ⟨by dsimp only; omega, by dsimp only; omega⟩, Wz, Zfr.tr Fd fz (by decide)⟩ (by dsimp only; omega)
        have t71 : ∀ s0 : Int32, ∃ r_1, f_Collector_gather_71 nf a0 a1 x2 x3 s0 kk nn c9 = some r_1 ∧ (∀ y, r_1 = .inl y → (a0 = y.1 ∧ a1 = y.2.1 ∧ x2 = y.2.2.1 ∧ kk = y.2.2.2.2.1 ∧ nn = y.2.2.2.2.2.1 ∧ (0 ≤ y.2.2.2.1.toInt ∧ y.2.2.2.1.toInt ≤ 8) ∧ Zwt zty G y.2.2.2.2.2.2 ∧ Zfr G MF1 c y.2.2.2.2.2.2) ∧ (8 - y.2.2.2.1.toInt).toNat < (8 - x3.toInt).toNat) ∧ ∀ b, r_1 = .inr b → a0 = b.1 ∧ a1 = b.2.1 ∧ x2 = b.2.2.1 ∧ kk = b.2.2.2.1 ∧ nn = b.2.2.2.2.1 ∧ Zwt zty G b.2.2.2.2.2 ∧ Zfr G MF1 c b.2.2.2.2.2 := by
          intro s0
          unfold f_Collector_gather_71
          refine wb er9 ?_
          refine wi (fun _ => ?_) (fun _ => ?_)
          · obtain ⟨v23, e23, t23⟩ := gf_13_0 W9 h0
            obtain ⟨vs, ev⟩ := go_3 W9 h1
            obtain ⟨q24, e24, W24, F24, g1, g2⟩ := p_Text_itemBegin (a1 := x3) hn W9 h1 (by omega) (by omega)
            obtain ⟨v26, e26, t26⟩ := gf_3_17 W24 h1
            obtain ⟨v27, e27, g3, g4⟩ := ga_37 W24 t26 (i := x3) (by omega) (by omega)
            obtain ⟨vs2, ev2⟩ := go_8 W24 t23
            obtain ⟨q28, e28, W28, F28⟩ := p_Finder_evaluate hn W24 t23 g1 g2 g3 g4
            refine wb e23 (wb ev (wb e24 (wb e26 (wb e27 (wb ev2 (wb e28 ?_))))))
            exact t105 _ _ W28 (Zfr.tr (Zfr.tr F9 F24 (by decide)) F28 (by decide))
          · exact t105 _ _ W9 F9
        refine wb e18 (wb e19 ?_)
        refine wi (fun _ => ?_) (fun _ => ?_)
        · exact t71 1
        · exact t71 0
    · exact ⟨rfl, rfl, rfl, rfl, rfl, ⟨by dsimp only; omega, by dsimp only; omega⟩, W, Zfr.rf⟩
    · dsimp only; omega
  obtain ⟨⟨y0, y1, y2, y3, y4, q⟩, eb, hb⟩ := L
  dsimp only at hb
  obtain ⟨rfl, rfl, rfl, rfl, rfl, Wq, Fq⟩ := hb
  exact ⟨q, eb, Wq, Fq⟩
set_option maxRecDepth 100000 in
set_option maxHeartbeats 1000000 in
theorem p_Collector_gather (hn : 8589934592 ≤ nf) (W : Zwt zty G c) (h0 : G[a0]? = some 13) (h1 : G[a1]? = some 3) (er : zgr c a0 10 1 = some rp) (tr : G[rp]? = some 10) {w : Int32} (R : Zro G c rp r w cl od ot) (ei : zgi c a1 2 15 = some n) : ∃ kk nn q G' r' cl', f_Collector_gather nf a0 a1 c = some (kk, nn, q) ∧ Zex G G' ∧ Zwt zty G' q ∧ Zfr G MG c q ∧ Zro G' q rp r' n cl' od ot ∧ kk + zlg (zln c cl) ≤ zlg (zln q cl') ∧ nn + 2 * zln c cl ≤ 2 * zln q cl' ∧ zln q od = zln c od := by
  have l0 : (0 : Int32).toInt = 0 := by decide
  have l1 : (1 : Int32).toInt = 1 := by decide
  obtain ⟨n', en', nb1, nb2⟩ := gf_3_15 W h1
  rw [ei] at en'
  cases en'
  obtain ⟨v5, e5, t5⟩ := gf_13_0 W h0
  obtain ⟨vs, ev⟩ := go_10 W tr
  obtain ⟨c1, ec1, W1, F1, R1⟩ := p_Rows_clear (nf := nf) (a1 := n) rfl W tr R nb1 nb2
  have e51 := (F1.gr (ci := 10) h0 (j := 0) (by decide)).trans e5
  obtain ⟨vs2, ev2⟩ := go_8 W1 t5
  obtain ⟨c2, ec2, W2, F2⟩ := p_Finder_start hn W1 t5 h1
  have K2 : Zfr G MG c c2 := Zfr.tr (Zfr.mo F1 (by decide)) F2 (by decide)
  have R2 := R1.fr F2 tr (by decide)
  have L : ∃ b, zlp (fun a : Nat × Nat × Int32 × Nat × Nat × Zc => g_Collector_gather_21 nf a.1 a.2.1 a.2.2.1 a.2.2.2.1 a.2.2.2.2.1 a.2.2.2.2.2) nf (a0, a1, 0, 0, 0, c2) = some b ∧ (fun b : Nat × Nat × Zc => ∃ G' r' cl', Zex G G' ∧ Zwt zty G' b.2.2 ∧ Zfr G MG c b.2.2 ∧ Zro G' b.2.2 rp r' n cl' od ot ∧ b.1 + zlg (zln c cl) ≤ zlg (zln b.2.2 cl') ∧ b.2.1 + 2 * zln c cl ≤ 2 * zln b.2.2 cl' ∧ zln b.2.2 od = zln c od) b := by
    refine wlp (fun a : Nat × Nat × Int32 × Nat × Nat × Zc => a0 = a.1 ∧ a1 = a.2.1 ∧ (0 ≤ a.2.2.1.toInt ∧ a.2.2.1.toInt ≤ 20000) ∧ ∃ G' r' cl', Zex G G' ∧ Zwt zty G' a.2.2.2.2.2 ∧ Zfr G MG c a.2.2.2.2.2 ∧ Zro G' a.2.2.2.2.2 rp r' n cl' od ot ∧ r'.toInt = a.2.2.1.toInt ∧ a.2.2.2.1 + zlg (zln c cl) ≤ zlg (zln a.2.2.2.2.2 cl') ∧ a.2.2.2.2.1 + 2 * zln c cl ≤ 2 * zln a.2.2.2.2.2 cl' ∧ zln a.2.2.2.2.2 od = zln c od) (fun a => (20000 - a.2.2.1.toInt).toNat) _ ?_ ?_ ?_
    · rintro ⟨y0, y1, x2, kk, nn, c9⟩ hI
      dsimp only at hI ⊢
      obtain ⟨rfl, rfl, ⟨j1, j2⟩, G1, r1, cl1, x1, W9, F9, R9, j3, j4, j5, j6⟩ := hI
      unfold g_Collector_gather_21
      refine wi (fun q => ?_) (fun q => ?_)
      · exact lInr ⟨G1, r1, cl1, x1, W9, F9, R9, j4, j5, j6⟩
      · have q := i_nle q
        have l2 : (20000 : Int32).toInt = 20000 := by decide
        have hs := i_add (a := x2) (b := 1) (by omega) (by omega)
        have hr1 := i_add (a := r1) (b := 1) (by omega) (by omega)
        obtain ⟨v9, e9, t9⟩ := gf_13_0 W9 (x1.get h0)
        obtain ⟨vs, ev⟩ := go_8 W9 t9
        obtain ⟨q10, e10, W10, F10, g1, g2⟩ := p_Finder_nextRow hn W9 t9
        refine wb e9 (wb ev (wb e10 ?_))
        have R10 := R9.fr F10 (x1.get tr) (by decide)
        have K10 : Zfr G MG c q10.2 := Zfr.tr F9 (Zfr.lo x1 F10) (by decide)
        have hc10 : zln q10.2 cl1 = zln c9 cl1 := (F10 cl1 57 R9.2.1.1).2.2
        have ho10 : zln q10.2 od = zln c9 od := (F10 od 58 R9.2.1.2.1).2.2
        refine wi (fun _ => ?_) (fun _ => ?_)
        · exact lInr ⟨G1, r1, cl1, x1, W10, K10, R10, by dsimp only; rw [hc10]; exact j4, by dsimp only; rw [hc10]; exact j5, by dsimp only; rw [ho10]; exact j6⟩
        · have er10 := (K10.gr (ci := 10) h0 (j := 1) (by decide)).trans er
          obtain ⟨vs2, ev2⟩ := go_10 W10 (x1.get tr)
          obtain ⟨k1, n1, d, G2, cl2, ed, x2', Wd, Fd, Rd, d1, d2, d3⟩ := p_Rows_addRow (nf := nf) rfl (by decide) W10 (x1.get tr) R10 (by omega)
          refine wb er10 (wb ev2 (wb ed ?_))
          have xx := x1.tr x2'
          have Kd : Zfr G MG c d := Zfr.tr K10 (Zfr.lo x1 Fd) (by decide)
          have erd := (Kd.gr (ci := 10) h0 (j := 1) (by decide)).trans er
          have eid := (Kd.gi (ci := 2) h1 (j := 15) (by decide)).trans ei
          obtain ⟨z, ez, Wz, Fz⟩ := p_gather47 (kk := kk + k1) (nn := nn + n1) (x2 := x2) hn Wd (xx.get h0) (xx.get h1) erd (xx.get tr) Rd (by omega) eid
          unfold f_Collector_gather_45 f_Collector_gather_47
          refine wb ez ?_
          have hcz : zln z cl2 = zln d cl2 := (Fz cl2 57 Rd.2.1.1).2.2
          have hoz : zln z od = zln d od := (Fz od 58 Rd.2.1.2.1).2.2
          exact lInl ⟨rfl, rfl, ⟨by dsimp only; omega, by dsimp only; omega⟩, G2, r1 + 1, cl2, xx, Wz, Zfr.tr Kd (Zfr.lo xx Fz) (by decide), Rd.fr Fz (xx.get tr) (by decide), by dsimp only; omega, by dsimp only; rw [hcz]; rw [hc10] at d1; omega, by dsimp only; rw [hcz]; rw [hc10] at d2; omega, by dsimp only; rw [hoz, d3, ho10]; exact j6⟩ (by dsimp only; omega)
    · have hc : zln c2 cl = zln c cl := (K2 cl 57 R.2.1.1).2.2
      have ho : zln c2 od = zln c od := (K2 od 58 R.2.1.2.1).2.2
      exact ⟨rfl, rfl, ⟨by dsimp only; omega, by dsimp only; omega⟩, G, 0, cl, Zex.rf, W2, K2, R2, rfl, by dsimp only; rw [hc]; omega, by dsimp only; rw [hc]; omega, ho⟩
    · dsimp only; omega
  obtain ⟨⟨kk, nn, q⟩, eb, hb⟩ := L
  dsimp only at hb
  obtain ⟨G1, r1, cl1, x1, Wq, Fq, Rq, j4, j5, j6⟩ := hb
  refine ⟨kk, nn, q, G1, r1, cl1, ?_, x1, Wq, Fq, Rq, j4, j5, j6⟩
  unfold f_Collector_gather
  rw [er]; simp only [Option.bind_some]
  rw [ei]; simp only [Option.bind_some]
  rw [ev]; simp only [Option.bind_some]
  rw [ec1]; simp only [Option.bind_some]
  rw [e51]; simp only [Option.bind_some]
  rw [ev2]; simp only [Option.bind_some]
  rw [ec2]; simp only [Option.bind_some]
  unfold f_Collector_gather_21
  rw [eb]
  rfl
end
end ZzT
