section ZzT
abbrev MH : List (Nat × Nat) := [(11, 0), (11, 1), (11, 2), (57, 0), (59, 0)]
section
variable {nf : Nat} {G : List Nat} {c : Zc} {a0 a1 rp fp cl od ot clf odf otf : Nat} {r n rf : Int32}
set_option maxRecDepth 100000 in
set_option maxHeartbeats 1000000 in
theorem p_Collector_addTo (hn : 8589934592 ≤ nf) (W : Zwt zty G c) (h0 : G[a0]? = some 13) (h1 : G[a1]? = some 3) (er : zgr c a0 10 1 = some rp) (tr : G[rp]? = some 10) (R : Zro G c rp r n cl od ot) (ei : zgi c a1 2 15 = some n) {a2 : Int32} (g1 : 0 ≤ a2.toInt) (g2 : a2.toInt < r.toInt) : ∃ q, f_Collector_addTo nf a0 a1 a2 c = some q ∧ Zwt zty G q ∧ Zfr G [(59, 0)] c q := by
  have l0 : (0 : Int32).toInt = 0 := by decide
  have l1 : (1 : Int32).toInt = 1 := by decide
  have bb := R.2.2.1
  have L : ∃ b, zlp (fun a : Nat × Nat × Int32 × Int32 × Zc => g_Collector_addTo_2 nf a.1 a.2.1 a.2.2.1 a.2.2.2.1 a.2.2.2.2) nf (a0, a1, a2, 0, c) = some b ∧ (fun b : Zc => Zwt zty G b ∧ Zfr G [(59, 0)] c b) b := by
    refine wlp (fun a : Nat × Nat × Int32 × Int32 × Zc => a0 = a.1 ∧ a1 = a.2.1 ∧ a2 = a.2.2.1 ∧ (0 ≤ a.2.2.2.1.toInt ∧ a.2.2.2.1.toInt ≤ 8) ∧ Zwt zty G a.2.2.2.2 ∧ Zfr G [(59, 0)] c a.2.2.2.2) (fun a => (8 - a.2.2.2.1.toInt).toNat) _ ?_ ?_ ?_
    · rintro ⟨y0, y1, y2, x3, c9⟩ hI
      dsimp only at hI ⊢
      obtain ⟨rfl, rfl, rfl, ⟨j1, j2⟩, W9, F9⟩ := hI
      have ei9 := (F9.gi (ci := 2) h1 (j := 15) (by decide)).trans ei
      have er9 := (F9.gr (ci := 10) h0 (j := 1) (by decide)).trans er
      have R9 := R.fr F9 tr (by decide)
      unfold g_Collector_addTo_2
      refine wb ei9 ?_
      refine wi (fun q => ?_) (fun q => ?_)
      · exact lInr ⟨W9, F9⟩
      · have q := i_nle q
        have hs := i_add (a := x3) (b := 1) (by omega) (by omega)
        obtain ⟨vs, ev⟩ := go_10 W9 tr
        obtain ⟨x, ex⟩ := p_Rows_cell (nf := nf) W9 R9 g1 g2 j1 q
        obtain ⟨v6, e6, t6⟩ := gf_3_16 W9 h1
        obtain ⟨v7, e7, _⟩ := ga_36 W9 t6 (i := x3) (by omega) (by omega)
        obtain ⟨v9, e9, t9⟩ := gf_13_3 W9 h0
        obtain ⟨v10, e10⟩ := ga_59 W9 t9 (i := x3) (by omega) (by omega)
        have t111 : ∀ d : Zc, Zwt zty G d → Zfr G [(59, 0)] c d → ∃ r_1, f_Collector_addTo_111 nf a0 a1 a2 x3 d = some r_1 ∧ (∀ y, r_1 = .inl y → (a0 = y.1 ∧ a1 = y.2.1 ∧ a2 = y.2.2.1 ∧ (0 ≤ y.2.2.2.1.toInt ∧ y.2.2.2.1.toInt ≤ 8) ∧ Zwt zty G y.2.2.2.2 ∧ Zfr G [(59, 0)] c y.2.2.2.2) ∧ (8 - y.2.2.2.1.toInt).toNat < (8 - x3.toInt).toNat) ∧ ∀ b, r_1 = .inr b → Zwt zty G b ∧ Zfr G [(59, 0)] c b := by
          intro d Wd Fd
          unfold f_Collector_addTo_111
          exact lInl ⟨rfl, rfl, rfl, ⟨by dsimp only; omega, by dsimp only; omega⟩, Wd, Fd⟩ (by dsimp only; omega)
        have t43 : ∃ r_1, f_Collector_addTo_43 nf a0 a1 a2 x3 x c9 = some r_1 ∧ (∀ y, r_1 = .inl y → (a0 = y.1 ∧ a1 = y.2.1 ∧ a2 = y.2.2.1 ∧ (0 ≤ y.2.2.2.1.toInt ∧ y.2.2.2.1.toInt ≤ 8) ∧ Zwt zty G y.2.2.2.2 ∧ Zfr G [(59, 0)] c y.2.2.2.2) ∧ (8 - y.2.2.2.1.toInt).toNat < (8 - x3.toInt).toNat) ∧ ∀ b, r_1 = .inr b → Zwt zty G b ∧ Zfr G [(59, 0)] c b := by
          unfold f_Collector_addTo_43
          obtain ⟨z, ez, Wz, fz, _⟩ := pa_59 W9 t9 (i := x3) (by omega) (by omega) (v10 + (Int32.toInt64 x))
          refine wb e9 (wb e10 (wb ez ?_))
          exact t111 _ Wz (Zfr.tr F9 fz (by decide))
        refine wb er9 (wb ev (wb ex (wb e6 (wb e7 ?_))))
        refine wi (fun _ => ?_) (fun _ => ?_)
        · exact t43
        · refine wi (fun _ => ?_) (fun _ => ?_)
          · exact t43
          · refine wi (fun _ => ?_) (fun _ => ?_)
            · obtain ⟨q23, e23, W23, F23⟩ := p_Math_min_1 (a0 := v10) (a2 := Int32.toInt64 x) hn W9
              obtain ⟨z, ez, Wz, fz, _⟩ := pa_59 W23 t9 (i := x3) (by omega) (by omega) q23.1
              refine wb e9 (wb e9 (wb e10 (wb e23 (wb ez ?_))))
              exact t111 _ Wz (Zfr.tr (Zfr.tr F9 F23 (by decide)) fz (by decide))
            · refine wi (fun _ => ?_) (fun _ => ?_)
              · obtain ⟨q23, e23, W23, F23⟩ := p_Math_max_1 (a0 := v10) (a2 := Int32.toInt64 x) hn W9
                obtain ⟨z, ez, Wz, fz, _⟩ := pa_59 W23 t9 (i := x3) (by omega) (by omega) q23.1
                refine wb e9 (wb e9 (wb e10 (wb e23 (wb ez ?_))))
                exact t111 _ Wz (Zfr.tr (Zfr.tr F9 F23 (by decide)) fz (by decide))
              · exact t111 _ W9 F9
    · exact ⟨rfl, rfl, rfl, ⟨by dsimp only; omega, by dsimp only; omega⟩, W, Zfr.rf⟩
    · dsimp only; omega
  obtain ⟨b, eb, hb⟩ := L
  unfold f_Collector_addTo f_Collector_addTo_2
  exact wb eb ⟨_, rfl, hb⟩
set_option maxRecDepth 100000 in
set_option maxHeartbeats 1000000 in
theorem p_fold71 (hn : 8589934592 ≤ nf) (W : Zwt zty G c) (h0 : G[a0]? = some 13) (h1 : G[a1]? = some 3) (er : zgr c a0 10 1 = some rp) (tr : G[rp]? = some 10) (R : Zro G c rp r n cl od ot) (ei : zgi c a1 2 15 = some n) {x2 x3 x4 : Int32} {kk nn : Nat} (g1 : 0 ≤ x4.toInt) (g2 : x4.toInt < r.toInt) : ∃ q, zlp (fun a : Nat × Nat × Int32 × Int32 × Int32 × Int32 × Nat × Nat × Zc => g_Collector_fold_71 nf a.1 a.2.1 a.2.2.1 a.2.2.2.1 a.2.2.2.2.1 a.2.2.2.2.2.1 a.2.2.2.2.2.2.1 a.2.2.2.2.2.2.2.1 a.2.2.2.2.2.2.2.2) nf (a0, a1, x2, x3, x4, 0, kk, nn, c) = some (a0, a1, x2, x3, kk, nn, q) ∧ Zwt zty G q ∧ Zfr G [(59, 0)] c q := by
  have l0 : (0 : Int32).toInt = 0 := by decide
  have l1 : (1 : Int32).toInt = 1 := by decide
  have bb := R.2.2.1
  have L : ∃ b, zlp (fun a : Nat × Nat × Int32 × Int32 × Int32 × Int32 × Nat × Nat × Zc => g_Collector_fold_71 nf a.1 a.2.1 a.2.2.1 a.2.2.2.1 a.2.2.2.2.1 a.2.2.2.2.2.1 a.2.2.2.2.2.2.1 a.2.2.2.2.2.2.2.1 a.2.2.2.2.2.2.2.2) nf (a0, a1, x2, x3, x4, 0, kk, nn, c) = some b ∧ (fun b : Nat × Nat × Int32 × Int32 × Nat × Nat × Zc => (a0, a1, x2, x3, kk, nn) = (b.1, b.2.1, b.2.2.1, b.2.2.2.1, b.2.2.2.2.1, b.2.2.2.2.2.1) ∧ Zwt zty G b.2.2.2.2.2.2 ∧ Zfr G [(59, 0)] c b.2.2.2.2.2.2) b := by
    refine wlp (fun a : Nat × Nat × Int32 × Int32 × Int32 × Int32 × Nat × Nat × Zc => (a0, a1, x2, x3, x4, kk, nn) = (a.1, a.2.1, a.2.2.1, a.2.2.2.1, a.2.2.2.2.1, a.2.2.2.2.2.2.1, a.2.2.2.2.2.2.2.1) ∧ (0 ≤ a.2.2.2.2.2.1.toInt ∧ a.2.2.2.2.2.1.toInt ≤ 8) ∧ Zwt zty G a.2.2.2.2.2.2.2.2 ∧ Zfr G [(59, 0)] c a.2.2.2.2.2.2.2.2) (fun a => (8 - a.2.2.2.2.2.1.toInt).toNat) _ ?_ ?_ ?_
    · rintro ⟨y0, y1, y2, y3, y4, x5, y6, y7, c9⟩ hI
      dsimp only at hI ⊢
      obtain ⟨hq, ⟨j1, j2⟩, W9, F9⟩ := hI
      cases hq
      have ei9 := (F9.gi (ci := 2) h1 (j := 15) (by decide)).trans ei
      have er9 := (F9.gr (ci := 10) h0 (j := 1) (by decide)).trans er
      have R9 := R.fr F9 tr (by decide)
      unfold g_Collector_fold_71
      refine wb ei9 ?_
      refine wi (fun q => ?_) (fun q => ?_)
      · exact lInr ⟨rfl, W9, F9⟩
      · have q := i_nle q
        have hs := i_add (a := x5) (b := 1) (by omega) (by omega)
        obtain ⟨vs, ev⟩ := go_10 W9 tr
        obtain ⟨x, ex⟩ := p_Rows_cell (nf := nf) W9 R9 g1 g2 j1 q
        obtain ⟨v9, e9, t9⟩ := gf_13_3 W9 h0
        obtain ⟨z, ez, Wz, fz, _⟩ := pa_59 W9 t9 (i := x5) (by omega) (by omega) (Int32.toInt64 x)
        refine wb e9 (wb er9 (wb ev (wb ex (wb ez ?_))))
        exact lInl ⟨rfl, ⟨by dsimp only; omega, by dsimp only; omega⟩, Wz, Zfr.tr F9 fz (by decide)⟩ (by dsimp only; omega)
    · exact ⟨rfl, ⟨by dsimp only; omega, by dsimp only; omega⟩, W, Zfr.rf⟩
    · dsimp only; omega
  obtain ⟨⟨y0, y1, y2, y3, y4, y5, q⟩, eb, hb⟩ := L
  dsimp only at hb
  obtain ⟨hq, Wq, Fq⟩ := hb
  cases hq
  exact ⟨q, eb, Wq, Fq⟩
set_option maxRecDepth 100000 in
set_option maxHeartbeats 1000000 in
theorem p_fold118 (hn : 8589934592 ≤ nf) (W : Zwt zty G c) (h0 : G[a0]? = some 13) (h1 : G[a1]? = some 3) (ef : zgr c a0 10 2 = some fp) (tf : G[fp]? = some 11) (R : Zro G c fp rf n clf odf otf) (hr : 1 ≤ rf.toInt) (ei : zgi c a1 2 15 = some n) {x2 x3 : Int32} {kk nn : Nat} : ∃ q, zlp (fun a : Nat × Nat × Int32 × Int32 × Int32 × Nat × Nat × Zc => g_Collector_fold_118 nf a.1 a.2.1 a.2.2.1 a.2.2.2.1 a.2.2.2.2.1 a.2.2.2.2.2.1 a.2.2.2.2.2.2.1 a.2.2.2.2.2.2.2) nf (a0, a1, x2, x3, 0, kk, nn, c) = some (a0, a1, x2, x3, kk, nn, q) ∧ Zwt zty G q ∧ Zfr G [(57, 0)] c q := by
  have l0 : (0 : Int32).toInt = 0 := by decide
  have l1 : (1 : Int32).toInt = 1 := by decide
  have bb := R.2.2.1
  have L : ∃ b, zlp (fun a : Nat × Nat × Int32 × Int32 × Int32 × Nat × Nat × Zc => g_Collector_fold_118 nf a.1 a.2.1 a.2.2.1 a.2.2.2.1 a.2.2.2.2.1 a.2.2.2.2.2.1 a.2.2.2.2.2.2.1 a.2.2.2.2.2.2.2) nf (a0, a1, x2, x3, 0, kk, nn, c) = some b ∧ (fun b : Nat × Nat × Int32 × Int32 × Nat × Nat × Zc => (a0, a1, x2, x3, kk, nn) = (b.1, b.2.1, b.2.2.1, b.2.2.2.1, b.2.2.2.2.1, b.2.2.2.2.2.1) ∧ Zwt zty G b.2.2.2.2.2.2 ∧ Zfr G [(57, 0)] c b.2.2.2.2.2.2) b := by
    refine wlp (fun a : Nat × Nat × Int32 × Int32 × Int32 × Nat × Nat × Zc => (a0, a1, x2, x3, kk, nn) = (a.1, a.2.1, a.2.2.1, a.2.2.2.1, a.2.2.2.2.2.1, a.2.2.2.2.2.2.1) ∧ (0 ≤ a.2.2.2.2.1.toInt ∧ a.2.2.2.2.1.toInt ≤ 8) ∧ Zwt zty G a.2.2.2.2.2.2.2 ∧ Zfr G [(57, 0)] c a.2.2.2.2.2.2.2) (fun a => (8 - a.2.2.2.2.1.toInt).toNat) _ ?_ ?_ ?_
    · rintro ⟨y0, y1, y2, y3, x5, y6, y7, c9⟩ hI
      dsimp only at hI ⊢
      obtain ⟨hq, ⟨j1, j2⟩, W9, F9⟩ := hI
      cases hq
      have ei9 := (F9.gi (ci := 2) h1 (j := 15) (by decide)).trans ei
      have ef9 := (F9.gr (ci := 10) h0 (j := 2) (by decide)).trans ef
      unfold g_Collector_fold_118
      refine wb ei9 ?_
      refine wi (fun q => ?_) (fun q => ?_)
      · exact lInr ⟨rfl, W9, F9⟩
      · have q := i_nle q
        have hs := i_add (a := x5) (b := 1) (by omega) (by omega)
        obtain ⟨v25, e25, t25⟩ := gf_13_3 W9 h0
        obtain ⟨v26, e26⟩ := ga_59 W9 t25 (i := x5) (by omega) (by omega)
        obtain ⟨q27, e27, W27, F27⟩ := p_Finder_bounded (a0 := v26) hn W9
        have K27 : Zfr G [(57, 0)] c q27.2 := Zfr.tr F9 F27 (by decide)
        obtain ⟨vs, ev⟩ := go_11 W27 tf
        obtain ⟨z, ez, Wz, fz⟩ := p_Rows_setCell (nf := nf) (a1 := x5) (a2 := q27.1) W27 (R.fr K27 tf (by decide)) hr j1 q
        refine wb ef9 (wb e25 (wb e26 (wb e27 (wb ev (wb ez ?_)))))
        exact lInl ⟨rfl, ⟨by dsimp only; omega, by dsimp only; omega⟩, Wz, Zfr.tr K27 fz (by decide)⟩ (by dsimp only; omega)
    · exact ⟨rfl, ⟨by dsimp only; omega, by dsimp only; omega⟩, W, Zfr.rf⟩
    · dsimp only; omega
  obtain ⟨⟨y0, y1, y2, y3, y4, y5, q⟩, eb, hb⟩ := L
  dsimp only at hb
  obtain ⟨hq, Wq, Fq⟩ := hb
  cases hq
  exact ⟨q, eb, Wq, Fq⟩
end
end ZzT
