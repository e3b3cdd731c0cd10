section ZzT
theorem re_get {G : List Nat} {p k U : Nat} (tp : G[p]? = some 12) (h : G[k]? = some U) (hU : U ≠ 12) : (G.set p 63)[k]? = some U := by
  by_cases q : p = k
  · subst q
    rw [tp] at h
    cases h
    exact absurd rfl hU
  · rw [List.getElem?_set_ne q]; exact h
theorem Zro.re {G : List Nat} {c : Zc} {p k : Nat} {r w : Int32} {cl od ot : Nat} (tp : G[p]? = some 12) (R : Zro G c k r w cl od ot) : Zro (G.set p 63) c k r w cl od ot := by
  obtain ⟨e, ⟨t1, t2, t3⟩, b⟩ := R
  exact ⟨e, ⟨re_get tp t1 (by decide), re_get tp t2 (by decide), re_get tp t3 (by decide)⟩, b⟩
theorem re_back {G G' : List Nat} {p : Nat} (tp : G[p]? = some 12) (x : Zex (G.set p 63) G') : Zex G (G'.set p 12) := by
  obtain ⟨L, rfl⟩ := x
  have hlt := (List.getElem?_eq_some_iff.mp tp).1
  refine ⟨L, ?_⟩
  rw [List.set_append_left _ _ (by rw [List.length_set]; exact hlt), List.set_set]
  congr 1
  apply List.ext_getElem?
  intro i
  by_cases q : p = i
  · subst q; rw [List.getElem?_set_self hlt, tp]
  · rw [List.getElem?_set_ne q]
theorem Zro.bk {G' : List Nat} {c : Zc} {p k : Nat} {r w : Int32} {cl od ot : Nat} (tp : G'[p]? = some 63) (R : Zro G' c k r w cl od ot) : Zro (G'.set p 12) c k r w cl od ot := by
  obtain ⟨e, ⟨t1, t2, t3⟩, b⟩ := R
  have g : ∀ (k U : Nat), G'[k]? = some U → U ≠ 63 → (G'.set p 12)[k]? = some U := by
    intro k U h hU
    by_cases q : p = k
    · subst q
      rw [tp] at h
      cases h
      exact absurd rfl hU
    · rw [List.getElem?_set_ne q]; exact h
  exact ⟨e, ⟨g _ _ t1 (by decide), g _ _ t2 (by decide), g _ _ t3 (by decide)⟩, b⟩
abbrev MQu : List (Nat × Nat) := (62, 0) :: (M_RuleBook_settle ++ MC)
section
variable {nf : Nat} {G : List Nat} {c : Zc} {a0 co rp fp ar p cl od ot clf odf otf cla oda ota : Nat} {r w rf wf ra wa a1 : Int32}
set_option maxRecDepth 100000 in
set_option maxHeartbeats 2000000 in
theorem p_PQ_ask (hn : 8589934592 ≤ nf) (W : Zwt zty G c) (h0 : G[a0]? = some 14) (ec : zgr c a0 11 6 = some co) (tc : G[co]? = some 13) (er : zgr c co 10 1 = some rp) (tr : G[rp]? = some 10) (R : Zro G c rp r w cl od ot) (ef : zgr c co 10 2 = some fp) (tf : G[fp]? = some 11) (Rf : Zro G c fp rf wf clf odf otf) (ea : zgr c a0 11 8 = some ar) (ta : G[ar]? = some 61) (ep : zar c ar 5 a1 = some p) (tp : G[p]? = some 12) (Ra : Zro G c p ra wa cla oda ota) : ∃ kk nn x q G', f_PQ_ask nf a0 a1 c = some (kk, nn, x, q) ∧ Zex G G' ∧ Zwt zty G' q ∧ Zfr (G.set p 63) MQu c q ∧ ∃ r1 w1 cl1 od1 ot1 r2 w2 cl2 od2 ot2 r3 w3 cl3, Zro G' q rp r1 w1 cl1 od1 ot1 ∧ Zro G' q fp r2 w2 cl2 od2 ot2 ∧ Zro G' q p r3 w3 cl3 oda ota ∧ kk + (zlg (zln c cl) + 2 * zlg (zln c od)) + (zlg (zln c clf) + 2 * zlg (zln c odf)) + zlg (zln c cla) ≤ (zlg (zln q cl1) + 2 * zlg (zln q od1)) + (zlg (zln q cl2) + 2 * zlg (zln q od2)) + zlg (zln q cl3) ∧ nn + (2 * zln c cl + 4 * zln c od) + (2 * zln c clf + 4 * zln c odf) + 2 * zln c cla ≤ (2 * zln q cl1 + 4 * zln q od1) + (2 * zln q cl2 + 4 * zln q od2) + 2 * zln q cl3 ∧ zln q oda = zln c oda := by
  have l0 : (0 : Int32).toInt = 0 := by decide
  have l4 : (4 : Int32).toInt = 4 := by decide
  have hlt := (List.getElem?_eq_some_iff.mp tp).1
  have W0 : Zwt zty (G.set p 63) c := wt_re W tp rfl zcl_ab
  have tp0 : (G.set p 63)[p]? = some 63 := List.getElem?_set_self hlt
  have h00 := re_get tp h0 (by decide)
  have tc0 := re_get tp tc (by decide)
  have tr0 := re_get tp tr (by decide)
  have tf0 := re_get tp tf (by decide)
  have ta0 := re_get tp ta (by decide)
  have R0 := R.re tp
  have Rf0 := Rf.re tp
  have Ra0 := Ra.re tp
  generalize hG0 : G.set p 63 = G0 at W0 tp0 h00 tc0 tr0 tf0 ta0 R0 Rf0 Ra0 ⊢
  -- an end without rows being made
  have fin : ∀ (x : Int32) (q : Zc), Zwt zty G0 q → Zfr G0 M_RuleBook_settle c q → f_PQ_ask nf a0 a1 c = some (0, 0, x, q) → ∃ kk nn x q G', f_PQ_ask nf a0 a1 c = some (kk, nn, x, q) ∧ Zex G G' ∧ Zwt zty G' q ∧ Zfr G0 MQu c q ∧ ∃ r1 w1 cl1 od1 ot1 r2 w2 cl2 od2 ot2 r3 w3 cl3, Zro G' q rp r1 w1 cl1 od1 ot1 ∧ Zro G' q fp r2 w2 cl2 od2 ot2 ∧ Zro G' q p r3 w3 cl3 oda ota ∧ kk + (zlg (zln c cl) + 2 * zlg (zln c od)) + (zlg (zln c clf) + 2 * zlg (zln c odf)) + zlg (zln c cla) ≤ (zlg (zln q cl1) + 2 * zlg (zln q od1)) + (zlg (zln q cl2) + 2 * zlg (zln q od2)) + zlg (zln q cl3) ∧ nn + (2 * zln c cl + 4 * zln c od) + (2 * zln c clf + 4 * zln c odf) + 2 * zln c cla ≤ (2 * zln q cl1 + 4 * zln q od1) + (2 * zln q cl2 + 4 * zln q od2) + 2 * zln q cl3 ∧ zln q oda = zln c oda := by
    intro x q Wq Fq eq
    have xb : Zex G (G0.set p 12) := by rw [← hG0]; exact re_back tp Zex.rf
    have Wb : Zwt zty (G0.set p 12) q := wt_re Wq tp0 rfl zcl_ba
    refine ⟨0, 0, x, q, G0.set p 12, eq, xb, Wb, Zfr.mo Fq (by decide), r, w, cl, od, ot, rf, wf, clf, odf, otf, ra, wa, cla, (R0.fr Fq tr0 (by decide)).bk tp0, (Rf0.fr Fq tf0 (by decide)).bk tp0, (Ra0.fr Fq tp0 (by decide)).bk tp0, ?_, ?_, (Fq oda 58 Ra0.2.1.2.1).2.2⟩
    · rw [(Fq cl 57 R0.2.1.1).2.2, (Fq od 58 R0.2.1.2.1).2.2, (Fq clf 57 Rf0.2.1.1).2.2, (Fq odf 58 Rf0.2.1.2.1).2.2, (Fq cla 57 Ra0.2.1.1).2.2]; omega
    · rw [(Fq cl 57 R0.2.1.1).2.2, (Fq od 58 R0.2.1.2.1).2.2, (Fq clf 57 Rf0.2.1.1).2.2, (Fq odf 58 Rf0.2.1.2.1).2.2, (Fq cla 57 Ra0.2.1.1).2.2]; omega
  by_cases q1 : a1 < 0
  · exact fin (-1) c W0 Zfr.rf (by unfold f_PQ_ask f_PQ_ask_9; rw [if_pos q1])
  by_cases q2 : a1 < 4
  · have q1' := i_nlt q1
    have q2' := i_lt q2
    obtain ⟨v3, e3, t3⟩ := gf_14_7 W0 h00
    obtain ⟨v4, e4, t4⟩ := ga_60 W0 t3 (i := a1) (by omega) (by omega)
    obtain ⟨v5, e5, _⟩ := gf_3_0 W0 t4
    by_cases q3 : v5 = 0
    · refine fin (-2) c W0 Zfr.rf ?_
      unfold f_PQ_ask
      rw [if_neg q1, if_pos q2, e3]; simp only [Option.bind_some]
      rw [e4]; simp only [Option.bind_some]
      rw [e5]; simp only [Option.bind_some]
      rw [if_pos q3]
    · obtain ⟨v7, e7, t7⟩ := gf_14_5 W0 h00
      obtain ⟨w9, e9⟩ := go_9 W0 t7
      obtain ⟨q8, e8, W8, F8, b8, b8'⟩ := p_RuleBook_settle hn W0 t7
      have hd : ∀ {o}, (if q8.1 = 0 then ((zgr q8.2 a0 11 1).bind fun v11 => (zgi q8.2 v11 0 7).bind fun v12 => (zob q8.2 v4 2).bind fun w14 => (f_Text_work nf v4 v12 q8.2).bind fun q13 => if (lg_cmp q13.1 20000) ≤ 0 then ((zgr q13.2 a0 11 9).bind fun v16 => (zai q13.2 v16 0 a1).bind fun v17 => (zgr q13.2 a0 11 1).bind fun v18 => (zgi q13.2 v18 0 9).bind fun v19 => if v17 = v19 then (f_PQ_ask_102 nf a0 a1 0 0 q13.2) else ((zgr q13.2 a0 11 6).bind fun v24 => (zgr q13.2 a0 11 8).bind fun v25 => (zar q13.2 v25 5 a1).bind fun v26 => (zob q13.2 v24 10).bind fun w28 => (f_Collector_collect nf v24 v4 v26 q13.2).bind fun q27 => f_PQ_ask_89 nf a0 a1 (0 + q27.1) (0 + q27.2.1) q27.2.2)) else (f_PQ_ask_56 nf 0 0 q13.2)) else (f_PQ_ask_56 nf 0 0 q8.2)) = o → f_PQ_ask nf a0 a1 c = o := by
        intro o ho
        unfold f_PQ_ask
        rw [if_neg q1, if_pos q2, e3]; simp only [Option.bind_some]
        rw [e4]; simp only [Option.bind_some]
        rw [e5]; simp only [Option.bind_some]
        rw [if_neg q3, e7]; simp only [Option.bind_some]
        rw [e9]; simp only [Option.bind_some]
        rw [e8]; simp only [Option.bind_some]
        exact ho
      by_cases q4 : q8.1 = 0
      · obtain ⟨v11, e11, t11⟩ := gf_14_1 W8 h00
        obtain ⟨v12, e12, _⟩ := gf_1_7 W8 t11
        obtain ⟨w14, e14⟩ := go_3 W8 t4
        obtain ⟨q13, e13, W13, F13⟩ := p_Text_work (a1 := v12) hn W8 t4
        have K13 : Zfr G0 M_RuleBook_settle c q13.2 := Zfr.tr F8 F13 (by decide)
        by_cases q5 : (lg_cmp q13.1 20000) ≤ 0
        · obtain ⟨v16, e16, t16⟩ := gf_14_9 W13 h00
          obtain ⟨v17, e17, _⟩ := ga_62 W13 t16 (i := a1) (by omega) (by omega)
          obtain ⟨v18, e18, t18⟩ := gf_14_1 W13 h00
          obtain ⟨v19, e19, _⟩ := gf_1_9 W13 t18
          have ea13 := (K13.gr (ci := 11) h00 (j := 8) (by decide)).trans ea
          have ep13 := (K13.ar (t := 5) (i := a1) ta0 (by decide)).trans ep
          by_cases q6 : v17 = v19
          · have Ra13 := Ra0.fr K13 tp0 (by decide)
            refine fin ra q13.2 W13 K13 (hd ?_)
            rw [if_pos q4, e11]; simp only [Option.bind_some]
            rw [e12]; simp only [Option.bind_some]
            rw [e14]; simp only [Option.bind_some]
            rw [e13]; simp only [Option.bind_some]
            rw [if_pos q5, e16]; simp only [Option.bind_some]
            rw [e17]; simp only [Option.bind_some]
            rw [e18]; simp only [Option.bind_some]
            rw [e19]; simp only [Option.bind_some]
            rw [if_pos q6]
            unfold f_PQ_ask_102
            rw [ea13]; simp only [Option.bind_some]
            rw [ep13]; simp only [Option.bind_some]
            rw [Ra13.1.1]; rfl
          · have ec13 := (K13.gr (ci := 11) h00 (j := 6) (by decide)).trans ec
            have er13 := (K13.gr (ci := 10) tc0 (j := 1) (by decide)).trans er
            have ef13 := (K13.gr (ci := 10) tc0 (j := 2) (by decide)).trans ef
            obtain ⟨w28, e28⟩ := go_13 W13 tc0
            obtain ⟨kk, nn, q, G1, eq, x1, Wq, Fq, r1, w1, cl1, od1, ot1, r2, w2, cl2, od2, ot2, r3, w3, cl3, Rq1, Rq2, Rq3, y1, y2, y3⟩ := p_Collector_collect (nf := nf) hn W13 tc0 t4 er13 tr0 (R0.fr K13 tr0 (by decide)) ef13 tf0 (Rf0.fr K13 tf0 (by decide)) tp0 (Ra0.fr K13 tp0 (by decide))
            have Kq : Zfr G0 MQu c q := Zfr.tr (Zfr.mo K13 (by decide)) Fq (by decide)
            obtain ⟨v29, e29, t29⟩ := gf_14_9 Wq (x1.get h00)
            obtain ⟨v30, e30, t30⟩ := gf_14_1 Wq (x1.get h00)
            obtain ⟨v31, e31, _⟩ := gf_1_9 Wq t30
            obtain ⟨z, ez, Wz, fz, _⟩ := pa_62 Wq t29 (i := a1) (by omega) (by omega) (x := v31) trivial
            have Kz : Zfr G0 MQu c z := Zfr.tr Kq (Zfr.lo x1 fz) (by decide)
            have eaz := (Kz.gr (ci := 11) h00 (j := 8) (by decide)).trans ea
            have epz := (Kz.ar (t := 5) (i := a1) ta0 (by decide)).trans ep
            have Rz1 := Rq1.fr fz (x1.get tr0) (by decide)
            have Rz2 := Rq2.fr fz (x1.get tf0) (by decide)
            have Rz3 := Rq3.fr fz (x1.get tp0) (by decide)
            have tp1 := x1.get tp0
            have xb : Zex G (G1.set p 12) := re_back tp (by rw [hG0]; exact x1)
            refine ⟨kk, nn, r3, z, G1.set p 12, hd ?_, xb, wt_re Wz tp1 rfl zcl_ba, Kz, r1, w1, cl1, od1, ot1, r2, w2, cl2, od2, ot2, r3, w3, cl3, Rz1.bk tp1, Rz2.bk tp1, Rz3.bk tp1, ?_, ?_, ?_⟩
            · rw [if_pos q4, e11]; simp only [Option.bind_some]
              rw [e12]; simp only [Option.bind_some]
              rw [e14]; simp only [Option.bind_some]
              rw [e13]; simp only [Option.bind_some]
              rw [if_pos q5, e16]; simp only [Option.bind_some]
              rw [e17]; simp only [Option.bind_some]
              rw [e18]; simp only [Option.bind_some]
              rw [e19]; simp only [Option.bind_some]
              rw [if_neg q6, ec13]; simp only [Option.bind_some]
              rw [ea13]; simp only [Option.bind_some]
              rw [ep13]; simp only [Option.bind_some]
              rw [e28]; simp only [Option.bind_some]
              rw [eq]; simp only [Option.bind_some, Nat.zero_add]
              unfold f_PQ_ask_89
              rw [e29]; simp only [Option.bind_some]
              rw [e30]; simp only [Option.bind_some]
              rw [e31]; simp only [Option.bind_some]
              rw [ez]; simp only [Option.bind_some]
              unfold f_PQ_ask_102
              rw [eaz]; simp only [Option.bind_some]
              rw [epz]; simp only [Option.bind_some]
              rw [Rz3.1.1]; rfl
            · rw [(fz cl1 57 Rq1.2.1.1).2.2, (fz od1 58 Rq1.2.1.2.1).2.2, (fz cl2 57 Rq2.2.1.1).2.2, (fz od2 58 Rq2.2.1.2.1).2.2, (fz cl3 57 Rq3.2.1.1).2.2]
              rw [(K13 cl 57 R0.2.1.1).2.2, (K13 od 58 R0.2.1.2.1).2.2, (K13 clf 57 Rf0.2.1.1).2.2, (K13 odf 58 Rf0.2.1.2.1).2.2, (K13 cla 57 Ra0.2.1.1).2.2] at y1
              exact y1
            · rw [(fz cl1 57 Rq1.2.1.1).2.2, (fz od1 58 Rq1.2.1.2.1).2.2, (fz cl2 57 Rq2.2.1.1).2.2, (fz od2 58 Rq2.2.1.2.1).2.2, (fz cl3 57 Rq3.2.1.1).2.2]
              rw [(K13 cl 57 R0.2.1.1).2.2, (K13 od 58 R0.2.1.2.1).2.2, (K13 clf 57 Rf0.2.1.1).2.2, (K13 odf 58 Rf0.2.1.2.1).2.2, (K13 cla 57 Ra0.2.1.1).2.2] at y2
              exact y2
            · exact (Kz oda 58 Ra0.2.1.2.1).2.2
        · refine fin (-4) q13.2 W13 K13 (hd ?_)
          rw [if_pos q4, e11]; simp only [Option.bind_some]
          rw [e12]; simp only [Option.bind_some]
          rw [e14]; simp only [Option.bind_some]
          rw [e13]; simp only [Option.bind_some]
          rw [if_neg q5]
          rfl
      · refine fin (-4) q8.2 W8 F8 (hd ?_)
        rw [if_neg q4]
        rfl
  · exact fin (-1) c W0 Zfr.rf (by unfold f_PQ_ask f_PQ_ask_9; rw [if_neg q1, if_neg q2])
end
end ZzT
