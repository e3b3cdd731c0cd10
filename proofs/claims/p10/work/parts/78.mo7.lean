section ZzT
abbrev M_Mo_workRules : List (Nat × Nat) := [(64, 10), (64, 11), (64, 25), (72, 0), (117, 0), (118, 0), (119, 0), (120, 0), (121, 0), (122, 0), (123, 0), (124, 0)]
set_option maxRecDepth 100000 in
set_option maxHeartbeats 1000000 in
theorem p_Mo_workRules {nf : Nat} (hn : 8589934592 ≤ nf) {G : List Nat} {c : Zc} (W : Zwt zty G c) {a0 : Nat} (t_a0 : G[a0]? = some 64) (hG : GtM c a0) : ∃ q, f_Mo_workRules nf a0 c = some q ∧ Zwt zty G q ∧ Zfr G M_Mo_workRules c q := by
  have l1 : (1 : Int32).toInt = 1 := by decide
  have l0 : (0 : Int32).toInt = 0 := by decide
  have l4 : (4 : Int32).toInt = 4 := by decide
  have l8 : (8 : Int32).toInt = 8 := by decide
  have l16 : (16 : Int32).toInt = 16 := by decide
  have l100 : (100 : Int32).toInt = 100 := by decide
  have l256 : (256 : Int32).toInt = 256 := by decide
  have l3072 : (3072 : Int32).toInt = 3072 := by decide
  have l3328 : (3328 : Int32).toInt = 3328 := by decide
  have t := t_a0
  obtain ⟨kl, ekl, tkl⟩ := gf_64_9 W t
  obtain ⟨kh, ekh, tkh⟩ := gf_64_3 W t
  obtain ⟨kf, ekf, tkf⟩ := gf_64_4 W t
  obtain ⟨kt, ekt, tkt⟩ := gf_64_5 W t
  obtain ⟨kb, ekb, tkb⟩ := gf_64_6 W t
  obtain ⟨kr, ekr, tkr⟩ := gf_64_23 W t
  obtain ⟨kz, ekz, tkz⟩ := gf_64_22 W t
  obtain ⟨ks, eks, tks⟩ := gf_64_26 W t
  obtain ⟨nd, end0, ld, ud⟩ := gf_64_0 W t
  obtain ⟨v1, ev1, _, _⟩ := gf_64_10 W t
  unfold f_Mo_workRules
  refine wb ev1 ?_
  refine wi (fun h => ?_) (fun h => ?_)
  · exact ⟨_, rfl, W, Zfr.rf⟩
  obtain ⟨c3, e3, W3, F3, _⟩ := pf_64_10 W t (x := 0) (rgi (by decide) (by decide))
  refine wb e3 ?_
  obtain ⟨c4, e4, W4, F4, _⟩ := pf_64_11 W3 t (x := 0) (rgi (by decide) (by decide))
  refine wb e4 ?_
  have F04 : Zfr G M_Mo_workRules c c4 := Zfr.tr (Zfr.mo F3 (by decide)) F4 (by decide)
  obtain ⟨f4, hf4, _⟩ := wt_cell W4 tkl rfl
  unfold f_Mo_workRules_20
  have L : ∃ b, zlp (fun a : Nat × Int32 × Zc => g_Mo_workRules_20 nf a.1 a.2.1 a.2.2) nf (a0, 0, c4) = some b ∧ (fun b : Nat × Zc => a0 = b.1 ∧ Zwt zty G b.2 ∧ Zfr G M_Mo_workRules c b.2 ∧ ∃ f', b.2[kl]? = some (.inl (0, 3328, .inl f')) ∧ ∀ i : Nat, i < 3328 → f' i = 0) b := by
    refine wlp (fun a : Nat × Int32 × Zc => a0 = a.1 ∧ Zwt zty G a.2.2 ∧ Zfr G M_Mo_workRules c a.2.2 ∧ 0 ≤ a.2.1.toInt ∧ a.2.1.toInt ≤ 3328 ∧ ∃ f', a.2.2[kl]? = some (.inl (0, 3328, .inl f')) ∧ ∀ i : Nat, i < 3328 → (i : Int) < a.2.1.toInt → f' i = 0) (fun a => (3328 - a.2.1.toInt).toNat) _ ?_ ?_ ?_
    · rintro ⟨x0, x1, c1⟩ hI
      dsimp only at hI ⊢
      obtain ⟨rfl, W1, F1, lx, ux, f1, hf1, hz⟩ := hI
      unfold g_Mo_workRules_20
      refine wi (fun h => ?_) (fun h => ?_)
      · have h := i_le h
        exact lInr ⟨rfl, W1, F1, f1, hf1, fun i hi => hz i hi (by omega)⟩
      have h := i_nle h
      refine wb ((Zfr.gr F1 t (by decide)).trans ekl) ?_
      obtain ⟨c11, e11, W11, F11, _⟩ := pa_72 W1 tkl (i := x1) (by omega) (by omega) (x := 0) trivial
      refine wb e11 ?_
      have hf11 := (wr_x hf1 e11).1
      have sm := i_add (a := x1) (b := 1) (by omega) (by omega)
      refine lInl ⟨rfl, W11, Zfr.tr F1 F11 (by decide), by dsimp only; omega, by dsimp only; omega, _, hf11, ?_⟩ (by dsimp only; omega)
      intro i hi h2
      dsimp only at h2
      by_cases q : i = x1.toInt.toNat
      · subst q; rw [upd_s]
      · rw [upd_n q]; exact hz i hi (by omega)
    · exact ⟨rfl, W4, F04, by dsimp only; omega, by dsimp only; omega, f4, hf4, fun i _ h => by dsimp only at h; omega⟩
    · dsimp only; omega
  obtain ⟨⟨z0, c5⟩, eb, hb⟩ := L
  refine wb eb ?_
  dsimp only at hb ⊢
  obtain ⟨rfl, W5, F5, f5, hf5, hz5⟩ := hb
  unfold f_Mo_workRules_42
  have L : ∃ b, zlp (fun a : Nat × Int32 × Zc => g_Mo_workRules_42 nf a.1 a.2.1 a.2.2) nf (a0, 0, c5) = some b ∧ (fun b : Nat × Zc => a0 = b.1 ∧ Zwt zty G b.2 ∧ Zfr G M_Mo_workRules c b.2 ∧ ∃ f', b.2[kl]? = some (.inl (0, 3328, .inl f')) ∧ LdB f') b := by
    refine wlp (fun a : Nat × Int32 × Zc => a0 = a.1 ∧ Zwt zty G a.2.2 ∧ Zfr G M_Mo_workRules c a.2.2 ∧ 0 ≤ a.2.1.toInt ∧ a.2.1.toInt ≤ 100 ∧ ∃ f', a.2.2[kl]? = some (.inl (0, 3328, .inl f')) ∧ LdB f') (fun a => (100 - a.2.1.toInt).toNat) _ ?_ ?_ ?_
    · rintro ⟨x0, x1, c1⟩ hI
      dsimp only at hI ⊢
      obtain ⟨rfl, W1, F1, lx, ux, f1, hf1, hz⟩ := hI
      unfold g_Mo_workRules_42 f_Mo_workRules_122
      refine wi (fun h => ?_) (fun h => ?_)
      · exact lInr ⟨rfl, W1, F1, f1, hf1, hz⟩
      have h := i_nle h
      have sm := i_add (a := x1) (b := 1) (by omega) (by omega)
      refine wb ((Zfr.gr F1 t (by decide)).trans ekh) ?_
      obtain ⟨v10, e10, _, _⟩ := ga_67 W1 tkh (i := x1) (by omega) (by omega)
      refine wb e10 ?_
      refine wi (fun h0 => ?_) (fun h0 => ?_)
      · exact lInl ⟨rfl, W1, F1, by dsimp only; omega, by dsimp only; omega, f1, hf1, hz⟩ (by dsimp only; omega)
      refine wb ((Zfr.gr F1 t (by decide)).trans ekl) ?_
      refine wb ((Zfr.gr F1 t (by decide)).trans ekb) ?_
      obtain ⟨v14, e14, l14, u14⟩ := ga_70 W1 tkb (i := x1) (by omega) (by omega)
      refine wb e14 ?_
      refine wb ((Zfr.gr F1 t (by decide)).trans ekf) ?_
      obtain ⟨v16, e16, l16', u16⟩ := ga_68 W1 tkf (i := x1) (by omega) (by omega)
      refine wb e16 ?_
      refine wb ((Zfr.gr F1 t (by decide)).trans ekt) ?_
      obtain ⟨v18, e18, l18, u18⟩ := ga_69 W1 tkt (i := x1) (by omega) (by omega)
      refine wb e18 ?_
      have m1 := i_mull (a := 256) (b := v14) (n := 256) l256 (by omega) (by omega)
      have m2 := i_mull (a := 16) (b := v16) (n := 16) l16 (by omega) (by omega)
      have a1 := i_add (a := 256 * v14) (b := 16 * v16) (by omega) (by omega)
      have a2 := i_add (a := 256 * v14 + 16 * v16) (b := v18) (by omega) (by omega)
      rw [a1, m1, m2] at a2
      have a3 := i_add (a := 3072) (b := 16 * v16) (by omega) (by omega)
      have a4 := i_add (a := 3072 + 16 * v16) (b := v18) (by omega) (by omega)
      rw [a3, m2, l3072] at a4
      generalize hi1 : 256 * v14 + 16 * v16 + v18 = i1 at a2 ⊢
      obtain ⟨v19, e19, _⟩ := ga_72 W1 tkl (i := i1) (by omega) (by omega)
      refine wb e19 ?_
      obtain ⟨c20, e20, W20, F20, _⟩ := pa_72 W1 tkl (i := i1) (by omega) (by omega) (x := v19 + 1) trivial
      refine wb e20 ?_
      have hf20 := (wr_x hf1 e20).1
      have F120 : Zfr G M_Mo_workRules c c20 := Zfr.tr F1 F20 (by decide)
      refine wb ((Zfr.gr F120 t (by decide)).trans ekl) ?_
      refine wb ((Zfr.gr F120 t (by decide)).trans ekf) ?_
      refine wb ((Zfr.ai F20 tkf (by decide)).trans e16) ?_
      refine wb ((Zfr.gr F120 t (by decide)).trans ekt) ?_
      refine wb ((Zfr.ai F20 tkt (by decide)).trans e18) ?_
      generalize hi2 : 3072 + 16 * v16 + v18 = i2 at a4 ⊢
      obtain ⟨v26, e26, _⟩ := ga_72 W20 tkl (i := i2) (by omega) (by omega)
      refine wb e26 ?_
      obtain ⟨c27, e27, W27, F27, _⟩ := pa_72 W20 tkl (i := i2) (by omega) (by omega) (x := v26 + 1) trivial
      refine wb e27 ?_
      have hf27 := (wr_x hf20 e27).1
      refine lInl ⟨rfl, W27, Zfr.tr F120 F27 (by decide), by dsimp only; omega, by dsimp only; omega, _, hf27, ?_⟩ (by dsimp only; omega)
      intro i hi
      rw [upd_n (by omega), upd_n (by omega)]
      exact hz i hi
    · exact ⟨rfl, W5, F5, by dsimp only; omega, by dsimp only; omega, f5, hf5, fun i hi => .inl (hz5 _ (by omega))⟩
    · dsimp only; omega
  obtain ⟨⟨z0, c6⟩, eb, hb⟩ := L
  refine wb eb ?_
  dsimp only at hb ⊢
  obtain ⟨rfl, W6, F6, f6, hf6, hb6⟩ := hb
  unfold f_Mo_workRules_132
  have L : ∃ b, zlp (fun a : Nat × Int64 × Int32 × Zc => g_Mo_workRules_132 nf a.1 a.2.1 a.2.2.1 a.2.2.2) nf (a0, 0, 4, c6) = some b ∧ (fun b : Nat × Int64 × Zc => a0 = b.1 ∧ Zwt zty G b.2.2 ∧ Zfr G M_Mo_workRules c b.2.2 ∧ Zfr G [(64, 11)] c6 b.2.2) b := by
    refine wlp (fun a : Nat × Int64 × Int32 × Zc => a0 = a.1 ∧ Zwt zty G a.2.2.2 ∧ Zfr G M_Mo_workRules c a.2.2.2 ∧ Zfr G [(64, 11)] c6 a.2.2.2 ∧ 4 ≤ a.2.2.1.toInt ∧ a.2.2.1.toInt ≤ 8) (fun a => (8 - a.2.2.1.toInt).toNat) _ ?_ ?_ ?_
    · rintro ⟨x0, x1, x3, c1⟩ hI
      dsimp only at hI ⊢
      obtain ⟨rfl, W1, F1, Q1, lx, ux⟩ := hI
      unfold g_Mo_workRules_132 f_Mo_workRules_178 f_Mo_workRules_187
      refine wi (fun h => ?_) (fun h => ?_)
      · exact lInr ⟨rfl, W1, F1, Q1⟩
      have h := i_nle h
      have sm := i_add (a := x3) (b := 1) (by omega) (by omega)
      refine wb ((Zfr.gr F1 t (by decide)).trans ekr) ?_
      obtain ⟨v30, e30, _, _⟩ := ga_78 W1 tkr (i := x3) (by omega) (by omega)
      refine wb e30 ?_
      refine wi (fun h0 => ?_) (fun h0 => ?_)
      · exact lInl ⟨rfl, W1, F1, Q1, by dsimp only; omega, by dsimp only; omega⟩ (by dsimp only; omega)
      refine wb ((Zfr.gr F1 t (by decide)).trans ekz) ?_
      obtain ⟨v33, e33, l33, u33⟩ := ga_77 W1 tkz (i := x3) (by omega) (by omega)
      refine wb e33 ?_
      obtain ⟨vs, ev⟩ := go_64 W1 t
      refine wb ev ?_
      obtain ⟨ns, ens, lns, uns⟩ := ga_79 W1 tks (i := v33) (by omega) (by omega)
      obtain ⟨q34, e34, hq, _⟩ := p_workOf hn W1 t ((Zfr.gi F1 t (by decide)).trans end0) ((Zfr.gr F1 t (by decide)).trans eks) ens lns uns
      refine wb e34 ?_
      rw [hq]
      obtain ⟨v36, e36, l36, u36⟩ := gf_64_11 W1 t
      refine wb e36 ?_
      have h36 := i_01 ⟨l36, u36⟩
      refine wi (fun _ => ?_) (fun _ => ?_)
      · obtain ⟨c38, e38, W38, F38, _⟩ := pz_64_11 W1 t (x := v36 ||| 0) (by rcases h36 with rfl | rfl <;> exact ⟨by decide, by decide⟩)
        refine wb e38 ?_
        exact lInl ⟨rfl, W38, Zfr.tr F1 F38 (by decide), Zfr.tr Q1 F38 (by decide), by dsimp only; omega, by dsimp only; omega⟩ (by dsimp only; omega)
      · obtain ⟨c38, e38, W38, F38, _⟩ := pz_64_11 W1 t (x := v36 ||| 1) (by rcases h36 with rfl | rfl <;> exact ⟨by decide, by decide⟩)
        refine wb e38 ?_
        exact lInl ⟨rfl, W38, Zfr.tr F1 F38 (by decide), Zfr.tr Q1 F38 (by decide), by dsimp only; omega, by dsimp only; omega⟩ (by dsimp only; omega)
    · exact ⟨rfl, W6, F6, Zfr.rf, by dsimp only; omega, by dsimp only; omega⟩
    · dsimp only; omega
  obtain ⟨⟨z0, z1, c7⟩, eb, hb⟩ := L
  refine wb eb ?_
  dsimp only at hb ⊢
  obtain ⟨rfl, W7, F7, Q7⟩ := hb
  have hf7 := fr_cell Q7 tkl (by decide) hf6
  obtain ⟨v39, e39, _, _⟩ := gf_64_11 W7 t
  refine wb e39 ?_
  unfold f_Mo_workRules_207 f_Mo_workRules_209
  have main : ∀ s0 : Int32, ∃ q, ((zlp (fun a : Nat × Int64 × Int64 × Int32 × Zc => g_Mo_workRules_209 nf a.1 a.2.1 a.2.2.1 a.2.2.2.1 a.2.2.2.2) nf (a0, z1, 0, s0, c7)).bind fun b => Sum.elim (fun b => (zpv b.2 b.1 12 11 (.int 1)).bind fun c45 => some c45) (fun b => some b) b) = some q ∧ Zwt zty G q ∧ Zfr G M_Mo_workRules c q := by
    intro s0
    have L : ∃ b, zlp (fun a : Nat × Int64 × Int64 × Int32 × Zc => g_Mo_workRules_209 nf a.1 a.2.1 a.2.2.1 a.2.2.2.1 a.2.2.2.2) nf (a0, z1, 0, s0, c7) = some b ∧ (fun b : (Nat × Zc) ⊕ Zc => match b with
        | .inl b => a0 = b.1 ∧ Zwt zty G b.2 ∧ Zfr G M_Mo_workRules c b.2
        | .inr b => Zwt zty G b ∧ Zfr G M_Mo_workRules c b) b := by
      refine wlp (fun a : Nat × Int64 × Int64 × Int32 × Zc => a0 = a.1 ∧ Zwt zty G a.2.2.2.2 ∧ Zfr G M_Mo_workRules c a.2.2.2.2 ∧ ∃ f', a.2.2.2.2[kl]? = some (.inl (0, 3328, .inl f')) ∧ LdB f') (fun a => if a.2.2.2.1 = 0 then 0 else 1025 - cnR (rdf a.2.2.2.2 kl)) _ ?_ ?_ ?_
      · rintro ⟨x0, x1, x3, x5, c1⟩ hI
        dsimp only at hI ⊢
        obtain ⟨rfl, W1, F1, f1, hf1, hb1⟩ := hI
        unfold g_Mo_workRules_209
        refine wi (fun h => ?_) (fun h => ?_)
        · exact lInr ⟨W1, F1⟩
        refine wi (fun _ => ?_) (fun _ => ?_)
        · obtain ⟨vs, ev⟩ := go_64 W1 t
          refine wb ev ?_
          obtain ⟨q, e, Wq, Fq, lq, uq, f2, hf2, hb2, hc2⟩ := p_round hn W1 t (GtM_fr hG F1 t W (by decide)) ((Zfr.gr F1 t (by decide)).trans ekl) hf1 hb1
          refine wb e ?_
          refine lInl ⟨rfl, Wq, Zfr.tr F1 Fq (by decide), f2, hf2, hb2⟩ ?_
          dsimp only
          rw [rdf_e hf2, rdf_e hf1, if_neg h]
          have c1 : cnR f1 ≤ 1024 := cn_le
          have c2 : cnR f2 ≤ 1024 := cn_le
          by_cases hq : q.1 = 0
          · rw [if_pos hq]; omega
          · rw [if_neg hq]
            have := i_ne hq
            omega
        · exact lInr ⟨rfl, W1, F1⟩
      · exact ⟨rfl, W7, F7, f6, hf7, hb6⟩
      · dsimp only
        split <;> omega
    obtain ⟨b, eb, hb⟩ := L
    refine wb eb ?_
    rcases b with ⟨b0, b⟩ | b
    · obtain ⟨rfl, Wb, Fb⟩ := hb
      obtain ⟨c45, e45, W45, F45, _⟩ := pf_64_11 Wb t (x := 1) (rgi (by decide) (by decide))
      exact wb e45 ⟨_, rfl, W45, Zfr.tr Fb F45 (by decide)⟩
    · exact ⟨_, rfl, hb.1, hb.2⟩
  exact wi (fun _ => main 1) (fun _ => main 0)
end ZzT
