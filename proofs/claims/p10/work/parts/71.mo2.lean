section ZzT
set_option maxRecDepth 100000 in
set_option maxHeartbeats 1000000 in
theorem p_goesOn {nf : Nat} (hn : 8589934592 ≤ nf) {G : List Nat} {c : Zc} (W : Zwt zty G c) {a0 : Nat} {a1 : Int32} {kn kg ks : Nat} {pv nd ns : Int32} {f g : Nat → Int32} (t : G[a0]? = some 64) (ekn : zgr c a0 12 74 = some kn) (ekg : zgr c a0 12 29 = some kg) (epv : zgi c a0 12 25 = some pv) (end_ : zgi c a0 12 0 = some nd) (eks : zgr c a0 12 26 = some ks) (ens : zai c ks 0 pv = some ns) (hg : Gr c kg g) (hf : Dg c kn nd.toInt f) :
    ∃ q, f_Mo_goesOn nf a0 a1 c = some q ∧ Zwt zty G q.2 ∧ Zfr G [(121, 0)] c q.2 ∧ 0 ≤ q.1.toInt ∧ q.1.toInt ≤ 1 ∧ ∃ f', Dg q.2 kn nd.toInt f' ∧ (∀ i : Nat, i < 8 → (ns.toInt ≤ (i : Int) ∨ sl g pv.toInt.toNat a1 i = false) → f' i = f i) ∧ (q.1.toInt = 1 → od nd.toInt.toNat (dg f') (sl g pv.toInt.toNat a1) ns.toInt.toNat = od nd.toInt.toNat (dg f) (sl g pv.toInt.toNat a1) ns.toInt.toNat + 1) := by
  obtain ⟨kn', e1, tkn⟩ := gf_64_74 W t
  rw [ekn] at e1; cases e1
  obtain ⟨kg', e1, tkg⟩ := gf_64_29 W t
  rw [ekg] at e1; cases e1
  obtain ⟨ks', e1, tks⟩ := gf_64_26 W t
  rw [eks] at e1; cases e1
  obtain ⟨pv', e1, lp, up⟩ := gf_64_25 W t
  rw [epv] at e1; cases e1
  obtain ⟨nd', e1, ld, ud⟩ := gf_64_0 W t
  rw [end_] at e1; cases e1
  obtain ⟨ns', e1, ls, us⟩ := ga_79 W tks (i := pv) (by omega) (by omega)
  rw [ens] at e1; cases e1
  have hne : a0 ≠ kn := pl_ne t tkn (by decide)
  have l1 : (1 : Int32).toInt = 1 := by decide
  have lm1 : (-1 : Int32).toInt = -1 := by decide
  have l0 : (0 : Int32).toInt = 0 := by decide
  have l8 : (8 : Int32).toInt = 8 := by decide
  unfold f_Mo_goesOn
  refine wb eks ?_
  refine wb epv ?_
  refine wb ens ?_
  unfold f_Mo_goesOn_12
  have s1 := i_sub (a := ns) (b := 1) (by omega) (by omega)
  rw [l1] at s1
  generalize ns - 1 = n1 at s1 ⊢
  have L : ∃ b, zlp (fun a : Nat × Int32 × Int32 × Zc => g_Mo_goesOn_12 nf a.1 a.2.1 a.2.2.1 a.2.2.2) nf (a0, a1, n1, c) = some b ∧ (fun b : Zc ⊕ Zc => match b with
      | .inl b => Zwt zty G b ∧ Zfr G [(121, 0)] c b ∧ ∃ f', Dg b kn nd.toInt f' ∧ (∀ i : Nat, i < 8 → (ns.toInt ≤ (i : Int) ∨ sl g pv.toInt.toNat a1 i = false) → f' i = f i) ∧ od nd.toInt.toNat (dg f') (sl g pv.toInt.toNat a1) ns.toInt.toNat = od nd.toInt.toNat (dg f) (sl g pv.toInt.toNat a1) ns.toInt.toNat + 1
      | .inr b => Zwt zty G b ∧ Zfr G [(121, 0)] c b ∧ ∃ f', Dg b kn nd.toInt f' ∧ (∀ i : Nat, i < 8 → (ns.toInt ≤ (i : Int) ∨ sl g pv.toInt.toNat a1 i = false) → f' i = f i)) b := by
    refine wlp (fun a : Nat × Int32 × Int32 × Zc => a0 = a.1 ∧ a1 = a.2.1 ∧ Zwt zty G a.2.2.2 ∧ Zfr G [(121, 0)] c a.2.2.2 ∧ -1 ≤ a.2.2.1.toInt ∧ a.2.2.1.toInt ≤ ns.toInt - 1 ∧ ∃ f', Dg a.2.2.2 kn nd.toInt f' ∧ (∀ i : Nat, i < 8 → (ns.toInt ≤ (i : Int) ∨ sl g pv.toInt.toNat a1 i = false) → f' i = f i) ∧ (∀ i : Nat, (i : Int) ≤ a.2.2.1.toInt → f' i = f i) ∧ (∀ i : Nat, a.2.2.1.toInt < (i : Int) → (i : Int) < ns.toInt → sl g pv.toInt.toNat a1 i = true → (f' i).toInt = 0) ∧ ∃ w, Ow nd.toInt.toNat (dg f) (sl g pv.toInt.toNat a1) ns.toInt.toNat (a.2.2.1.toInt + 1).toNat w) (fun a => (a.2.2.1.toInt + 1).toNat) _ ?_ ?_ ?_
    · rintro ⟨x0, x1, x2, c1⟩ hI
      dsimp only at hI ⊢
      obtain ⟨rfl, rfl, W1, F1, lx, ux, f1, ⟨hf1, hb1⟩, ho, hle, hz, w, hO⟩ := hI
      unfold g_Mo_goesOn_12
      refine wi (fun h => ?_) (fun h => ?_)
      · exact lInr ⟨W1, F1, f1, ⟨hf1, hb1⟩, ho⟩
      have h := i_nlt h
      rw [l0] at h
      obtain ⟨X, hX⟩ : ∃ X : Nat, x2.toInt = X := ⟨x2.toInt.toNat, by omega⟩
      have hXn : x2.toInt.toNat = X := by omega
      have hX8 : X < 8 := by omega
      have ix : ((8 * pv) + x2).toInt = 8 * pv.toInt + x2.toInt := by
        have m := i_mull (a := 8) (b := pv) (n := 8) l8 (by omega) (by omega)
        rw [i_add (by omega) (by omega), m]
      have hg1 : c1[kg]? = some (.inl (0, 72, .inl g)) := fr_cell F1 tkg (by decide) hg
      refine wb ((Zfr.gr F1 t (by decide)).trans ekg) ?_
      refine wb ((Zfr.gi F1 t (by decide)).trans epv) ?_
      generalize (8 * pv) + x2 = xx at ix ⊢
      have rg1 := rd_ai (i := xx) hg1 (by omega) (by omega)
      have hxe : xx.toInt.toNat = 8 * pv.toInt.toNat + X := by omega
      rw [hxe] at rg1
      refine wb rg1 ?_
      have sm := i_add (a := x2) (b := -1) (by omega) (by omega)
      rw [lm1] at sm
      unfold f_Mo_goesOn_66
      generalize x2 + -1 = y2 at sm ⊢
      refine wi (fun hv => ?_) (fun hv => ?_)
      · have hs : sl g pv.toInt.toNat a1 X = true := by unfold sl; exact decide_eq_true hv
        have ekn1 := (Zfr.gr F1 t (by decide) : zgr c1 a0 12 74 = _).trans ekn
        refine wb ekn1 ?_
        have rn1 := rd_ai (i := x2) hf1 (by omega) (by omega)
        rw [hXn, hle X (by omega)] at rn1
        have bx := hb1 X hX8
        rw [hle X (by omega)] at bx
        refine wb rn1 ?_
        have ad := i_add (a := f X) (b := 1) (by omega) (by omega)
        rw [l1] at ad
        have hkl : kn < c1.length := (List.getElem?_eq_some_iff.mp hf1).1
        by_cases hlt : (f X).toInt + 1 < nd.toInt
        · obtain ⟨c11, e11, W11, F11, g11⟩ := pa_121 W1 tkn (i := x2) (by omega) (by omega) (x := f X + 1) (rgi (by omega) (by omega))
          refine wb e11 ?_
          have hf11 := (wr_x hf1 e11).1
          rw [hXn] at hf11
          refine wb ((Zfr.gr F11 t (by decide)).trans ekn1) ?_
          refine wb g11 ?_
          refine wb ((Zfr.gi F11 t (by decide)).trans ((Zfr.gi F1 t (by decide)).trans end_)) ?_
          refine wi (fun hq => ?_) (fun hq => ?_)
          · have := i_le hq
            omega
          · refine lInr ⟨W11, Zfr.tr F1 F11 (by decide), _, ⟨hf11, ?_⟩, ?_, ?_⟩
            · intro i hi
              by_cases q : i = X
              · subst q; rw [upd_s]; omega
              · rw [upd_n q]; exact hb1 i hi
            · intro i hi hh
              have q : i ≠ X := by
                rintro rfl
                rcases hh with hh | hh
                · omega
                · rw [hs] at hh; cases hh
              rw [upd_n q]; exact ho i hi hh
            · have hw : (x2.toInt + 1).toNat = X + 1 := by omega
              rw [hw] at hO
              refine Ow_inc hs hO ?_ ?_ ?_
              · intro i hi
                unfold dg
                rw [upd_n (by omega), hle i (by omega)]
              · unfold dg
                rw [upd_s]; omega
              · intro i h1 h2 h3
                unfold dg
                rw [upd_n (by omega), hz i (by omega) (by omega) h3]; rfl
        · have e11 := wr_si (i := x2) (x := f X + 1) hf1 (by omega) (by omega)
          refine wb e11 ?_
          rw [hXn]
          refine wb ((rw_gr hne).trans ekn1) ?_
          have hf11 : (c1.set kn (.inl (0, 8, .inl (upd f1 X (f X + 1)))))[kn]? = some (.inl (0, 8, .inl (upd f1 X (f X + 1)))) := List.getElem?_set_self hkl
          have rn2 := rd_ai (i := x2) hf11 (by omega) (by omega)
          rw [hXn, upd_s] at rn2
          refine wb rn2 ?_
          refine wb ((rw_gi hne).trans ((Zfr.gi F1 t (by decide)).trans end_)) ?_
          refine wi (fun hq => ?_) (fun hq => ?_)
          · refine wb ((rw_gr hne).trans ekn1) ?_
            have e17 := wr_si (i := x2) (x := 0) hf11 (by omega) (by omega)
            rw [hXn, upd_u, List.set_set] at e17
            obtain ⟨c17, e18, W17, F17, g17⟩ := pa_121 W1 tkn (i := x2) (by omega) (by omega) (x := 0) (rgi (by decide) (by decide))
            have hf17 := (wr_x hf1 e18).1
            have e19 := wr_si (i := x2) (x := 0) hf1 (by omega) (by omega)
            rw [hXn] at e19 hf17
            have : c17 = c1.set kn (.inl (0, 8, .inl (upd f1 X 0))) := Option.some.inj (e18.symm.trans e19)
            subst this
            refine wb e17 ?_
            refine lInl ⟨rfl, rfl, W17, Zfr.tr F1 F17 (by decide), by dsimp only; omega, by dsimp only; omega, _, ⟨hf17, ?_⟩, ?_, ?_, ?_, nd.toInt.toNat * w, ?_⟩ (by dsimp only; omega)
            · intro i hi
              by_cases q : i = X
              · subst q; rw [upd_s]; omega
              · rw [upd_n q]; exact hb1 i hi
            · intro i hi hh
              have q : i ≠ X := by
                rintro rfl
                rcases hh with hh | hh
                · omega
                · rw [hs] at hh; cases hh
              rw [upd_n q]; exact ho i hi hh
            · intro i hi
              dsimp only at hi
              rw [upd_n (by omega)]; exact hle i (by omega)
            · intro i h1 h2 h3
              dsimp only at h1
              by_cases q : i = X
              · subst q; rw [upd_s]; exact l0
              · rw [upd_n q]; exact hz i (by omega) h2 h3
            · have hw : (x2.toInt + 1).toNat = X + 1 := by omega
              rw [hw] at hO
              dsimp only
              have hw2 : (y2.toInt + 1).toNat = X := by omega
              rw [hw2]
              exact Ow_car hs (by unfold dg; omega) (by omega) hO
          · have := i_nle hq
            omega
      · have hs : sl g pv.toInt.toNat a1 X = false := by unfold sl; exact decide_eq_false hv
        refine lInl ⟨rfl, rfl, W1, F1, by dsimp only; omega, by dsimp only; omega, f1, ⟨hf1, hb1⟩, ho, ?_, ?_, w, ?_⟩ (by dsimp only; omega)
        · intro i hi
          dsimp only at hi
          exact hle i (by omega)
        · intro i h1 h2 h3
          dsimp only at h1
          by_cases q : i = X
          · subst q; rw [hs] at h3; cases h3
          · exact hz i (by omega) h2 h3
        · have hw : (x2.toInt + 1).toNat = X + 1 := by omega
          rw [hw] at hO
          dsimp only
          have hw2 : (y2.toInt + 1).toNat = X := by omega
          rw [hw2]
          exact Ow_skip hs hO
    · refine ⟨rfl, rfl, W, Zfr.rf, by dsimp only; omega, by dsimp only; omega, f, hf, fun _ _ _ => rfl, fun _ _ => rfl, ?_, 1, ?_⟩
      · intro i h1 h2
        dsimp only at h1
        omega
      · dsimp only
        have : (n1.toInt + 1).toNat = ns.toInt.toNat := by omega
        rw [this]
        exact Ow_0
    · dsimp only
      omega
  obtain ⟨b, eb, hb⟩ := L
  refine wb eb ?_
  rcases b with b | b
  · obtain ⟨h1, h2, f', h3, h4, h5⟩ := hb
    exact wz (rgi (by decide) (by decide)) ⟨h1, h2, by dsimp only; omega, by dsimp only; omega, f', h3, h4, fun _ => h5⟩
  · obtain ⟨h1, h2, f', h3, h4⟩ := hb
    exact wz (rgi (by decide) (by decide)) ⟨h1, h2, by dsimp only; omega, by dsimp only; omega, f', h3, h4, fun q => by dsimp only at q; omega⟩
end ZzT
