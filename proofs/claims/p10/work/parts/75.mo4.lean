section ZzT
abbrev WKM : List (Nat × Nat) := [(121, 0), (122, 0), (123, 0)]
set_option maxRecDepth 100000 in
set_option maxHeartbeats 2000000 in
theorem p_work {nf : Nat} (hn : 8589934592 ≤ nf) {G : List Nat} {c : Zc} (W : Zwt zty G c) {m kn kg ks : Nat} {a1 a2 pv nd ns : Int32} {f g : Nat → Int32} (E : Ev G c m kn kg ks pv nd ns g) (hf : Dg c kn nd.toInt f) (h0 : 0 ≤ a1.toInt) (h1 : a1.toInt ≤ 511) (hw : WfA c m (a2 + a1)) :
    ∃ q, f_Mo_work nf m a1 a2 c = some q ∧ Zwt zty G q.2 ∧ Zfr G WKM c q.2 ∧ ∃ f', Dg q.2 kn nd.toInt f' ∧ ∀ i : Nat, i < 8 → sl g pv.toInt.toNat 0 i = true → f' i = f i := by
  obtain ⟨tkn, ⟨lp, up⟩, ⟨ld, ud⟩, ls, us⟩ := Ev_rg W E
  have l1 : (1 : Int32).toInt = 1 := by decide
  have l0 : (0 : Int32).toInt = 0 := by decide
  have l4 : (4 : Int32).toInt = 4 := by decide
  have l3 : (3 : Int32).toInt = 3 := by decide
  have l99 : (99 : Int32).toInt = 99 := by decide
  have l19 : (19 : Int32).toInt = 19 := by decide
  have l7 : (7 : Int32).toInt = 7 := by decide
  have l18 : (18 : Int32).toInt = 18 := by decide
  have l2 : (2 : Int32).toInt = 2 := by decide
  have lm1 : (-1 : Int32).toInt = -1 := by decide
  have t := E.1
  obtain ⟨kc, ekc, tkc⟩ := gf_64_50 W t
  obtain ⟨ka, eka, tka⟩ := gf_64_51 W t
  obtain ⟨kt, ekt, tkt⟩ := gf_64_76 W t
  obtain ⟨kl, ekl, tkl⟩ := gf_64_75 W t
  obtain ⟨ko, eko, tko⟩ := gf_64_2 W t
  obtain ⟨n0, hn0, hw⟩ := hw
  have hw := hw kc ka ekc eka
  unfold f_Mo_work f_Mo_work_5
  have L : ∃ b, zlp (fun a : Nat × Int32 × Int32 × Int32 × Zc => g_Mo_work_5 nf a.1 a.2.1 a.2.2.1 a.2.2.2.1 a.2.2.2.2) nf (m, a2, 0, a1, c) = some b ∧ (fun b : Nat × Zc => m = b.1 ∧ Zwt zty G b.2 ∧ Zfr G WKM c b.2 ∧ ∃ f', Dg b.2 kn nd.toInt f' ∧ ∀ i : Nat, i < 8 → sl g pv.toInt.toNat 0 i = true → f' i = f i) b := by
    refine wlp (fun a : Nat × Int32 × Int32 × Int32 × Zc => m = a.1 ∧ a2 = a.2.1 ∧ Zwt zty G a.2.2.2.2 ∧ Zfr G WKM c a.2.2.2.2 ∧ 0 ≤ a.2.2.1.toInt ∧ a.2.2.1.toInt ≤ 256 ∧ 0 ≤ a.2.2.2.1.toInt ∧ (∃ n : Nat, (n : Int) + a.2.2.2.1.toInt ≤ 1100 ∧ WFr c kc ka n (a2 + a.2.2.2.1) a.2.2.1.toInt) ∧ ∃ f', Dg a.2.2.2.2 kn nd.toInt f' ∧ ∀ i : Nat, i < 8 → sl g pv.toInt.toNat 0 i = true → f' i = f i) (fun a => (1100 - a.2.2.2.1.toInt).toNat) _ ?_ ?_ ?_
    · rintro ⟨x0, x2, x3, x4, c1⟩ hI
      dsimp only at hI ⊢
      obtain ⟨rfl, rfl, W1, F1, lx, ux, lk, ⟨n, hnn, hW⟩, f1, hf1, ho⟩ := hI
      have E1 := Ev_fr E F1 W (by decide)
      have ekc1 := (Zfr.gr F1 t (by decide) : zgr c1 m 12 50 = _).trans ekc
      have eka1 := (Zfr.gr F1 t (by decide) : zgr c1 m 12 51 = _).trans eka
      have ekt1 := (Zfr.gr F1 t (by decide) : zgr c1 m 12 76 = _).trans ekt
      have ekl1 := (Zfr.gr F1 t (by decide) : zgr c1 m 12 75 = _).trans ekl
      have eko1 := (Zfr.gr F1 t (by decide) : zgr c1 m 12 2 = _).trans eko
      have ekn1 := E1.2.1
      have nx : (a2 + (x4 + 1)) = (a2 + x4) + 1 := (Int32.add_assoc _ _ _).symm
      have sm := i_add (a := x4) (b := 1) (by omega) (by omega)
      have st := i_add (a := x3) (b := 1) (by omega) (by omega)
      unfold g_Mo_work_5 f_Mo_work_118 f_Mo_work_151 f_Mo_work_243
      refine wb ekc1 ?_
      cases n with
      | zero =>
        obtain ⟨v, e, hv⟩ := hW
        refine wb ((Zfr.ai F1 tkc (by decide)).trans e) ?_
        refine wi (fun _ => ?_) (fun h => ?_)
        · exact lInr ⟨rfl, W1, F1, f1, hf1, ho⟩
        · have := i_ne h; omega
      | succ n =>
        obtain ⟨v, a, e1, e2, hW⟩ := hW
        have e1' := (Zfr.ai F1 tkc (by decide) : zai c1 kc 0 (a2 + x4) = _).trans e1
        have e2' := (Zfr.ai F1 tka (by decide) : zai c1 ka 0 (a2 + x4) = _).trans e2
        refine wb e1' ?_
        refine wi (fun h => ?_) (fun h => ?_)
        · exact lInr ⟨rfl, W1, F1, f1, hf1, ho⟩
        refine wb ekc1 ?_
        refine wb e1' ?_
        refine wb eka1 ?_
        refine wb e2' ?_
        rw [← nx] at hW
        -- what a push does
        have push : ∀ (c2 : Zc) (y : Int32), pushC v a → Zwt zty G c2 → Zfr G WKM c c2 → (∃ f', Dg c2 kn nd.toInt f' ∧ ∀ i : Nat, i < 8 → sl g pv.toInt.toNat 0 i = true → f' i = f i) → ∃ c3, zsi c2 kt 0 x3 y = some c3 ∧ (fun a : Nat × Int32 × Int32 × Int32 × Zc => m = a.1 ∧ a2 = a.2.1 ∧ Zwt zty G a.2.2.2.2 ∧ Zfr G WKM c a.2.2.2.2 ∧ 0 ≤ a.2.2.1.toInt ∧ a.2.2.1.toInt ≤ 256 ∧ 0 ≤ a.2.2.2.1.toInt ∧ (∃ n : Nat, (n : Int) + a.2.2.2.1.toInt ≤ 1100 ∧ WFr c kc ka n (a2 + a.2.2.2.1) a.2.2.1.toInt) ∧ ∃ f', Dg a.2.2.2.2 kn nd.toInt f' ∧ ∀ i : Nat, i < 8 → sl g pv.toInt.toNat 0 i = true → f' i = f i) (m, a2, x3 + 1, x4 + 1, c3) := by
          intro c2 y hp W2 F2 ⟨f2, hf2, ho2⟩
          have hp' := hp
          unfold pushC at hp'
          rcases hW with ⟨_, hd, hW⟩ | ⟨q, _, _⟩ | ⟨q, _, _⟩
          · obtain ⟨c3, e3, W3, F3, _⟩ := pa_123 W2 tkt (i := x3) (by omega) (by omega) (x := y) trivial
            refine ⟨c3, e3, rfl, rfl, W3, Zfr.tr F2 F3 (by decide), by dsimp only; omega, by dsimp only; omega, by dsimp only; omega, ⟨n, by dsimp only; omega, ?_⟩, f2, Dg_fr hf2 F3 tkn (by decide), ho2⟩
            dsimp only
            rw [st, l1]; exact hW
          · unfold oneC at q; omega
          · unfold twoC at q; omega
        refine wi (fun h3 => ?_) (fun h3 => ?_)
        · have h3 := i_lt h3
          refine wi (fun h19 => ?_) (fun h19 => ?_)
          · have h19 := i_eq h19
            refine wb ekt1 ?_
            obtain ⟨vs, ev⟩ := go_64 W1 t
            refine wb ev ?_
            have hp : pushC v a := by
              rcases hW with ⟨q, _, _⟩ | ⟨q, _, _⟩ | ⟨q, _, _⟩
              · exact q
              · unfold oneC at q; omega
              · unfold twoC at q; omega
            have hp' := hp
            unfold pushC at hp'
            obtain ⟨q, eq, Wq, Fq, lq, uq, f2, hf2, ho2⟩ := p_isWithout hn W1 E1 hf1 (a1 := a) (by omega) (by omega)
            refine wb eq ?_
            have ho3 : ∀ i : Nat, i < 8 → sl g pv.toInt.toNat 0 i = true → f2 i = f i := by
              intro i hi hs
              refine (ho2 i hi ?_).trans (ho i hi hs)
              unfold sl at hs ⊢
              rw [of_decide_eq_true hs]
              refine decide_eq_false (fun q => ?_)
              have := i_eq q
              omega
            refine wi (fun _ => ?_) (fun _ => ?_)
            · obtain ⟨c3, e3, hI⟩ := push q.2 0 hp Wq (Zfr.tr F1 Fq (by decide)) ⟨f2, hf2, ho3⟩
              refine wb e3 ?_
              exact lInl hI (by dsimp only; omega)
            · obtain ⟨c3, e3, hI⟩ := push q.2 1 hp Wq (Zfr.tr F1 Fq (by decide)) ⟨f2, hf2, ho3⟩
              refine wb e3 ?_
              exact lInl hI (by dsimp only; omega)
          · have h19 := i_ne h19
            -- one value changes
            have one : oneC v → 1 ≤ x3.toInt ∧ WFr c kc ka n (a2 + (x4 + 1)) x3.toInt := by
              intro q
              unfold oneC at q
              rcases hW with ⟨z, _, _⟩ | ⟨_, z, hW⟩ | ⟨z, _, _⟩
              · unfold pushC at z; omega
              · exact ⟨z, hW⟩
              · unfold twoC at z; omega
            refine wi (fun h7 => ?_) (fun h7 => ?_)
            · have h7 := i_eq h7
              obtain ⟨lt, hW⟩ := one (.inl (by omega))
              refine wb ekt1 ?_
              refine wb ekt1 ?_
              have s1 := i_sub (a := x3) (b := 1) (by omega) (by omega)
              rw [l1] at s1
              generalize x3 - 1 = y at s1 ⊢
              obtain ⟨v25, e25, _⟩ := ga_123 W1 tkt (i := y) (by omega) (by omega)
              refine wb e25 ?_
              obtain ⟨c3, e3, W3, F3, _⟩ := pa_123 W1 tkt (i := y) (by omega) (by omega) (x := -v25) trivial
              refine wb e3 ?_
              exact lInl ⟨rfl, rfl, W3, Zfr.tr F1 F3 (by decide), lx, ux, by dsimp only; omega, ⟨n, by dsimp only; omega, hW⟩, f1, Dg_fr hf1 F3 tkn (by decide), ho⟩ (by dsimp only; omega)
            have h7 := i_ne h7
            refine wi (fun h18 => ?_) (fun h18 => ?_)
            · have h18 := i_eq h18
              obtain ⟨lt, hW⟩ := one (.inr (by omega))
              refine wb ekt1 ?_
              refine wb ekt1 ?_
              have s1 := i_sub (a := x3) (b := 1) (by omega) (by omega)
              rw [l1] at s1
              generalize x3 - 1 = y at s1 ⊢
              obtain ⟨v25, e25, _⟩ := ga_123 W1 tkt (i := y) (by omega) (by omega)
              refine wb e25 ?_
              obtain ⟨c3, e3, W3, F3, _⟩ := pa_123 W1 tkt (i := y) (by omega) (by omega) (x := 1 - v25) trivial
              refine wb e3 ?_
              exact lInl ⟨rfl, rfl, W3, Zfr.tr F1 F3 (by decide), lx, ux, by dsimp only; omega, ⟨n, by dsimp only; omega, hW⟩, f1, Dg_fr hf1 F3 tkn (by decide), ho⟩ (by dsimp only; omega)
            have h18 := i_ne h18
            have two : 2 ≤ x3.toInt ∧ WFr c kc ka n (a2 + (x4 + 1)) (x3.toInt - 1) := by
              rcases hW with ⟨z, _, _⟩ | ⟨z, _, _⟩ | ⟨_, z, hW⟩
              · unfold pushC at z; omega
              · unfold oneC at z; omega
              · exact ⟨z, hW⟩
            obtain ⟨lt, hW⟩ := two
            refine wb ekt1 ?_
            refine wb ekt1 ?_
            have s0 := i_add (a := x3) (b := -1) (by omega) (by omega)
            rw [lm1] at s0
            generalize x3 + (-1) = y0 at s0 ⊢
            have s1 := i_sub (a := y0) (b := 1) (by omega) (by omega)
            rw [l1] at s1
            generalize y0 - 1 = y1 at s1 ⊢
            obtain ⟨v14, e14, _⟩ := ga_123 W1 tkt (i := y1) (by omega) (by omega)
            refine wb e14 ?_
            refine wb ekt1 ?_
            obtain ⟨v16, e16, _⟩ := ga_123 W1 tkt (i := y0) (by omega) (by omega)
            refine wb e16 ?_
            obtain ⟨q17, e17, W17, F17⟩ := p_Mo_both hn W1 (a0 := v) (a1 := v14) (a2 := v16)
            refine wb e17 ?_
            obtain ⟨c3, e3, W3, F3, _⟩ := pa_123 W17 tkt (i := y1) (by omega) (by omega) (x := q17.1) trivial
            refine wb e3 ?_
            refine lInl ⟨rfl, rfl, W3, Zfr.tr (Zfr.tr F1 F17 (by decide)) F3 (by decide), by dsimp only; omega, by dsimp only; omega, by dsimp only; omega, ⟨n, by dsimp only; omega, ?_⟩, f1, Dg_fr (Dg_fr hf1 F17 tkn (by decide)) F3 tkn (by decide), ho⟩ (by dsimp only; omega)
            dsimp only
            rw [s0]; exact hW
        · have h3 := i_nlt h3
          have hp : pushC v a := by
            rcases hW with ⟨q, _, _⟩ | ⟨q, _, _⟩ | ⟨q, _, _⟩
            · exact q
            · unfold oneC at q; omega
            · unfold twoC at q; omega
          have hp' := hp
          unfold pushC at hp'
          refine wb ekt1 ?_
          refine wi (fun q0 => ?_) (fun q0 => ?_)
          · obtain ⟨c3, e3, hI⟩ := push c1 a hp W1 F1 ⟨f1, hf1, ho⟩
            refine wb e3 ?_
            exact lInl hI (by dsimp only; omega)
          have q0 := i_ne q0
          refine wi (fun q1 => ?_) (fun q1 => ?_)
          · have q1 := i_eq q1
            refine wb ekn1 ?_
            obtain ⟨v46, e46, _⟩ := ga_121 W1 tkn (i := a) (by omega) (by omega)
            refine wb e46 ?_
            obtain ⟨c3, e3, hI⟩ := push c1 v46 hp W1 F1 ⟨f1, hf1, ho⟩
            refine wb e3 ?_
            exact lInl hI (by dsimp only; omega)
          have q1 := i_ne q1
          refine wi (fun q2 => ?_) (fun q2 => ?_)
          · have q2 := i_eq q2
            refine wb ekl1 ?_
            obtain ⟨v46, e46, _⟩ := ga_122 W1 tkl (i := a) (by omega) (by omega)
            refine wb e46 ?_
            obtain ⟨c3, e3, hI⟩ := push c1 v46 hp W1 F1 ⟨f1, hf1, ho⟩
            refine wb e3 ?_
            exact lInl hI (by dsimp only; omega)
          have q2 := i_ne q2
          refine wb eko1 ?_
          refine wb ekn1 ?_
          have dv := i_div (a := a) (b := 4) (n := 4) l4 (by decide) (by omega)
          have rm := i_rem (a := a) (b := 4) (n := 4) l4 (by decide) (by omega)
          generalize a - a / 4 * 4 = y1 at rm ⊢
          generalize a / 4 = y0 at dv ⊢
          obtain ⟨v39, e39, l39, u39⟩ := ga_121 W1 tkn (i := y0) (by omega) (by omega)
          refine wb e39 ?_
          have m4 := i_mull (a := 4) (b := v39) (n := 4) l4 (by omega) (by omega)
          have ad := i_add (a := 4 * v39) (b := y1) (by omega) (by omega)
          rw [m4] at ad
          generalize (4 * v39) + y1 = y2 at ad ⊢
          obtain ⟨v41, e41, _⟩ := ga_66 W1 tko (i := y2) (by omega) (by omega)
          refine wb e41 ?_
          obtain ⟨c3, e3, hI⟩ := push c1 v41 hp W1 F1 ⟨f1, hf1, ho⟩
          refine wb e3 ?_
          exact lInl hI (by dsimp only; omega)
    · exact ⟨rfl, rfl, W, Zfr.rf, by dsimp only; omega, by dsimp only; omega, h0, ⟨n0, by dsimp only; omega, hw⟩, f, hf, fun _ _ _ => rfl⟩
    · dsimp only; omega
  obtain ⟨⟨z0, c3⟩, eb, hb⟩ := L
  refine wb eb ?_
  dsimp only at hb ⊢
  obtain ⟨rfl, W3, F3, f3, hf3, ho3⟩ := hb
  refine wb ((Zfr.gr F3 t (by decide)).trans ekt) ?_
  obtain ⟨v, e, _⟩ := ga_123 W3 tkt (i := 0) (by omega) (by omega)
  refine wb e ?_
  exact ⟨_, rfl, W3, F3, f3, hf3, ho3⟩
set_option maxRecDepth 100000 in
theorem p_holds {nf : Nat} (hn : 8589934592 ≤ nf) {G : List Nat} {c : Zc} (W : Zwt zty G c) {m kn kg ks : Nat} {pv nd ns : Int32} {f g : Nat → Int32} (E : Ev G c m kn kg ks pv nd ns g) (hf : Dg c kn nd.toInt f) :
    ∃ q, f_Mo_holds nf m c = some q ∧ Zwt zty G q.2 ∧ Zfr G WKM c q.2 ∧ 0 ≤ q.1.toInt ∧ q.1.toInt ≤ 1 ∧ ∃ f', Dg q.2 kn nd.toInt f' ∧ ∀ i : Nat, i < 8 → sl g pv.toInt.toNat 0 i = true → f' i = f i := by
  obtain ⟨tkn, ⟨lp, up⟩, ⟨ld, ud⟩, ls, us⟩ := Ev_rg W E
  have l0 : (0 : Int32).toInt = 0 := by decide
  have l1 : (1 : Int32).toInt = 1 := by decide
  have t := E.1
  unfold f_Mo_holds f_Mo_holds_45 f_Mo_holds_49 f_Mo_holds_50
  obtain ⟨vs, ev⟩ := go_64 W t
  refine wb ev ?_
  obtain ⟨q1, e1, W1, F1, l1', u1⟩ := p_Mo_fits hn W (a1 := 0) t (by omega) (by omega) E.2.2.2.2.2.2.2.2.1
  refine wb e1 ?_
  have E1 := Ev_fr E F1 W (by decide)
  have hf1 := Dg_fr hf F1 tkn (by decide)
  refine wi (fun h => ?_) (fun h => ?_)
  · exact wz (rgi (by decide) (by decide)) ⟨W1, Zfr.mo F1 (by decide), by dsimp only; omega, by dsimp only; omega, f, hf1, fun _ _ _ => rfl⟩
  obtain ⟨kc, ekc, tkc⟩ := gf_64_46 W1 t
  refine wb ekc ?_
  have epv := E1.2.2.2.1
  refine wb epv ?_
  obtain ⟨x, ex, lx, ux⟩ := ga_99 W1 tkc (i := pv) (by omega) (by omega)
  refine wb ex ?_
  refine wi (fun h => ?_) (fun h => ?_)
  · exact wz (rgi (by decide) (by decide)) ⟨W1, Zfr.mo F1 (by decide), by dsimp only; omega, by dsimp only; omega, f, hf1, fun _ _ _ => rfl⟩
  have h := i_nlt h
  refine wb ekc ?_
  refine wb epv ?_
  refine wb ex ?_
  refine wb epv ?_
  obtain ⟨vs, ev⟩ := go_64 W1 t
  refine wb ev ?_
  obtain ⟨s, es, hs⟩ := E1.2.2.2.2.2.2.2.2.1
  rw [epv] at es; cases es
  have hw : WfA q1.2 m ((512 * pv) + x) := by
    rcases hs.2.1 kc x ekc ex with q | q
    · omega
    · exact q
  obtain ⟨q2, e2, W2, F2, f2, hf2, ho2⟩ := p_work hn W1 E1 hf1 (a1 := x) (a2 := 512 * pv) (by omega) (by omega) hw
  refine wb e2 ?_
  have F12 := Zfr.tr (Zfr.mo F1 (by decide) : Zfr G WKM c q1.2) F2 (by decide)
  refine wi (fun h => ?_) (fun h => ?_)
  · exact wz (rgi (by decide) (by decide)) ⟨W2, F12, by dsimp only; omega, by dsimp only; omega, f2, hf2, ho2⟩
  · exact wz (rgi (by decide) (by decide)) ⟨W2, F12, by dsimp only; omega, by dsimp only; omega, f2, hf2, ho2⟩
end ZzT
