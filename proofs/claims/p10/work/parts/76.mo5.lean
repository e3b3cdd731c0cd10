section ZzT
theorem lg_le {x y : Int64} (h : lg_cmp x y ≤ 0) : x.toInt ≤ y.toInt := by
  unfold lg_cmp at h
  split at h
  · exact absurd h (by decide)
  · rename_i q
    rcases Int.lt_or_le y.toInt x.toInt with z | z
    · exact absurd (Int64.lt_iff_toInt_lt.mpr z) q
    · exact z
set_option maxRecDepth 100000 in
theorem p_firstRow {nf : Nat} (hn : 8589934592 ≤ nf) {G : List Nat} {c : Zc} (W : Zwt zty G c) {m kn : Nat} (t : G[m]? = some 64) (ekn : zgr c m 12 74 = some kn) : ∃ q, f_Mo_firstRow nf m c = some q ∧ Zwt zty G q ∧ Zfr G [(121, 0)] c q ∧ ∃ f', q[kn]? = some (.inl (0, 8, .inl f')) ∧ ∀ i : Nat, i < 8 → (f' i).toInt = 0 := by
  obtain ⟨k, e, tkn⟩ := gf_64_74 W t
  rw [ekn] at e; cases e
  have l1 : (1 : Int32).toInt = 1 := by decide
  have l0 : (0 : Int32).toInt = 0 := by decide
  have l8 : (8 : Int32).toInt = 8 := by decide
  obtain ⟨f, hf, _⟩ := wt_cell W tkn rfl
  unfold f_Mo_firstRow f_Mo_firstRow_2
  have L : ∃ b, zlp (fun a : Nat × Int32 × Zc => g_Mo_firstRow_2 nf a.1 a.2.1 a.2.2) nf (m, 0, c) = some b ∧ (fun b : Zc => Zwt zty G b ∧ Zfr G [(121, 0)] c b ∧ ∃ f', b[kn]? = some (.inl (0, 8, .inl f')) ∧ ∀ i : Nat, i < 8 → (f' i).toInt = 0) b := by
    refine wlp (fun a : Nat × Int32 × Zc => m = a.1 ∧ Zwt zty G a.2.2 ∧ Zfr G [(121, 0)] c a.2.2 ∧ 0 ≤ a.2.1.toInt ∧ a.2.1.toInt ≤ 8 ∧ ∃ f', a.2.2[kn]? = some (.inl (0, 8, .inl f')) ∧ ∀ i : Nat, i < 8 → (i : Int) < a.2.1.toInt → (f' i).toInt = 0) (fun a => (8 - a.2.1.toInt).toNat) _ ?_ ?_ ?_
    · rintro ⟨x0, x1, c1⟩ hI
      dsimp only at hI ⊢
      obtain ⟨rfl, W1, F1, lx, ux, f1, hf1, hz⟩ := hI
      unfold g_Mo_firstRow_2
      refine wi (fun h => ?_) (fun h => ?_)
      · have h := i_le h
        exact lInr ⟨W1, F1, f1, hf1, fun i hi => hz i hi (by omega)⟩
      have h := i_nle h
      refine wb ((Zfr.gr F1 t (by decide)).trans ekn) ?_
      obtain ⟨c11, e11, W11, F11, _⟩ := pa_121 W1 tkn (i := x1) (by omega) (by omega) (x := 0) (rgi (by decide) (by decide))
      refine wb e11 ?_
      have hf11 := (wr_x hf1 e11).1
      have sm := i_add (a := x1) (b := 1) (by omega) (by omega)
      refine lInl ⟨rfl, W11, Zfr.tr F1 F11 (by decide), by dsimp only; omega, by dsimp only; omega, _, hf11, ?_⟩ (by dsimp only; omega)
      intro i hi h2
      dsimp only at h2
      by_cases q : i = x1.toInt.toNat
      · subst q; rw [upd_s]; exact l0
      · rw [upd_n q]; exact hz i hi (by omega)
    · exact ⟨rfl, W, Zfr.rf, by dsimp only; omega, by dsimp only; omega, f, hf, fun i _ h => by dsimp only at h; omega⟩
    · dsimp only; omega
  obtain ⟨b, eb, hb⟩ := L
  refine wb eb ?_
  exact ⟨_, rfl, hb⟩
theorem i64_mul {a b : Int64} (h0 : 0 ≤ a.toInt * b.toInt) (h1 : a.toInt * b.toInt ≤ 4294967296) : (a * b).toInt = a.toInt * b.toInt := by
  rw [Int64.toInt_mul]
  generalize a.toInt * b.toInt = z at h0 h1 ⊢
  rw [Int.bmod_eq_of_le] <;> omega
set_option maxRecDepth 100000 in
theorem p_workOf {nf : Nat} (hn : 8589934592 ≤ nf) {G : List Nat} {c : Zc} (W : Zwt zty G c) {m ks : Nat} {a1 nd ns : Int32} (t : G[m]? = some 64) (end_ : zgi c m 12 0 = some nd) (eks : zgr c m 12 26 = some ks) (ens : zai c ks 0 a1 = some ns) (h0 : 0 ≤ ns.toInt) (h8 : ns.toInt ≤ 8) : ∃ q, f_Mo_workOf nf m a1 c = some q ∧ q.2 = c ∧ q.1.toInt = ((nd.toInt.toNat ^ ns.toInt.toNat : Nat) : Int) := by
  obtain ⟨k, e, ld, ud⟩ := gf_64_0 W t
  rw [end_] at e; cases e
  have l1 : (1 : Int32).toInt = 1 := by decide
  have l0 : (0 : Int32).toInt = 0 := by decide
  have j1 : (1 : Int64).toInt = 1 := by decide
  unfold f_Mo_workOf f_Mo_workOf_5
  have L : ∃ b, zlp (fun a : Nat × Int32 × Int64 × Int32 × Zc => g_Mo_workOf_5 nf a.1 a.2.1 a.2.2.1 a.2.2.2.1 a.2.2.2.2) nf (m, a1, 1, 0, c) = some b ∧ (fun b : Int64 × Zc => b.2 = c ∧ b.1.toInt = ((nd.toInt.toNat ^ ns.toInt.toNat : Nat) : Int)) b := by
    refine wlp (fun a : Nat × Int32 × Int64 × Int32 × Zc => m = a.1 ∧ a1 = a.2.1 ∧ c = a.2.2.2.2 ∧ 0 ≤ a.2.2.2.1.toInt ∧ a.2.2.2.1.toInt ≤ ns.toInt ∧ a.2.2.1.toInt = ((nd.toInt.toNat ^ a.2.2.2.1.toInt.toNat : Nat) : Int)) (fun a => (8 - a.2.2.2.1.toInt).toNat) _ ?_ ?_ ?_
    · rintro ⟨x0, x1, x2, x4, c1⟩ hI
      dsimp only at hI ⊢
      obtain ⟨rfl, rfl, rfl, lx, ux, hp⟩ := hI
      unfold g_Mo_workOf_5
      refine wb eks ?_
      refine wb ens ?_
      refine wi (fun h => ?_) (fun h => ?_)
      · have h := i_le h
        have : x4.toInt = ns.toInt := by omega
        exact lInr ⟨rfl, by dsimp only; rw [hp, this]⟩
      have h := i_nle h
      refine wb end_ ?_
      have sm := i_add (a := x4) (b := 1) (by omega) (by omega)
      refine lInl ⟨rfl, rfl, rfl, by dsimp only; omega, by dsimp only; omega, ?_⟩ (by dsimp only; omega)
      dsimp only
      have e64 : (Int32.toInt64 nd).toInt = nd.toInt := Int32.toInt_toInt64 nd
      have hs : (x4 + 1).toInt.toNat = x4.toInt.toNat + 1 := by omega
      have hb : nd.toInt.toNat ^ (x4.toInt.toNat + 1) ≤ 4294967296 := by
        have e1 : nd.toInt.toNat ^ (x4.toInt.toNat + 1) ≤ 16 ^ (x4.toInt.toNat + 1) := Nat.pow_le_pow_left (by omega) _
        have e2 : 16 ^ (x4.toInt.toNat + 1) ≤ 16 ^ 8 := Nat.pow_le_pow_right (by decide) (by omega)
        have e3 : (16 : Nat) ^ 8 = 4294967296 := by decide
        omega
      have hm : x2.toInt * (Int32.toInt64 nd).toInt = ((nd.toInt.toNat ^ (x4.toInt.toNat + 1) : Nat) : Int) := by
        rw [e64, hp, Nat.pow_succ, Int.natCast_mul]
        congr 1
        omega
      rw [i64_mul (by rw [hm]; omega) (by rw [hm]; omega), hm, hs]
    · refine ⟨rfl, rfl, rfl, by dsimp only; omega, by dsimp only; omega, ?_⟩
      dsimp only
      rw [l0]; exact j1
    · dsimp only; omega
  obtain ⟨b, eb, hb⟩ := L
  refine wb eb ?_
  exact ⟨_, rfl, hb.1, hb.2⟩
abbrev M_Mo_collect : List (Nat × Nat) := [(64, 81), (121, 0), (122, 0), (123, 0), (125, 0)]
/-- the WORK of text p is small -/
def WkM (c : Zc) (m : Nat) : Prop := ∀ nd ks pv ns, zgi c m 12 0 = some nd → zgr c m 12 26 = some ks → zgi c m 12 25 = some pv → zai c ks 0 pv = some ns → nd.toInt.toNat ^ ns.toInt.toNat ≤ 20000
set_option maxRecDepth 100000 in
set_option maxHeartbeats 1000000 in
theorem p_Mo_collect {nf : Nat} (hn : 8589934592 ≤ nf) {G : List Nat} {c : Zc} (W : Zwt zty G c) {a0 : Nat} (t_a0 : G[a0]? = some 64) (hT : TxM c a0) (hK : WkM c a0) : ∃ q, f_Mo_collect nf a0 c = some q ∧ Zwt zty G q ∧ Zfr G M_Mo_collect c q := by
  have l1 : (1 : Int32).toInt = 1 := by decide
  have l0 : (0 : Int32).toInt = 0 := by decide
  have l8 : (8 : Int32).toInt = 8 := by decide
  have t := t_a0
  obtain ⟨nd, end0, ld, ud⟩ := gf_64_0 W t
  obtain ⟨kn, ekn0, tkn⟩ := gf_64_74 W t
  unfold f_Mo_collect
  obtain ⟨c1, e1, W1, F1, g1⟩ := pf_64_81 W t (x := 0) (rgi (by decide) (by decide))
  refine wb e1 ?_
  obtain ⟨vs, ev⟩ := go_64 W1 t
  refine wb ev ?_
  obtain ⟨c2, e2, W2, F2, f2, hf2, hz2⟩ := p_firstRow hn W1 t ((Zfr.gr F1 t (by decide)).trans ekn0)
  refine wb e2 ?_
  have F02 : Zfr G M_Mo_collect c c2 := Zfr.tr (Zfr.mo F1 (by decide)) F2 (by decide)
  refine wb ((Zfr.gi F02 t (by decide)).trans end0) ?_
  unfold f_Mo_collect_21 f_Mo_collect_22
  refine wi (fun h => ?_) (fun h => ?_)
  · have L : ∃ b, zlp (fun a : Nat × Int32 × Zc => g_Mo_collect_22 nf a.1 a.2.1 a.2.2) nf (a0, 0, c2) = some b ∧ (fun b : Zc => b = c2) b := by
      refine wlp (fun a : Nat × Int32 × Zc => a.2.1 = 0 ∧ a.2.2 = c2) (fun _ => 0) _ ?_ ⟨rfl, rfl⟩ (by omega)
      rintro ⟨x0, x1, c3⟩ ⟨h1, h2⟩
      dsimp only at h1 h2 ⊢
      subst h1; subst h2
      unfold g_Mo_collect_22
      rw [if_pos rfl]
      exact lInr rfl
    obtain ⟨b, eb, rfl⟩ := L
    refine wb eb ?_
    exact ⟨_, rfl, W2, F02⟩
  have h := i_nle h
  rw [l0] at h
  have hT2 : TxM c2 a0 := TxM_fr hT F02 t W (by decide)
  obtain ⟨kn', kg, ks, pv, ns, g, E⟩ := Ev_mk W2 t hT2 ((Zfr.gi F02 t (by decide)).trans end0) (by omega)
  have hkn : kn' = kn := by
    have a := E.2.1
    rw [(Zfr.gr F02 t (by decide) : zgr c2 a0 12 74 = _), ekn0] at a
    cases a; rfl
  subst hkn
  obtain ⟨_, ⟨lp, up⟩, ⟨ld1, _⟩, ls, us⟩ := Ev_rg W2 E
  have hB : nd.toInt.toNat ^ ns.toInt.toNat ≤ 20000 := by
    obtain ⟨-, _, _, q3, q4, q5, q6, -⟩ := E
    obtain ⟨k, e, ts⟩ := gf_64_26 W2 t
    rw [q5] at e; cases e
    rw [Zfr.gi F02 t (by decide)] at q3 q4
    rw [Zfr.gr F02 t (by decide)] at q5
    rw [Zfr.ai F02 ts (by decide)] at q6
    exact hK nd ks pv ns q4 q5 q3 q6
  have hod : ∀ f : Nat → Int32, (∀ i, i < 8 → 0 ≤ (f i).toInt ∧ (f i).toInt < nd.toInt) → od nd.toInt.toNat (dg f) (sl g pv.toInt.toNat 0) ns.toInt.toNat + 1 ≤ nd.toInt.toNat ^ ns.toInt.toNat := by
    intro f hf
    exact od_lt (by omega) (fun i hi => by unfold dg; have := hf i (by omega); omega)
  have L : ∃ b, zlp (fun a : Nat × Int32 × Zc => g_Mo_collect_22 nf a.1 a.2.1 a.2.2) nf (a0, 1, c2) = some b ∧ (fun b : Zc => Zwt zty G b ∧ Zfr G M_Mo_collect c2 b) b := by
    refine wlp (fun a : Nat × Int32 × Zc => a0 = a.1 ∧ Zwt zty G a.2.2 ∧ Zfr G M_Mo_collect c2 a.2.2 ∧ ∃ f', Dg a.2.2 kn' nd.toInt f' ∧ ∃ rc, zgi a.2.2 a0 12 81 = some rc ∧ (a.2.1 = 0 ∨ rc.toInt ≤ ((od nd.toInt.toNat (dg f') (sl g pv.toInt.toNat 0) ns.toInt.toNat : Nat) : Int))) (fun a => if a.2.1 = 0 then 0 else nd.toInt.toNat ^ ns.toInt.toNat + 1 - od nd.toInt.toNat (dg (rdf a.2.2 kn')) (sl g pv.toInt.toNat 0) ns.toInt.toNat) _ ?_ ?_ ?_
    · rintro ⟨x0, x1, c3⟩ hI
      dsimp only at hI ⊢
      obtain ⟨rfl, W3, F3, f3, hf3, rc, erc, hrc⟩ := hI
      have E3 := Ev_fr E F3 W2 (by decide)
      unfold g_Mo_collect_22
      refine wi (fun h => ?_) (fun h => ?_)
      · exact lInr ⟨W3, F3⟩
      have hrc : rc.toInt ≤ ((od nd.toInt.toNat (dg f3) (sl g pv.toInt.toNat 0) ns.toInt.toNat : Nat) : Int) := hrc.resolve_left h
      have o3 := hod f3 hf3.2
      obtain ⟨rc', e, lr, ur⟩ := gf_64_81 W3 t
      rw [erc] at e; cases e
      obtain ⟨vs, ev⟩ := go_64 W3 t
      refine wb ev ?_
      obtain ⟨q7, e7, W7, F7, l7, u7, f7, hf7, ho7⟩ := p_holds hn W3 E3 hf3
      refine wb e7 ?_
      have F37 : Zfr G M_Mo_collect c2 q7.2 := Zfr.tr F3 F7 (by decide)
      have E7 := Ev_fr E F37 W2 (by decide)
      have hsame : ∀ f : Nat → Int32, (∀ i : Nat, i < 8 → sl g pv.toInt.toNat 0 i = true → f i = f3 i) → od nd.toInt.toNat (dg f) (sl g pv.toInt.toNat 0) ns.toInt.toNat = od nd.toInt.toNat (dg f3) (sl g pv.toInt.toNat 0) ns.toInt.toNat := fun f hf => od_cg (fun i hi hs => by unfold dg; rw [hf i (by omega) hs])
      -- the end of a round
      have fin : ∀ (c4 : Zc) (f4 : Nat → Int32) (rc4 : Int32), Zwt zty G c4 → Zfr G M_Mo_collect c2 c4 → Dg c4 kn' nd.toInt f4 → (∀ i : Nat, i < 8 → sl g pv.toInt.toNat 0 i = true → f4 i = f3 i) → zgi c4 a0 12 81 = some rc4 → rc4.toInt ≤ rc.toInt + 1 → ∃ r, f_Mo_collect_121 nf a0 c4 = some r ∧ (∀ y, r = .inl y → (fun a : Nat × Int32 × Zc => a0 = a.1 ∧ Zwt zty G a.2.2 ∧ Zfr G M_Mo_collect c2 a.2.2 ∧ ∃ f', Dg a.2.2 kn' nd.toInt f' ∧ ∃ rc, zgi a.2.2 a0 12 81 = some rc ∧ (a.2.1 = 0 ∨ rc.toInt ≤ ((od nd.toInt.toNat (dg f') (sl g pv.toInt.toNat 0) ns.toInt.toNat : Nat) : Int))) y ∧ (fun a : Nat × Int32 × Zc => if a.2.1 = 0 then 0 else nd.toInt.toNat ^ ns.toInt.toNat + 1 - od nd.toInt.toNat (dg (rdf a.2.2 kn')) (sl g pv.toInt.toNat 0) ns.toInt.toNat) y < (if x1 = 0 then 0 else nd.toInt.toNat ^ ns.toInt.toNat + 1 - od nd.toInt.toNat (dg (rdf c3 kn')) (sl g pv.toInt.toNat 0) ns.toInt.toNat)) ∧ (∀ b, r = .inr b → (fun b : Zc => Zwt zty G b ∧ Zfr G M_Mo_collect c2 b) b) := by
        intro c4 f4 rc4 W4 F4 hf4 ho4 erc4 hrc4
        have E4 := Ev_fr E F4 W2 (by decide)
        unfold f_Mo_collect_121
        obtain ⟨vs, ev⟩ := go_64 W4 t
        refine wb ev ?_
        obtain ⟨-, g1, g2, g3, g4, g5, g6, g7, g8, g9⟩ := E4
        obtain ⟨q14, e14, W14, F14, l14, u14, f5, hf5, ho5, hod5⟩ := p_goesOn hn W4 (a1 := 0) t g1 g2 g3 g4 g5 g6 g7 hf4
        refine wb e14 ?_
        have o5 := hod f5 hf5.2
        refine lInl ⟨rfl, W14, Zfr.tr F4 F14 (by decide), f5, hf5, rc4, (Zfr.gi F14 t (by decide)).trans erc4, ?_⟩ ?_
        · by_cases hq : q14.1 = 0
          · exact .inl hq
          · right
            have := i_ne hq
            rw [hod5 (by omega), hsame f4 ho4]
            omega
        · dsimp only
          rw [rdf_e hf5.1, rdf_e hf3.1, if_neg h]
          by_cases hq : q14.1 = 0
          · rw [if_pos hq]; omega
          · rw [if_neg hq]
            have := i_ne hq
            have := hod5 (by omega)
            rw [hsame f4 ho4] at this
            omega
      refine wi (fun h0 => ?_) (fun h0 => ?_)
      · exact fin q7.2 f7 rc W7 F37 hf7 ho7 ((Zfr.gi F7 t (by decide)).trans erc) (by omega)
      unfold f_Mo_collect_35
      obtain ⟨ki, eki, tki⟩ := gf_64_43 W2 t
      obtain ⟨kt, ekt, tkt⟩ := gf_64_44 W2 t
      obtain ⟨kd, ekd, tkd⟩ := gf_64_45 W2 t
      obtain ⟨kr, ekr, tkr⟩ := gf_64_78 W2 t
      obtain ⟨ni, eni, lni, uni⟩ := ga_96 W2 tki (i := pv) (by omega) (by omega)
      have L2 : ∃ b, zlp (fun a : Nat × Int32 × Zc => g_Mo_collect_35 nf a.1 a.2.1 a.2.2) nf (a0, 0, q7.2) = some b ∧ (fun b : Nat × Zc => a0 = b.1 ∧ Zwt zty G b.2 ∧ Zfr G M_Mo_collect c2 b.2 ∧ zgi b.2 a0 12 81 = some rc ∧ ∃ f', Dg b.2 kn' nd.toInt f' ∧ ∀ i : Nat, i < 8 → sl g pv.toInt.toNat 0 i = true → f' i = f3 i) b := by
        refine wlp (fun a : Nat × Int32 × Zc => a0 = a.1 ∧ Zwt zty G a.2.2 ∧ Zfr G M_Mo_collect c2 a.2.2 ∧ 0 ≤ a.2.1.toInt ∧ a.2.1.toInt ≤ 8 ∧ zgi a.2.2 a0 12 81 = some rc ∧ ∃ f', Dg a.2.2 kn' nd.toInt f' ∧ ∀ i : Nat, i < 8 → sl g pv.toInt.toNat 0 i = true → f' i = f3 i) (fun a => (8 - a.2.1.toInt).toNat) _ ?_ ?_ ?_
        · rintro ⟨y0, y2, c5⟩ hI
          dsimp only at hI ⊢
          obtain ⟨rfl, W5, F5, ly, uy, erc5, f5, hf5, ho5⟩ := hI
          have E5 := Ev_fr E F5 W2 (by decide)
          have epv5 := E5.2.2.2.1
          unfold g_Mo_collect_35 f_Mo_collect_104
          refine wb ((Zfr.gr F5 t (by decide)).trans eki) ?_
          refine wb epv5 ?_
          have eni5 := (Zfr.ai F5 tki (by decide) : zai c5 ki 0 pv = _).trans eni
          refine wb eni5 ?_
          refine wi (fun h => ?_) (fun h => ?_)
          · exact lInr ⟨rfl, W5, F5, erc5, f5, hf5, ho5⟩
          have h := i_nle h
          refine wb epv5 ?_
          refine wb ((Zfr.gr F5 t (by decide)).trans ekr) ?_
          refine wb erc5 ?_
          refine wb ((Zfr.gr F5 t (by decide)).trans ekt) ?_
          have m8 := i_mull (a := 8) (b := pv) (n := 8) l8 (by omega) (by omega)
          have ix := i_add (a := 8 * pv) (b := y2) (by omega) (by omega)
          rw [m8] at ix
          have m8r := i_mull (a := 8) (b := rc) (n := 8) l8 (by omega) (by omega)
          have ixr := i_add (a := 8 * rc) (b := y2) (by omega) (by omega)
          rw [m8r] at ixr
          obtain ⟨v20, e20, _⟩ := ga_97 W5 tkt (i := (8 * pv) + y2) (by rw [ix]; omega) (by rw [ix]; omega)
          refine wb e20 ?_
          have sm := i_add (a := y2) (b := 1) (by omega) (by omega)
          refine wi (fun h109 => ?_) (fun h109 => ?_)
          · obtain ⟨c6, e6, W6, F6, _⟩ := pa_125 W5 tkr (i := (8 * rc) + y2) (by rw [ixr]; omega) (by rw [ixr]; omega) (x := 1) trivial
            refine wb e6 ?_
            exact lInl ⟨rfl, W6, Zfr.tr F5 F6 (by decide), by dsimp only; omega, by dsimp only; omega, (Zfr.gi F6 t (by decide)).trans erc5, f5, Dg_fr hf5 F6 tkn (by decide), ho5⟩ (by dsimp only; omega)
          · have h109 := i_ne h109
            refine wb ((Zfr.gr F5 t (by decide)).trans ekd) ?_
            obtain ⟨v23, e23, l23, u23⟩ := ga_98 W5 tkd (i := (8 * pv) + y2) (by rw [ix]; omega) (by rw [ix]; omega)
            refine wb e23 ?_
            refine wb epv5 ?_
            obtain ⟨vs, ev⟩ := go_64 W5 t
            refine wb ev ?_
            have hw : WfA c5 a0 ((512 * pv) + v23) := by
              obtain ⟨s, es, hs⟩ := E5.2.2.2.2.2.2.2.2.1
              rw [epv5] at es; cases es
              rcases hs.2.2 ki ni kt kd y2 v20 v23 ((Zfr.gr F5 t (by decide)).trans eki) eni5 ((Zfr.gr F5 t (by decide)).trans ekt) ((Zfr.gr F5 t (by decide)).trans ekd) ly (by omega) e20 e23 with q | q
              · have l109 : (109 : Int32).toInt = 109 := by decide
                omega
              · exact q
            obtain ⟨q6, e6, W6, F6, f6, hf6, ho6⟩ := p_work hn W5 E5 hf5 (a1 := v23) (a2 := 512 * pv) (by omega) (by omega) hw
            refine wb e6 ?_
            obtain ⟨c8, e8, W8, F8, _⟩ := pa_125 W6 tkr (i := (8 * rc) + y2) (by rw [ixr]; omega) (by rw [ixr]; omega) (x := q6.1) trivial
            refine wb e8 ?_
            exact lInl ⟨rfl, W8, Zfr.tr (Zfr.tr F5 F6 (by decide)) F8 (by decide), by dsimp only; omega, by dsimp only; omega, (Zfr.gi F8 t (by decide)).trans ((Zfr.gi F6 t (by decide)).trans erc5), f6, Dg_fr hf6 F8 tkn (by decide), fun i hi hs => (ho6 i hi hs).trans (ho5 i hi hs)⟩ (by dsimp only; omega)
        · exact ⟨rfl, W7, F37, by dsimp only; omega, by dsimp only; omega, (Zfr.gi F7 t (by decide)).trans erc, f7, hf7, ho7⟩
        · dsimp only; omega
      obtain ⟨⟨z0, c5⟩, eb, hb⟩ := L2
      refine wb eb ?_
      dsimp only at hb ⊢
      obtain ⟨rfl, W5, F5, erc5, f5, hf5, ho5⟩ := hb
      refine wb erc5 ?_
      have sr := i_add (a := rc) (b := 1) (by omega) (by omega)
      obtain ⟨c6, e6, W6, F6, g6⟩ := pf_64_81 W5 t (x := rc + 1) (rgi (by omega) (by omega))
      refine wb e6 ?_
      exact fin c6 f5 (rc + 1) W6 (Zfr.tr F5 F6 (by decide)) (Dg_fr hf5 F6 tkn (by decide)) ho5 g6 (by omega)
    · refine ⟨rfl, W2, Zfr.rf, f2, ⟨hf2, fun i hi => by have := hz2 i hi; omega⟩, 0, ?_, .inr ?_⟩
      · exact (Zfr.gi F2 t (by decide)).trans g1
      · rw [l0]; omega
    · dsimp only
      split <;> omega
  obtain ⟨b, eb, Wb, Fb⟩ := L
  refine wb eb ?_
  exact ⟨_, rfl, Wb, Zfr.tr F02 Fb (by decide)⟩
end ZzT
