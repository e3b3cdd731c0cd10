section ZzT
/-- every text that is there is fine -/
def GtM (c : Zc) (m : Nat) : Prop := ∀ k kt ks v s, zgr c m 12 23 = some kt → zgr c m 12 22 = some ks → 0 ≤ k.toInt → k.toInt < 8 → zai c kt 6 k = some v → v.toInt ≠ 0 → zai c ks 0 k = some s → TxS c m s ∧ (4 ≤ k.toInt → TxG c m s)
abbrev GTF : List (Nat × Nat) := TXF ++ [(64, 22), (64, 23), (77, 0), (78, 0)]
theorem GtM_fr {G : List Nat} {M : List (Nat × Nat)} {c c' : Zc} {m : Nat} (h : GtM c m) (F : Zfr G M c c') (t : G[m]? = some 64) (W : Zwt zty G c) (hM : ∀ x ∈ GTF, x ∉ M) : GtM c' m := by
  have hT : ∀ x ∈ TXF, x ∉ M := fun x hx => hM x (List.mem_append_left _ hx)
  intro k kt ks v s e1 e2 l1 l2 e3 hv e4
  rw [Zfr.gr F t (hM _ (by decide))] at e1 e2
  obtain ⟨k', e, tc⟩ := gf_64_23 W t
  rw [e1] at e; cases e
  rw [Zfr.ai F tc (hM _ (by decide))] at e3
  obtain ⟨k', e, tc⟩ := gf_64_22 W t
  rw [e2] at e; cases e
  rw [Zfr.ai F tc (hM _ (by decide))] at e4
  obtain ⟨h1, h2⟩ := h k kt ks v s e1 e2 l1 l2 e3 hv e4
  exact ⟨TxS_fr h1 F t W hT, fun q => TxG_fr (h2 q) F t W hT⟩
def LdB (f : Nat → Int32) : Prop := ∀ i, i < 1024 → f (2048 + i) = 0 ∨ f (2048 + i) = 1
def cnR (f : Nat → Int32) : Nat := cn 0 (fun i => f (2048 + i)) 1024
theorem cnR_up {f : Nat → Int32} {i : Nat} {x : Int32} (hi : i < 1024) : cnR (upd f (2048 + i) x) + (if f (2048 + i) = 0 then 0 else 1) = cnR f + (if x = 0 then 0 else 1) := by
  have e : (fun j => upd f (2048 + i) x (2048 + j)) = upd (fun j => f (2048 + j)) i x := by
    funext j
    by_cases h : j = i
    · subst h; rw [upd_s, upd_s]
    · rw [upd_n h, upd_n (by omega)]
  unfold cnR
  rw [e]
  exact cn_up (z := 0) (f := fun j => f (2048 + j)) hi
abbrev M_Mo_round : List (Nat × Nat) := [(64, 25), (72, 0), (117, 0), (118, 0), (119, 0), (120, 0), (121, 0), (122, 0), (123, 0), (124, 0)]
abbrev MR1 : List (Nat × Nat) := [(64, 25), (117, 0), (118, 0), (119, 0), (120, 0), (121, 0), (122, 0), (123, 0), (124, 0)]
abbrev MR2 : List (Nat × Nat) := [(121, 0), (122, 0), (123, 0), (124, 0)]
set_option maxRecDepth 100000 in
set_option maxHeartbeats 1000000 in
theorem p_round66 {nf : Nat} (hn : 8589934592 ≤ nf) {G : List Nat} {c : Zc} (W : Zwt zty G c) {m kn kg ks : Nat} {x1 pv nd ns : Int32} {f g : Nat → Int32} (E : Ev G c m kn kg ks pv nd ns g) (hf : Dg c kn nd.toInt f) (hg : TxG c m pv) (h4 : 4 ≤ x1.toInt) (h8 : x1.toInt < 8) :
    ∃ b, zlp (fun a : Nat × Int32 × Int32 × Zc => g_Mo_round_66 nf a.1 a.2.1 a.2.2.1 a.2.2.2) nf (m, x1, 1, c) = some b ∧ (fun b : Nat × Int32 × Zc => m = b.1 ∧ x1 = b.2.1 ∧ Zwt zty G b.2.2 ∧ Zfr G MR2 c b.2.2) b := by
  obtain ⟨tkn, ⟨lp, up⟩, ⟨ld, ud⟩, ls, us⟩ := Ev_rg W E
  have t := E.1
  have l1 : (1 : Int32).toInt = 1 := by decide
  have l0 : (0 : Int32).toInt = 0 := by decide
  have l4 : (4 : Int32).toInt = 4 := by decide
  have l16 : (16 : Int32).toInt = 16 := by decide
  have l256 : (256 : Int32).toInt = 256 := by decide
  obtain ⟨kv, ekv, tkv⟩ := gf_64_77 W t
  obtain ⟨ka, eka, tka⟩ := gf_64_48 W t
  obtain ⟨kb, ekb, tkb⟩ := gf_64_49 W t
  obtain ⟨va, eva, _⟩ := ga_101 W tka (i := pv) (by omega) (by omega)
  obtain ⟨vb, evb, _⟩ := ga_102 W tkb (i := pv) (by omega) (by omega)
  obtain ⟨⟨la, ua⟩, lb, ub⟩ := hg ka kb va vb eka ekb eva evb
  have hp := pw_16 (a := nd) (b := ns) ud us ld
  have hod : ∀ f : Nat → Int32, (∀ i, i < 8 → 0 ≤ (f i).toInt ∧ (f i).toInt < nd.toInt) → od nd.toInt.toNat (dg f) (sl g pv.toInt.toNat 0) ns.toInt.toNat + 1 ≤ nd.toInt.toNat ^ ns.toInt.toNat := by
    intro f hf
    exact od_lt (by omega) (fun i hi => by unfold dg; have := hf i (by omega); omega)
  refine wlp (fun a : Nat × Int32 × Int32 × Zc => m = a.1 ∧ x1 = a.2.1 ∧ Zwt zty G a.2.2.2 ∧ Zfr G MR2 c a.2.2.2 ∧ ∃ f', Dg a.2.2.2 kn nd.toInt f') (fun a => if a.2.2.1 = 0 then 0 else nd.toInt.toNat ^ ns.toInt.toNat + 1 - od nd.toInt.toNat (dg (rdf a.2.2.2 kn)) (sl g pv.toInt.toNat 0) ns.toInt.toNat) _ ?_ ?_ ?_
  · rintro ⟨x0, y1, x2, c3⟩ hI
    dsimp only at hI ⊢
    obtain ⟨rfl, rfl, W3, F3, f3, hf3⟩ := hI
    have E3 := Ev_fr E F3 W (by decide)
    unfold g_Mo_round_66
    refine wi (fun h => ?_) (fun h => ?_)
    · exact lInr ⟨rfl, rfl, W3, F3⟩
    have o3 := hod f3 hf3.2
    obtain ⟨vs, ev⟩ := go_64 W3 t
    refine wb ev ?_
    obtain ⟨q7, e7, W7, F7, l7, u7, f7, hf7, ho7⟩ := p_holds hn W3 E3 hf3
    refine wb e7 ?_
    have F37 : Zfr G MR2 c q7.2 := Zfr.tr F3 F7 (by decide)
    have fin : ∀ (c4 : Zc), Zwt zty G c4 → Zfr G MR2 c c4 → Dg c4 kn nd.toInt f7 → ∃ r, f_Mo_round_123 nf m x1 c4 = some r ∧ (∀ y, r = .inl y → (fun a : Nat × Int32 × Int32 × Zc => m = a.1 ∧ x1 = a.2.1 ∧ Zwt zty G a.2.2.2 ∧ Zfr G MR2 c a.2.2.2 ∧ ∃ f', Dg a.2.2.2 kn nd.toInt f') y ∧ (fun a : Nat × Int32 × Int32 × Zc => if a.2.2.1 = 0 then 0 else nd.toInt.toNat ^ ns.toInt.toNat + 1 - od nd.toInt.toNat (dg (rdf a.2.2.2 kn)) (sl g pv.toInt.toNat 0) ns.toInt.toNat) y < (if x2 = 0 then 0 else nd.toInt.toNat ^ ns.toInt.toNat + 1 - od nd.toInt.toNat (dg (rdf c3 kn)) (sl g pv.toInt.toNat 0) ns.toInt.toNat)) ∧ (∀ b, r = .inr b → (fun b : Nat × Int32 × Zc => m = b.1 ∧ x1 = b.2.1 ∧ Zwt zty G b.2.2 ∧ Zfr G MR2 c b.2.2) b) := by
      intro c4 W4 F4 hf4
      have E4 := Ev_fr E F4 W (by decide)
      unfold f_Mo_round_123
      obtain ⟨vs, ev⟩ := go_64 W4 t
      refine wb ev ?_
      obtain ⟨-, g1, g2, g3, g4, g5, g6, g7, g8, g9⟩ := E4
      obtain ⟨q14, e14, W14, F14, l14, u14, f5, hf5, ho5, hod5⟩ := p_goesOn hn W4 (a1 := 0) t g1 g2 g3 g4 g5 g6 g7 hf4
      refine wb e14 ?_
      have o5 := hod f5 hf5.2
      refine lInl ⟨rfl, rfl, W14, Zfr.tr F4 F14 (by decide), f5, hf5⟩ ?_
      dsimp only
      rw [rdf_e hf5.1, rdf_e hf3.1, if_neg h]
      have hsame : od nd.toInt.toNat (dg f7) (sl g pv.toInt.toNat 0) ns.toInt.toNat = od nd.toInt.toNat (dg f3) (sl g pv.toInt.toNat 0) ns.toInt.toNat := od_cg (fun i hi hs => by unfold dg; rw [ho7 i (by omega) hs])
      by_cases hq : q14.1 = 0
      · rw [if_pos hq]; omega
      · rw [if_neg hq]
        have := i_ne hq
        have := hod5 (by omega)
        rw [hsame] at this
        omega
    refine wi (fun h0 => ?_) (fun h0 => ?_)
    · exact fin q7.2 W7 F37 hf7
    have E7 := Ev_fr E F37 W (by decide)
    have ekn7 := E7.2.1
    have epv7 := E7.2.2.2.1
    refine wb ((Zfr.gr F37 t (by decide)).trans ekv) ?_
    refine wb ekn7 ?_
    refine wb ((Zfr.gr F37 t (by decide)).trans eka) ?_
    refine wb epv7 ?_
    refine wb ((Zfr.ai F37 tka (by decide)).trans eva) ?_
    obtain ⟨n1, en1, ln1, un1⟩ := ga_121 W7 tkn (i := va) (by omega) (by omega)
    refine wb en1 ?_
    refine wb ekn7 ?_
    refine wb ((Zfr.gr F37 t (by decide)).trans ekb) ?_
    refine wb epv7 ?_
    refine wb ((Zfr.ai F37 tkb (by decide)).trans evb) ?_
    obtain ⟨n2, en2, ln2, un2⟩ := ga_121 W7 tkn (i := vb) (by omega) (by omega)
    refine wb en2 ?_
    have s4 := i_sub (a := x1) (b := 4) (by omega) (by omega)
    have m1 := i_mull (a := 256) (b := x1 - 4) (n := 256) l256 (by omega) (by omega)
    have m2 := i_mull (a := 16) (b := n1) (n := 16) l16 (by omega) (by omega)
    have a1 := i_add (a := 256 * (x1 - 4)) (b := 16 * n1) (by omega) (by omega)
    have a2 := i_add (a := 256 * (x1 - 4) + 16 * n1) (b := n2) (by omega) (by omega)
    rw [a1, m1, m2, s4, l4] at a2
    obtain ⟨c8, e8, W8, F8, _⟩ := pa_124 W7 tkv (i := 256 * (x1 - 4) + 16 * n1 + n2) (by rw [a2]; omega) (by rw [a2]; omega) (x := 1) (rgi (by decide) (by decide))
    refine wb e8 ?_
    exact fin c8 W8 (Zfr.tr F37 F8 (by decide)) (Dg_fr hf7 F8 tkn (by decide))
  · exact ⟨rfl, rfl, W, Zfr.rf, f, hf⟩
  · dsimp only
    split <;> omega
set_option maxRecDepth 100000 in
set_option maxHeartbeats 1000000 in
theorem p_round {nf : Nat} (hn : 8589934592 ≤ nf) {G : List Nat} {c : Zc} (W : Zwt zty G c) {m kl : Nat} {f : Nat → Int32} (t : G[m]? = some 64) (hG : GtM c m) (ekl : zgr c m 12 9 = some kl) (hl : c[kl]? = some (.inl (0, 3328, .inl f))) (hb : LdB f) :
    ∃ q, f_Mo_round nf m c = some q ∧ Zwt zty G q.2 ∧ Zfr G M_Mo_round c q.2 ∧ 0 ≤ q.1.toInt ∧ q.1.toInt ≤ 1 ∧ ∃ f', q.2[kl]? = some (.inl (0, 3328, .inl f')) ∧ LdB f' ∧ cnR f + q.1.toInt.toNat ≤ cnR f' := by
  have l1 : (1 : Int32).toInt = 1 := by decide
  have l0 : (0 : Int32).toInt = 0 := by decide
  have l4 : (4 : Int32).toInt = 4 := by decide
  have l8 : (8 : Int32).toInt = 8 := by decide
  have l1024 : (1024 : Int32).toInt = 1024 := by decide
  have l2048 : (2048 : Int32).toInt = 2048 := by decide
  obtain ⟨k, e, tkl⟩ := gf_64_9 W t
  rw [ekl] at e; cases e
  obtain ⟨kv, ekv, tkv⟩ := gf_64_77 W t
  obtain ⟨kr, ekr, tkr⟩ := gf_64_23 W t
  obtain ⟨kz, ekz, tkz⟩ := gf_64_22 W t
  obtain ⟨nd, end0, ld, ud⟩ := gf_64_0 W t
  unfold f_Mo_round f_Mo_round_2
  have L : ∃ b, zlp (fun a : Nat × Int32 × Zc => g_Mo_round_2 nf a.1 a.2.1 a.2.2) nf (m, 0, c) = some b ∧ (fun b : Nat × Zc => m = b.1 ∧ Zwt zty G b.2 ∧ Zfr G MR1 c b.2) b := by
    refine wlp (fun a : Nat × Int32 × Zc => m = a.1 ∧ Zwt zty G a.2.2 ∧ Zfr G MR1 c a.2.2 ∧ 0 ≤ a.2.1.toInt ∧ a.2.1.toInt ≤ 1024) (fun a => (1024 - a.2.1.toInt).toNat) _ ?_ ?_ ?_
    · rintro ⟨x0, x1, c1⟩ hI
      dsimp only at hI ⊢
      obtain ⟨rfl, W1, F1, lx, ux⟩ := hI
      unfold g_Mo_round_2
      refine wi (fun h => ?_) (fun h => ?_)
      · exact lInr ⟨rfl, W1, F1⟩
      have h := i_nle h
      refine wb ((Zfr.gr F1 t (by decide)).trans ekv) ?_
      obtain ⟨c11, e11, W11, F11, _⟩ := pa_124 W1 tkv (i := x1) (by omega) (by omega) (x := 0) (rgi (by decide) (by decide))
      refine wb e11 ?_
      have sm := i_add (a := x1) (b := 1) (by omega) (by omega)
      exact lInl ⟨rfl, W11, Zfr.tr F1 F11 (by decide), by dsimp only; omega, by dsimp only; omega⟩ (by dsimp only; omega)
    · exact ⟨rfl, W, Zfr.rf, by dsimp only; omega, by dsimp only; omega⟩
    · dsimp only; omega
  obtain ⟨⟨z0, c1⟩, eb, hb1⟩ := L
  refine wb eb ?_
  dsimp only at hb1 ⊢
  obtain ⟨rfl, W1, F1⟩ := hb1
  unfold f_Mo_round_24
  have L : ∃ b, zlp (fun a : Nat × Int32 × Zc => g_Mo_round_24 nf a.1 a.2.1 a.2.2) nf (m, 4, c1) = some b ∧ (fun b : Nat × Zc => m = b.1 ∧ Zwt zty G b.2 ∧ Zfr G MR1 c b.2) b := by
    refine wlp (fun a : Nat × Int32 × Zc => m = a.1 ∧ Zwt zty G a.2.2 ∧ Zfr G MR1 c a.2.2 ∧ 4 ≤ a.2.1.toInt ∧ a.2.1.toInt ≤ 8) (fun a => (8 - a.2.1.toInt).toNat) _ ?_ ?_ ?_
    · rintro ⟨x0, x1, c2⟩ hI
      dsimp only at hI ⊢
      obtain ⟨rfl, W2, F2, lx, ux⟩ := hI
      unfold g_Mo_round_24 f_Mo_round_132
      have sm : x1.toInt < 8 → (x1 + 1).toInt = x1.toInt + 1 := fun q => by rw [i_add (by omega) (by omega), l1]
      refine wi (fun h => ?_) (fun h => ?_)
      · exact lInr ⟨rfl, W2, F2⟩
      have h := i_nle h
      have sm := sm (by omega)
      have ekr2 := (Zfr.gr F2 t (by decide) : zgr c2 m 12 23 = _).trans ekr
      have ekz2 := (Zfr.gr F2 t (by decide) : zgr c2 m 12 22 = _).trans ekz
      refine wb ekr2 ?_
      obtain ⟨v6, e6, l6, u6⟩ := ga_78 W2 tkr (i := x1) (by omega) (by omega)
      refine wb e6 ?_
      refine wi (fun h0 => ?_) (fun h0 => ?_)
      · exact lInl ⟨rfl, W2, F2, by dsimp only; omega, by dsimp only; omega⟩ (by dsimp only; omega)
      have h0 := i_ne h0
      refine wb ((Zfr.gi F2 t (by decide)).trans end0) ?_
      refine wi (fun h1 => ?_) (fun h1 => ?_)
      · exact lInl ⟨rfl, W2, F2, by dsimp only; omega, by dsimp only; omega⟩ (by dsimp only; omega)
      have h1 := i_nle h1
      refine wb ekz2 ?_
      obtain ⟨v11, e11, l11, u11⟩ := ga_77 W2 tkz (i := x1) (by omega) (by omega)
      refine wb e11 ?_
      have hG2 := GtM_fr hG F2 t W (by decide)
      obtain ⟨hS, hR⟩ := hG2 x1 kr kz v6 v11 ekr2 ekz2 (by omega) (by omega) e6 (by omega) e11
      have hR := hR lx
      obtain ⟨c12, e12, W12, F12, g12⟩ := pf_64_25 W2 t (x := v11) (rgi (by omega) (by omega))
      refine wb e12 ?_
      have hT12 : TxM c12 m := ⟨v11, g12, TxS_fr hS F12 t W2 (by decide)⟩
      have hR12 := TxG_fr hR F12 t W2 (by decide)
      obtain ⟨vs, ev⟩ := go_64 W12 t
      refine wb ev ?_
      obtain ⟨q13, e13, W13, F13⟩ := p_Mo_measureAll hn W12 t
      refine wb e13 ?_
      obtain ⟨vs, ev⟩ := go_64 W13 t
      refine wb ev ?_
      obtain ⟨kn, ekn, tkn⟩ := gf_64_74 W13 t
      obtain ⟨q15, e15, W15, F15, f15, hf15, hz15⟩ := p_firstRow hn W13 t ekn
      refine wb e15 ?_
      have F2_13 : Zfr G MR1 c q13 := Zfr.tr (Zfr.tr F2 F12 (by decide)) F13 (by decide)
      have F2_15 : Zfr G MR1 c q15 := Zfr.tr F2_13 F15 (by decide)
      have hT15 := TxM_fr (TxM_fr hT12 F13 t W12 (by decide)) F15 t W13 (by decide)
      have hR15 := TxG_fr (TxG_fr hR12 F13 t W12 (by decide)) F15 t W13 (by decide)
      obtain ⟨kn', kg, ks, pv, ns, g, E⟩ := Ev_mk W15 t hT15 ((Zfr.gi F2_15 t (by decide)).trans end0) (by omega)
      have hkn : kn' = kn := by
        have a := E.2.1
        rw [(Zfr.gr F15 t (by decide) : zgr q15 m 12 74 = _), ekn] at a
        cases a; rfl
      subst hkn
      have hpv : pv = v11 := by
        have a := E.2.2.2.1
        rw [(Zfr.gi F15 t (by decide) : zgi q15 m 12 25 = _), (Zfr.gi F13 t (by decide) : zgi q13 m 12 25 = _), g12] at a
        cases a; rfl
      subst hpv
      unfold f_Mo_round_66
      obtain ⟨⟨z0, z1, c16⟩, e16, h16⟩ := p_round66 hn W15 E ⟨hf15, fun i hi => by have := hz15 i hi; omega⟩ hR15 lx (by omega)
      refine wb e16 ?_
      dsimp only at h16 ⊢
      obtain ⟨rfl, rfl, W16, F16⟩ := h16
      exact lInl ⟨rfl, W16, Zfr.tr F2_15 F16 (by decide), by dsimp only; omega, by dsimp only; omega⟩ (by dsimp only; omega)
    · exact ⟨rfl, W1, F1, by dsimp only; omega, by dsimp only; omega⟩
    · dsimp only; omega
  obtain ⟨⟨z0, c2⟩, eb, hb2⟩ := L
  refine wb eb ?_
  dsimp only at hb2 ⊢
  obtain ⟨rfl, W2, F2⟩ := hb2
  have hl2 := fr_cell F2 tkl (by decide) hl
  unfold f_Mo_round_142
  have L : ∃ b, zlp (fun a : Nat × Int32 × Int32 × Zc => g_Mo_round_142 nf a.1 a.2.1 a.2.2.1 a.2.2.2) nf (m, 0, 0, c2) = some b ∧ (fun b : Int32 × Zc => Zwt zty G b.2 ∧ Zfr G M_Mo_round c b.2 ∧ 0 ≤ b.1.toInt ∧ b.1.toInt ≤ 1 ∧ ∃ f', b.2[kl]? = some (.inl (0, 3328, .inl f')) ∧ LdB f' ∧ cnR f + b.1.toInt.toNat ≤ cnR f') b := by
    refine wlp (fun a : Nat × Int32 × Int32 × Zc => m = a.1 ∧ Zwt zty G a.2.2.2 ∧ Zfr G M_Mo_round c a.2.2.2 ∧ 0 ≤ a.2.1.toInt ∧ a.2.1.toInt ≤ 1 ∧ 0 ≤ a.2.2.1.toInt ∧ a.2.2.1.toInt ≤ 1024 ∧ ∃ f', a.2.2.2[kl]? = some (.inl (0, 3328, .inl f')) ∧ LdB f' ∧ cnR f + a.2.1.toInt.toNat ≤ cnR f') (fun a => (1024 - a.2.2.1.toInt).toNat) _ ?_ ?_ ?_
    · rintro ⟨x0, x1, x2, c3⟩ hI
      dsimp only at hI ⊢
      obtain ⟨rfl, W3, F3, lx, ux, ly, uy, f3, hf3, hb3, hc3⟩ := hI
      unfold g_Mo_round_142 f_Mo_round_174
      refine wi (fun h => ?_) (fun h => ?_)
      · exact lInr ⟨W3, F3, lx, ux, f3, hf3, hb3, hc3⟩
      have h := i_nle h
      have ekv3 := (Zfr.gr F3 t (by decide) : zgr c3 m 12 77 = _).trans ekv
      have ekl3 := (Zfr.gr F3 t (by decide) : zgr c3 m 12 9 = _).trans ekl
      refine wb ekv3 ?_
      obtain ⟨v37, e37, l37, u37⟩ := ga_124 W3 tkv (i := x2) (by omega) (by omega)
      refine wb e37 ?_
      refine wb ekl3 ?_
      have ix := i_add (a := 2048) (b := x2) (by omega) (by omega)
      have sm := i_add (a := x2) (b := 1) (by omega) (by omega)
      generalize (2048 : Int32) + x2 = xx at ix ⊢
      have r39 := rd_ai (i := xx) hf3 (by omega) (by omega)
      have hxx : xx.toInt.toNat = 2048 + x2.toInt.toNat := by omega
      rw [hxx] at r39
      have hbx := hb3 x2.toInt.toNat (by omega)
      generalize hv : f3 (2048 + x2.toInt.toNat) = v39 at r39 hbx
      refine wb r39 ?_
      have h37 : v37 = 0 ∨ v37 = 1 := i_01 ⟨l37, u37⟩
      have step : ∀ s1 : Int32, (v37 ≤ v39 ∧ s1 = 0) ∨ (¬ v37 ≤ v39 ∧ s1 = 1) → ∃ r, ((zgr c3 m 12 9).bind fun v41 => (zai c3 v41 0 xx).bind fun v42 => (zgr c3 m 12 77).bind fun v43 => (zai c3 v43 0 x2).bind fun v44 => (zsi c3 v41 0 xx (v42 ||| v44)).bind fun c45 => (some (.inl (m, (x1 ||| s1), (x2 + 1), c45)) : Option ((Nat × Int32 × Int32 × Zc) ⊕ (Int32 × Zc)))) = some r ∧ (∀ y, r = .inl y → (fun a : Nat × Int32 × Int32 × Zc => m = a.1 ∧ Zwt zty G a.2.2.2 ∧ Zfr G M_Mo_round c a.2.2.2 ∧ 0 ≤ a.2.1.toInt ∧ a.2.1.toInt ≤ 1 ∧ 0 ≤ a.2.2.1.toInt ∧ a.2.2.1.toInt ≤ 1024 ∧ ∃ f', a.2.2.2[kl]? = some (.inl (0, 3328, .inl f')) ∧ LdB f' ∧ cnR f + a.2.1.toInt.toNat ≤ cnR f') y ∧ (fun a : Nat × Int32 × Int32 × Zc => (1024 - a.2.2.1.toInt).toNat) y < (1024 - x2.toInt).toNat) ∧ (∀ b, r = .inr b → (fun b : Int32 × Zc => Zwt zty G b.2 ∧ Zfr G M_Mo_round c b.2 ∧ 0 ≤ b.1.toInt ∧ b.1.toInt ≤ 1 ∧ ∃ f', b.2[kl]? = some (.inl (0, 3328, .inl f')) ∧ LdB f' ∧ cnR f + b.1.toInt.toNat ≤ cnR f') b) := by
        intro s1 hs1
        refine wb ekl3 ?_
        refine wb r39 ?_
        refine wb ekv3 ?_
        refine wb e37 ?_
        obtain ⟨c45, e45, W45, F45, _⟩ := pa_72 W3 tkl (i := xx) (by omega) (by omega) (x := v39 ||| v37) trivial
        refine wb e45 ?_
        have h45 := (wr_x hf3 e45).1
        rw [hxx] at h45
        have hx1 := i_01 ⟨lx, ux⟩
        have up := cnR_up (f := f3) (i := x2.toInt.toNat) (x := v39 ||| v37) (by omega)
        rw [hv] at up
        have hor : (v39 ||| v37) = 0 ∨ (v39 ||| v37) = 1 := by
          rcases hbx with rfl | rfl <;> rcases h37 with rfl | rfl <;> decide
        have hlx : 0 ≤ (x1 ||| s1).toInt ∧ (x1 ||| s1).toInt ≤ 1 := by
          rcases hs1 with ⟨_, rfl⟩ | ⟨_, rfl⟩ <;> rcases hx1 with rfl | rfl <;> decide
        refine lInl ⟨rfl, W45, Zfr.tr F3 F45 (by decide), hlx.1, hlx.2, by dsimp only; omega, by dsimp only; omega, _, h45, ?_, ?_⟩ (by dsimp only; omega)
        · intro i hi
          by_cases q : i = x2.toInt.toNat
          · subst q; rw [upd_s]; exact hor
          · rw [upd_n (by omega)]; exact hb3 i hi
        · dsimp only
          rcases hs1 with ⟨hle, rfl⟩ | ⟨hle, rfl⟩ <;> rcases hx1 with rfl | rfl <;> rcases hbx with rfl | rfl <;> rcases h37 with rfl | rfl <;> first
            | exact absurd hle (by decide)
            | exact absurd (by decide) hle
            | (revert up hc3; generalize cnR (upd f3 _ _) = A; generalize cnR f3 = B; intro up hc3
               simp only [show ((0 : Int32) ||| 0) = 0 from by decide, show ((0 : Int32) ||| 1) = 1 from by decide, show ((1 : Int32) ||| 0) = 1 from by decide, show ((1 : Int32) ||| 1) = 1 from by decide, l0, l1, if_pos, if_neg (show ¬ (1 : Int32) = 0 from by decide), if_true, if_pos rfl] at up hc3 ⊢
               omega)
      refine wi (fun hle => ?_) (fun hle => ?_)
      · exact step 0 (.inl ⟨hle, rfl⟩)
      · exact step 1 (.inr ⟨hle, rfl⟩)
    · refine ⟨rfl, W2, Zfr.mo F2 (by decide), by dsimp only; omega, by dsimp only; omega, by dsimp only; omega, by dsimp only; omega, f, hl2, hb, ?_⟩
      dsimp only
      rw [l0]; exact Nat.le_refl _
    · dsimp only; omega
  obtain ⟨⟨z1, c3⟩, eb, hb3⟩ := L
  refine wb eb ?_
  dsimp only at hb3 ⊢
  obtain ⟨W3, F3, lz, uz, f3, hf3, hb3, hc3⟩ := hb3
  exact wz (rgi (by omega) (by omega)) ⟨W3, F3, lz, uz, f3, hf3, hb3, hc3⟩
end ZzT
