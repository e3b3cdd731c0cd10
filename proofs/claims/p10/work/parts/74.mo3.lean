section ZzT
/-- what evaluating text p stands on -/
def Ev (G : List Nat) (c : Zc) (m kn kg ks : Nat) (pv nd ns : Int32) (g : Nat → Int32) : Prop := G[m]? = some 64 ∧ zgr c m 12 74 = some kn ∧ zgr c m 12 29 = some kg ∧ zgi c m 12 25 = some pv ∧ zgi c m 12 0 = some nd ∧ zgr c m 12 26 = some ks ∧ zai c ks 0 pv = some ns ∧ Gr c kg g ∧ TxM c m ∧ 1 ≤ nd.toInt
abbrev EVF : List (Nat × Nat) := TXF ++ [(64, 74), (64, 29), (64, 25), (64, 0), (64, 26), (79, 0), (82, 0)]
section
variable {G : List Nat} {M : List (Nat × Nat)} {c c' : Zc} {m kn kg ks : Nat} {pv nd ns : Int32} {f g : Nat → Int32}
theorem Ev_fr (h : Ev G c m kn kg ks pv nd ns g) (F : Zfr G M c c') (W : Zwt zty G c) (hM : ∀ x ∈ EVF, x ∉ M) : Ev G c' m kn kg ks pv nd ns g := by
  obtain ⟨t, h1, h2, h3, h4, h5, h6, h7, h8, h9⟩ := h
  obtain ⟨k, e, tg⟩ := gf_64_29 W t
  rw [h2] at e; cases e
  obtain ⟨k, e, ts⟩ := gf_64_26 W t
  rw [h5] at e; cases e
  refine ⟨t, (Zfr.gr F t (hM _ (by decide))).trans h1, (Zfr.gr F t (hM _ (by decide))).trans h2, (Zfr.gi F t (hM _ (by decide))).trans h3, (Zfr.gi F t (hM _ (by decide))).trans h4, (Zfr.gr F t (hM _ (by decide))).trans h5, (Zfr.ai F ts (hM _ (by decide))).trans h6, fr_cell F tg (hM _ (by decide)) h7, TxM_fr h8 F t W ⟨fun x hx => hM x (List.mem_append_left _ hx), hM _ (by decide)⟩, h9⟩
theorem Ev_mk (W : Zwt zty G c) (t : G[m]? = some 64) (h : TxM c m) (e : zgi c m 12 0 = some nd) (hd : 1 ≤ nd.toInt) : ∃ kn kg ks pv ns g, Ev G c m kn kg ks pv nd ns g := by
  obtain ⟨kn, e1, t1⟩ := gf_64_74 W t
  obtain ⟨kg, e2, t2⟩ := gf_64_29 W t
  obtain ⟨ks, e3, t3⟩ := gf_64_26 W t
  obtain ⟨pv, e4, l4, u4⟩ := gf_64_25 W t
  obtain ⟨ns, e5, l5, u5⟩ := ga_79 W t3 (i := pv) (by omega) (by omega)
  obtain ⟨g, h6, _⟩ := wt_cell W t2 rfl
  exact ⟨kn, kg, ks, pv, ns, g, t, e1, e2, e4, e, e3, e5, h6, h, hd⟩
theorem Ev_rg (W : Zwt zty G c) (h : Ev G c m kn kg ks pv nd ns g) : G[kn]? = some 121 ∧ (0 ≤ pv.toInt ∧ pv.toInt ≤ 8) ∧ (1 ≤ nd.toInt ∧ nd.toInt ≤ 16) ∧ 0 ≤ ns.toInt ∧ ns.toInt ≤ 8 := by
  obtain ⟨t, h1, h2, h3, h4, h5, h6, h7, h8, h9⟩ := h
  obtain ⟨k, e, tn⟩ := gf_64_74 W t
  rw [h1] at e; cases e
  obtain ⟨k, e, lp, up⟩ := gf_64_25 W t
  rw [h3] at e; cases e
  obtain ⟨k, e, ld, ud⟩ := gf_64_0 W t
  rw [h4] at e; cases e
  obtain ⟨k, e, ts⟩ := gf_64_26 W t
  rw [h5] at e; cases e
  obtain ⟨k, e, ls, us⟩ := ga_79 W ts (i := pv) (by omega) (by omega)
  rw [h6] at e; cases e
  exact ⟨tn, ⟨lp, up⟩, ⟨h9, ud⟩, ls, us⟩
theorem Dg_fr (h : Dg c kn nd.toInt f) (F : Zfr G M c c') (t : G[kn]? = some 121) (hM : (121, 0) ∉ M) : Dg c' kn nd.toInt f := ⟨fr_cell F t hM h.1, h.2⟩
end
def rdf (c : Zc) (k : Nat) : Nat → Int32 := match c[k]? with
  | some (.inl (_, _, .inl f)) => f
  | _ => fun _ => 0
theorem rdf_e {c : Zc} {k t n : Nat} {f : Nat → Int32} (h : c[k]? = some (.inl (t, n, .inl f))) : rdf c k = f := by
  unfold rdf; rw [h]
theorem pw_16 {a b : Int32} (h1 : a.toInt ≤ 16) (h2 : b.toInt ≤ 8) (h0 : 1 ≤ a.toInt) : a.toInt.toNat ^ b.toInt.toNat ≤ 4294967296 := by
  have e1 : a.toInt.toNat ^ b.toInt.toNat ≤ a.toInt.toNat ^ 8 := Nat.pow_le_pow_right (by omega) (by omega)
  have e2 : a.toInt.toNat ^ 8 ≤ 16 ^ 8 := Nat.pow_le_pow_left (by omega) 8
  have e3 : (16 : Nat) ^ 8 = 4294967296 := by decide
  omega
set_option maxRecDepth 100000 in
set_option maxHeartbeats 1000000 in
theorem p_isWithout {nf : Nat} (hn : 8589934592 ≤ nf) {G : List Nat} {c : Zc} (W : Zwt zty G c) {m kn kg ks : Nat} {a1 pv nd ns : Int32} {f g : Nat → Int32} (E : Ev G c m kn kg ks pv nd ns g) (hf : Dg c kn nd.toInt f) (h0 : 0 ≤ a1.toInt) (h1 : a1.toInt ≤ 79) :
    ∃ q, f_Mo_isWithout nf m a1 c = some q ∧ Zwt zty G q.2 ∧ Zfr G [(121, 0), (122, 0)] c q.2 ∧ 0 ≤ q.1.toInt ∧ q.1.toInt ≤ 1 ∧ ∃ f', Dg q.2 kn nd.toInt f' ∧ ∀ i : Nat, i < 8 → sl g pv.toInt.toNat a1 i = false → f' i = f i := by
  obtain ⟨tkn, ⟨lp, up⟩, ⟨ld, ud⟩, ls, us⟩ := Ev_rg W E
  have l1 : (1 : Int32).toInt = 1 := by decide
  have l0 : (0 : Int32).toInt = 0 := by decide
  have l8 : (8 : Int32).toInt = 8 := by decide
  have t := E.1
  unfold f_Mo_isWithout f_Mo_isWithout_2
  have L : ∃ b, zlp (fun a : Nat × Int32 × Int32 × Zc => g_Mo_isWithout_2 nf a.1 a.2.1 a.2.2.1 a.2.2.2) nf (m, a1, 0, c) = some b ∧ (fun b : Nat × Int32 × Zc => m = b.1 ∧ a1 = b.2.1 ∧ Zwt zty G b.2.2 ∧ Zfr G [(121, 0), (122, 0)] c b.2.2 ∧ ∃ f', Dg b.2.2 kn nd.toInt f' ∧ ∀ i : Nat, i < 8 → sl g pv.toInt.toNat a1 i = false → f' i = f i) b := by
    refine wlp (fun a : Nat × Int32 × Int32 × Zc => m = a.1 ∧ a1 = a.2.1 ∧ Zwt zty G a.2.2.2 ∧ Zfr G [(121, 0), (122, 0)] c a.2.2.2 ∧ 0 ≤ a.2.2.1.toInt ∧ a.2.2.1.toInt ≤ 8 ∧ ∃ f', Dg a.2.2.2 kn nd.toInt f' ∧ ∀ i : Nat, i < 8 → sl g pv.toInt.toNat a1 i = false → f' i = f i) (fun a => (8 - a.2.2.1.toInt).toNat) _ ?_ ?_ ?_
    · rintro ⟨x0, x1, x2, c1⟩ hI
      dsimp only at hI ⊢
      obtain ⟨rfl, rfl, W1, F1, lx, ux, f1, ⟨hf1, hb1⟩, ho⟩ := hI
      obtain ⟨-, g1, g2, g3, g4, g5, g6, g7, g8, g9⟩ := Ev_fr E F1 W (by decide)
      unfold g_Mo_isWithout_2 f_Mo_isWithout_40
      refine wb g5 ?_
      refine wb g3 ?_
      refine wb g6 ?_
      refine wi (fun h => ?_) (fun h => ?_)
      · exact lInr ⟨rfl, rfl, W1, F1, f1, ⟨hf1, hb1⟩, ho⟩
      have h := i_nle h
      have m8 := i_mull (a := 8) (b := pv) (n := 8) l8 (by omega) (by omega)
      have ix := i_add (a := 8 * pv) (b := x2) (by omega) (by omega)
      have sm := i_add (a := x2) (b := 1) (by omega) (by omega)
      refine wb g2 ?_
      refine wb g3 ?_
      rw [m8] at ix
      generalize (8 * pv) + x2 = xx at ix ⊢
      have rg1 := rd_ai (i := xx) g7 (by omega) (by omega)
      have hxe : xx.toInt.toNat = 8 * pv.toInt.toNat + x2.toInt.toNat := by omega
      rw [hxe] at rg1
      refine wb rg1 ?_
      refine wi (fun hv => ?_) (fun hv => ?_)
      · refine wb g1 ?_
        obtain ⟨c11, e11, W11, F11, _⟩ := pa_121 W1 tkn (i := x2) (by omega) (by omega) (x := 0) (rgi (by decide) (by decide))
        refine wb e11 ?_
        have hf11 := (wr_x hf1 e11).1
        refine lInl ⟨rfl, rfl, W11, Zfr.tr F1 F11 (by decide), by dsimp only; omega, by dsimp only; omega, _, ⟨hf11, ?_⟩, ?_⟩ (by dsimp only; omega)
        · intro i hi
          by_cases q : i = x2.toInt.toNat
          · subst q; rw [upd_s]; omega
          · rw [upd_n q]; exact hb1 i hi
        · intro i hi hs
          by_cases q : i = x2.toInt.toNat
          · subst q; unfold sl at hs; exact absurd hv (of_decide_eq_false hs)
          · rw [upd_n q]; exact ho i hi hs
      · exact lInl ⟨rfl, rfl, W1, F1, by dsimp only; omega, by dsimp only; omega, f1, ⟨hf1, hb1⟩, ho⟩ (by dsimp only; omega)
    · exact ⟨rfl, rfl, W, Zfr.rf, by dsimp only; omega, by dsimp only; omega, f, hf, fun _ _ _ => rfl⟩
    · dsimp only; omega
  obtain ⟨⟨z0, z1, c1⟩, eb, hb⟩ := L
  refine wb eb ?_
  dsimp only at hb ⊢
  obtain ⟨rfl, rfl, W1, F1, f1, hf1, ho1⟩ := hb
  unfold f_Mo_isWithout_50
  have hp := pw_16 (a := nd) (b := ns) ud us ld
  have L : ∃ b, zlp (fun a : Nat × Int32 × Int32 × Int32 × Zc => g_Mo_isWithout_50 nf a.1 a.2.1 a.2.2.1 a.2.2.2.1 a.2.2.2.2) nf (m, a1, 1, 0, c1) = some b ∧ (fun b : Int32 × Zc => Zwt zty G b.2 ∧ Zfr G [(121, 0), (122, 0)] c b.2 ∧ ∃ f', Dg b.2 kn nd.toInt f' ∧ ∀ i : Nat, i < 8 → sl g pv.toInt.toNat a1 i = false → f' i = f i) b := by
    refine wlp (fun a : Nat × Int32 × Int32 × Int32 × Zc => m = a.1 ∧ a1 = a.2.1 ∧ Zwt zty G a.2.2.2.2 ∧ Zfr G [(121, 0), (122, 0)] c a.2.2.2.2 ∧ ∃ f', Dg a.2.2.2.2 kn nd.toInt f' ∧ ∀ i : Nat, i < 8 → sl g pv.toInt.toNat a1 i = false → f' i = f i) (fun a => if a.2.2.1 = 0 then 0 else nd.toInt.toNat ^ ns.toInt.toNat + 1 - od nd.toInt.toNat (dg (rdf a.2.2.2.2 kn)) (sl g pv.toInt.toNat a1) ns.toInt.toNat) _ ?_ ?_ ?_
    · rintro ⟨x0, x1, x2, x3, c2⟩ hI
      dsimp only at hI ⊢
      obtain ⟨rfl, rfl, W2, F2, f2, hf2, ho2⟩ := hI
      have E2 := Ev_fr E F2 W (by decide)
      unfold g_Mo_isWithout_50
      refine wi (fun h => ?_) (fun h => ?_)
      · exact lInr ⟨W2, F2, f2, hf2, ho2⟩
      obtain ⟨vs, ev⟩ := go_64 W2 t
      refine wb ev ?_
      obtain ⟨q12, e12, W12, F12, l12, u12⟩ := p_Mo_fits hn W2 (a1 := a1) t h0 h1 E2.2.2.2.2.2.2.2.2.1
      refine wb e12 ?_
      have E3 := Ev_fr E2 F12 W2 (by decide)
      have hf3 := Dg_fr hf2 F12 tkn (by decide)
      obtain ⟨vs, ev⟩ := go_64 W12 t
      refine wb ev ?_
      obtain ⟨-, g1, g2, g3, g4, g5, g6, g7, g8, g9⟩ := E3
      obtain ⟨q14, e14, W14, F14, l14, u14, f4, hf4, ho4, hod⟩ := p_goesOn hn W12 (a1 := a1) t g1 g2 g3 g4 g5 g6 g7 hf3
      refine wb e14 ?_
      have F24 := Zfr.tr (Zfr.tr F2 F12 (by decide)) F14 (by decide)
      refine lInl ⟨rfl, rfl, W14, F24, f4, hf4, fun i hi hs => (ho4 i hi (.inr hs)).trans (ho2 i hi hs)⟩ ?_
      dsimp only
      rw [rdf_e hf4.1, rdf_e hf2.1, if_neg h]
      have o2 := od_lt (b := nd.toInt.toNat) (d := dg f2) (s := sl g pv.toInt.toNat a1) (k := ns.toInt.toNat) (by omega) (fun i hi => by unfold dg; have := hf2.2 i (by omega); omega)
      by_cases hq : q14.1 = 0
      · rw [if_pos hq]; omega
      · rw [if_neg hq]
        have := i_ne hq
        have o4 := hod (by omega)
        have o5 := od_lt (b := nd.toInt.toNat) (d := dg f4) (s := sl g pv.toInt.toNat a1) (k := ns.toInt.toNat) (by omega) (fun i hi => by unfold dg; have := hf4.2 i (by omega); omega)
        omega
    · exact ⟨rfl, rfl, W1, F1, f1, hf1, ho1⟩
    · dsimp only
      split <;> omega
  obtain ⟨⟨z3, c3⟩, eb, hb⟩ := L
  refine wb eb ?_
  dsimp only at hb ⊢
  obtain ⟨W3, F3, f3, hf3, ho3⟩ := hb
  unfold f_Mo_isWithout_80
  refine wi (fun h => ?_) (fun h => ?_)
  · exact wz (rgi (by decide) (by decide)) ⟨W3, F3, by dsimp only; omega, by dsimp only; omega, f3, hf3, ho3⟩
  · exact wz (rgi (by decide) (by decide)) ⟨W3, F3, by dsimp only; omega, by dsimp only; omega, f3, hf3, ho3⟩
end ZzT
