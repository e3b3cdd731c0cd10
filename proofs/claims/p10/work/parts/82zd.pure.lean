section ZzT
theorem pure_c {nf : Nat} (hn : 8589934592 ≤ nf) {L : Nat} {xs : Nat → Int32} (hL : L ≤ 3072) {G3 : List Nat} {d3 : Zc} {pm : Nat} (W3 : Zwt zty G3 d3) (t3 : G3[pm]? = some 0) (c3 : d3[pm]? = some (.inr (12, [.int 0, .null, .null, .null, .null, .null, .null, .null, .int 0, .null, .int 0, .int 0, .null, .int 0, .null, .null, .null, .int 0, .int 0, .int 0, .int 0, .int 0, .null, .null, .int 0, .int 0, .null, .null, .null, .null, .null, .null, .null, .null, .null, .null, .null, .null, .null, .null, .null, .null, .null, .null, .null, .null, .null, .null, .null, .null, .null, .null, .int 0, .int 0, .null, .null, .int 0, .int 0, .null, .null, .null, .null, .null, .null, .null, .int 0, .null, .null, .null, .int 0, .null, .null, .null, .null, .null, .null, .null, .null, .null, .null, .null, .int 0, .null, .null, .null, .null, .null, .int 0, .null, .null]))) (t3' : G3[0]? = some 14) (w3 : PQw G3 d3 0) (z3 : zgi d3 0 11 10 = some 0) {gp ka kb : Nat} (eg : zgr d3 0 11 1 = some gp) (tg : G3[gp]? = some 1) (ea : zgr d3 gp 0 0 = some ka) (ca : d3[ka]? = some (.inl (0, 16, .inl (fun _ => 0)))) (eb' : zgr d3 gp 0 1 = some kb) (cb : d3[kb]? = some (.inl (0, 64, .inl (fun _ => 0)))) (e7 : zgi d3 gp 0 7 = some 0) {kl : Nat} {fl : Nat → Int32} (el : zgr d3 gp 0 4 = some kl) (cl : d3[kl]? = some (.inl (0, 100, .inl fl))) (hfl : ∀ i : Nat, i < 100 → fl i = -1) (e8' : zgi d3 gp 0 8 = some 0) : ∃ r, f_Law_law_11 nf L xs 0 pm 878 42153 d3 = some r ∧ (r.1 ≤ 600000 ∧ r.2.1 ≤ 7302249) := by
  unfold f_Law_law_11
  obtain ⟨q4, eq4, G4, W4, X4, t4, S4, l4, gw, tk, ac, e8, e13, e0, m1, m2, m3⟩ := k_Mo_init_h hn W3 t3 c3
  refine wb eq4 ?_
  unfold f_Law_law_15 f_Law_law_18
  have x4 : ∀ j U : Nat, G3[j]? = some U → U ≠ 0 → G4[j]? = some U := fun j U h hU => X4 j U h (pl_ne h t3 hU)
  have g4 : ∀ j U : Nat, G3[j]? = some U → U ≠ 0 → q4[j]? = d3[j]? := fun j U h hU => S4.2 j (wt_lt W3 h) (pl_ne h t3 hU)
  have w4 := PQk_of (PQw_mv w3 t3' g4 x4)
  have z4 : zgi q4 0 11 10 = some 0 := by
    have g5 := g4 0 14 t3' (by decide)
    rw [← z3]; unfold zgi zgv; rw [g5]
  have l0 : (0 : Int32).toInt = 0 := by decide
  obtain ⟨ka', ea', tka⟩ := gf_1_0 W3 tg
  rw [ea] at ea'; cases ea'
  obtain ⟨kb', eb2, tkb⟩ := gf_1_1 W3 tg
  rw [eb'] at eb2; cases eb2
  have eg4 : zgr q4 0 11 1 = some gp := by
    have g5 := g4 0 14 t3' (by decide)
    rw [← eg]; unfold zgr zgv; rw [g5]
  have hgp := g4 gp 1 tg (by decide)
  have ea4 : zgr q4 gp 0 0 = some ka := by rw [← ea]; unfold zgr zgv; rw [hgp]
  have eb4 : zgr q4 gp 0 1 = some kb := by rw [← eb']; unfold zgr zgv; rw [hgp]
  have e74 : zgi q4 gp 0 7 = some 0 := by rw [← e7]; unfold zgi zgv; rw [hgp]
  have ca4 := (g4 ka 15 tka (by decide)).trans ca
  have cb4 := (g4 kb 16 tkb (by decide)).trans cb
  have gco : GCo q4 gp pm := by
    have A0 : gaf q4 gp 0 = fun _ => 0 := by unfold gaf gpl; rw [ea4]; exact rdf_e ca4
    have A1 : gaf q4 gp 1 = fun _ => 0 := by unfold gaf gpl; rw [eb4]; exact rdf_e cb4
    refine ⟨by rw [gfi_e e74, vfi_e e0], fun i _ => by rw [A0, m1], fun i _ => by rw [A1, m2], fun i _ _ => by rw [A1]⟩
  obtain ⟨kl', el', tkl⟩ := gf_1_4 W3 tg
  rw [el] at el'; cases el'
  have el4 : zgr q4 gp 0 4 = some kl := by rw [← el]; unfold zgr zgv; rw [hgp]
  have e84 : zgi q4 gp 0 8 = some 0 := by rw [← e8']; unfold zgi zgv; rw [hgp]
  have cl4 := (g4 kl 19 tkl (by decide)).trans cl
  have gar : GAr q4 gp pm := by
    have A4 : gaf q4 gp 4 = fl := by unfold gaf gpl; rw [el4]; exact rdf_e cl4
    refine ⟨by rw [gfi_e e84, vfi_e e8], fun k hk => ?_⟩
    rw [A4, hfl k hk, m3]
    exact ⟨⟨fun _ => (show (0 : Int32).toInt = 0 by decide), fun _ => by decide⟩, fun z => absurd (show (0 : Int32).toInt = 0 by decide) z⟩
  have hI : LInv 0 pm (0, pm, 0, 948, 1081343, q4) := ⟨rfl, rfl, ⟨Int.le_of_eq l0.symm, by rw [l0]; omega⟩, G4, W4, x4 _ _ t3' (by decide), t4, w4, gw, tk, ⟨0, e8, ac⟩, 0, 0, z4, e13, rfl, gp, eg4, x4 _ _ tg (by decide), gco, gar⟩
  obtain ⟨b, eb, hb⟩ := p_law_lp hn hL (xs := xs) hI l0
  refine wb eb ?_
  obtain ⟨kk, nn, c, rfl, h1, h2⟩ := hb
  exact ⟨_, rfl, h1, h2⟩
theorem pure_b {nf : Nat} (hn : 8589934592 ≤ nf) {L : Nat} {xs : Nat → Int32} (hL : L ≤ 3072) {G2 : List Nat} {q2 : Zc} (W2 : Zwt zty G2 q2) (t2 : G2[0]? = some 14) (w2 : PQw G2 q2 0) (z2 : zgi q2 0 11 10 = some 0) {gp ka kb : Nat} (eg : zgr q2 0 11 1 = some gp) (tg : G2[gp]? = some 1) (ea : zgr q2 gp 0 0 = some ka) (ca : q2[ka]? = some (.inl (0, 16, .inl (fun _ => 0)))) (eb' : zgr q2 gp 0 1 = some kb) (cb : q2[kb]? = some (.inl (0, 64, .inl (fun _ => 0)))) (e7 : zgi q2 gp 0 7 = some 0) {kl : Nat} {fl : Nat → Int32} (el : zgr q2 gp 0 4 = some kl) (cl : q2[kl]? = some (.inl (0, 100, .inl fl))) (hfl : ∀ i : Nat, i < 100 → fl i = -1) (e8' : zgi q2 gp 0 8 = some 0) : ∃ r, f_Law_law_7 nf L xs 0 877 42063 q2 = some r ∧ (r.1 ≤ 600000 ∧ r.2.1 ≤ 7302249) := by
  unfold f_Law_law_7
  have g3 : ∀ e : va_E, ∀ j U : Nat, G2[j]? = some U → U ≠ 0 → (q2 ++ [e])[j]? = q2[j]? := fun e j U h _ => List.getElem?_append_left (wt_lt W2 h)
  have x3 : ∀ j U : Nat, G2[j]? = some U → U ≠ 0 → (G2 ++ [0])[j]? = some U := fun j U h _ => Zex.get ⟨[0], rfl⟩ h
  have t3 : (G2 ++ [0])[q2.length]? = some 0 := by rw [← W2.1, List.getElem?_append_right (Nat.le_refl _), Nat.sub_self]; rfl
  have c3 : ∀ e : va_E, (q2 ++ [e])[q2.length]? = some e := fun e => by rw [List.getElem?_append_right (Nat.le_refl _), Nat.sub_self]; rfl
  have z3 : ∀ e : va_E, zgi (q2 ++ [e]) 0 11 10 = some 0 := fun e => by
    have g5 := g3 e 0 14 t2 (by decide)
    rw [← z2]; unfold zgi zgv; rw [g5]
  obtain ⟨ka', ea', tka⟩ := gf_1_0 W2 tg
  rw [ea] at ea'; cases ea'
  obtain ⟨kb', eb2, tkb⟩ := gf_1_1 W2 tg
  rw [eb'] at eb2; cases eb2
  have p0 : ∀ e : va_E, zgr (q2 ++ [e]) 0 11 1 = some gp := fun e => by
    have g5 := g3 e 0 14 t2 (by decide)
    rw [← eg]; unfold zgr zgv; rw [g5]
  have p1 : ∀ e : va_E, zgr (q2 ++ [e]) gp 0 0 = some ka := fun e => by
    have g5 := g3 e gp 1 tg (by decide)
    rw [← ea]; unfold zgr zgv; rw [g5]
  have p2 : ∀ e : va_E, zgr (q2 ++ [e]) gp 0 1 = some kb := fun e => by
    have g5 := g3 e gp 1 tg (by decide)
    rw [← eb']; unfold zgr zgv; rw [g5]
  have p3 : ∀ e : va_E, zgi (q2 ++ [e]) gp 0 7 = some 0 := fun e => by
    have g5 := g3 e gp 1 tg (by decide)
    rw [← e7]; unfold zgi zgv; rw [g5]
  obtain ⟨kl', el', tkl⟩ := gf_1_4 W2 tg
  rw [el] at el'; cases el'
  have p4 : ∀ e : va_E, zgr (q2 ++ [e]) gp 0 4 = some kl := fun e => by
    have g5 := g3 e gp 1 tg (by decide)
    rw [← el]; unfold zgr zgv; rw [g5]
  have p5 : ∀ e : va_E, zgi (q2 ++ [e]) gp 0 8 = some 0 := fun e => by
    have g5 := g3 e gp 1 tg (by decide)
    rw [← e8']; unfold zgi zgv; rw [g5]
  refine wb rfl ?_
  exact pure_c hn hL (wt_new (T := 0) W2 (True.intro : True)) t3 (c3 _) (x3 _ _ t2 (by decide)) (PQw_mv w2 t2 (g3 _) x3) (z3 _) (p0 _) (x3 _ _ tg (by decide)) (p1 _) ((g3 _ _ _ tka (by decide)).trans ca) (p2 _) ((g3 _ _ _ tkb (by decide)).trans cb) (p3 _) (p4 _) ((g3 _ _ _ tkl (by decide)).trans cl) hfl (p5 _)
theorem pure_ok : ∀ (L : Nat) (xs : Nat → Int32), L ≤ 3072 → ∃ (nf : Nat) (res : Nat × Nat × Zc), f_Law_law nf L xs [] = some res ∧ (res.1 ≤ 600000 ∧ res.2.1 ≤ 7302249) := by
  intro L xs hL
  refine ⟨8589934592, ?_⟩
  have hn : 8589934592 ≤ 8589934592 := Nat.le_refl _
  generalize hnf : 8589934592 = nf at hn ⊢
  have hn : 8589934592 ≤ nf := by omega
  unfold f_Law_law
  refine wb (v := [(.inr (11, [.null, .null, .null, .null, .null, .null, .null, .null, .null, .null, .int 0]) : va_E)]) rfl ?_
  unfold f_Law_law_3
  have W0 : Zwt zty [0] [(.inr (11, [.null, .null, .null, .null, .null, .null, .null, .null, .null, .null, .int 0]) : va_E)] := ⟨rfl, fun k T hk => by
    cases k with
    | zero => cases hk; exact ⟨_, rfl, (True.intro : True)⟩
    | succ k => simp at hk⟩
  obtain ⟨q2, eq2, G2, W2, X2, t2, S2, l2, w2, z2, gp, ka, kb, eg, tg, ea, ca, eb, cb, e7, kl, fl, el, cl, hfl, e8⟩ := k_PQ_init_h hn W0 (a0 := 0) rfl rfl
  refine wb eq2 ?_
  exact pure_b hn hL W2 t2 w2 z2 eg tg ea ca eb cb e7 el cl hfl e8

end ZzT
