section ZzT
abbrev M_Mo_parse : List (Nat × Nat) := [(64, 18), (64, 19), (64, 20), (64, 52), (64, 53), (64, 56), (64, 57), (64, 65), (64, 69), (79, 0), (80, 0), (81, 0), (82, 0), (83, 0), (84, 0), (85, 0), (86, 0), (87, 0), (88, 0), (89, 0), (90, 0), (91, 0), (92, 0), (93, 0), (94, 0), (95, 0), (103, 0), (104, 0), (105, 0), (106, 0), (107, 0), (108, 0), (109, 0), (110, 0), (111, 0), (112, 0), (113, 0), (114, 0), (115, 0), (116, 0), (134, 0)]
theorem ZVg_p {G : List Nat} {c : Zc} {a0 : Nat} {pv fv tv dv ni bc : Int32} {kg : Nat} {gc : Int32} (h : ZVp G c a0 pv fv tv dv ni bc) (ekg : zgr c a0 12 28 = some kg) (tkg : G[kg]? = some 81) (eg : zai c kg 0 pv = some gc) (hg : 3 * gc.toInt ≤ tv.toInt) : ZVg G c a0 pv fv tv dv ni bc := by
  obtain ⟨xf2, xt2, xd2, xks, xkl, xkw, xna, xlb, xnw, xvn, xF0, xF1, xF2, xF3, xF4, xF5, xF6, xF7, xF8, xF9, xF10, xT0, xT1, xT2, xP0, xP1, xP2, xP3, xP4, xP5, xP6, xP7, xP8, xP9, xP10, xP11, xP12, xP13, xP14, xP15, xP16, xP17, xP18, xP19, xH0, xH1, xH2, xH3, xH4⟩ := h
  exact ⟨xf2, xt2, xd2, xks, xkl, xkw, xna, xlb, xnw, xvn, kg, gc, xF0, xF1, xF2, xF3, xF4, xF5, xF6, xF7, xF8, xF9, xF10, ekg, eg, xT0, xT1, xT2, tkg, xP0, xP1, xP2, xP3, xP4, xP5, xP6, xP7, xP8, xP9, xP10, xP11, xP12, xP13, xP14, xP15, xP16, xP17, xP18, by omega, xH0, xH1, xH2, xH3, xH4⟩
theorem ZVg_tr {G : List Nat} {c : Zc} {a0 : Nat} {pv fv tv dv ni bc : Int32} {f t d : Int32} (h : ZVg G c a0 pv f t d ni bc) (h1 : ¬ f.toInt = 0 ∨ fv.toInt = 0) (h2 : tv.toInt ≤ t.toInt) : ZVg G c a0 pv fv tv dv ni bc := by
  obtain ⟨xf2, xt2, xd2, xks, xkl, xkw, xna, xlb, xnw, xvn, xkg, xg2, xF0, xF1, xF2, xF3, xF4, xF5, xF6, xF7, xF8, xF9, xF10, xF11, xF12, xT0, xT1, xT2, xT3, xP0, xP1, xP2, xP3, xP4, xP5, xP6, xP7, xP8, xP9, xP10, xP11, xP12, xP13, xP14, xP15, xP16, xP17, xP18, xP19, xH0, xH1, xH2, xH3, xH4⟩ := h
  exact ⟨xf2, xt2, xd2, xks, xkl, xkw, xna, xlb, xnw, xvn, xkg, xg2, xF0, xF1, xF2, xF3, xF4, xF5, xF6, xF7, xF8, xF9, xF10, xF11, xF12, xT0, xT1, xT2, xT3, xP0, xP1, xP2, xP3, xP4, xP5, xP6, xP7, xP8, xP9, xP10, xP11, xP12, xP13, xP14, xP15, xP16, xP17, by omega, by omega, xH0, xH1, xH2, xH3, xH4⟩
theorem ZV_g {G : List Nat} {c : Zc} {a0 : Nat} {pv fv tv dv ni bc : Int32} (h : ZVg G c a0 pv fv tv dv ni bc) : ∃ f t d kg gc, zgi c a0 12 25 = some pv ∧ zgi c a0 12 19 = some f ∧ zgi c a0 12 18 = some t ∧ zgi c a0 12 53 = some d ∧ zgr c a0 12 28 = some kg ∧ zai c kg 0 pv = some gc ∧ G[kg]? = some 81 ∧ ((0 ≤ pv.toInt ∧ pv.toInt ≤ 8) ∧ (0 ≤ f.toInt ∧ f.toInt ≤ 6) ∧ (0 ≤ t.toInt ∧ t.toInt ≤ 200) ∧ (0 ≤ d.toInt ∧ d.toInt ≤ 11)) ∧ (¬ f.toInt = 0 ∨ (fv.toInt = 0 ∧ 3 * gc.toInt ≤ t.toInt)) ∧ tv.toInt ≤ t.toInt ∧ ZV G c a0 pv f t d ni bc := by
  obtain ⟨xf2, xt2, xd2, xks, xkl, xkw, xna, xlb, xnw, xvn, xkg, xg2, xF0, xF1, xF2, xF3, xF4, xF5, xF6, xF7, xF8, xF9, xF10, xF11, xF12, xT0, xT1, xT2, xT3, xP0, xP1, xP2, xP3, xP4, xP5, xP6, xP7, xP8, xP9, xP10, xP11, xP12, xP13, xP14, xP15, xP16, xP17, xP18, xP19, xH0, xH1, xH2, xH3, xH4⟩ := h
  exact ⟨xf2, xt2, xd2, xkg, xg2, xF0, xF1, xF2, xF3, xF11, xF12, xT3, by omega, by omega, by omega, ⟨xks, xkl, xkw, xna, xlb, xnw, xvn, xF0, xF1, xF2, xF3, xF4, xF5, xF6, xF7, xF8, xF9, xF10, xT0, xT1, xT2, by omega, by omega, by omega, by omega, by omega, by omega, by omega, by omega, by omega, by omega, by omega, by omega, by omega, by omega, by omega, by omega, by omega, by omega, xH0, xH1, xH2, xH3, xH4⟩⟩
theorem PI_pos {c : Zc} {m s0 : Nat} {μ : Int} {t : Int32} (h : PI c m s0 μ) (hf : vfi c m 19 = 0) (et : zgi c m 12 18 = some t) (ht : t.toInt ≤ 200) : 1 ≤ μ := by
  rcases h hf with ⟨_, q⟩ | ⟨k, _, ok, q⟩
  · obtain ⟨_, _, _, _, a⟩ := q hf
    unfold sm at a
    rw [vfi_e et] at a
    omega
  · obtain ⟨a1, _, _, _, a⟩ := q hf
    have := sm_ph (fun i hi => (a1 i hi).1)
    have h2 : 0 ≤ ph (vaf c m 66 k).toInt (vaf c m 67 k).toInt := by have := ok.1; unfold ph; split <;> omega
    rw [vfi_e et] at a
    omega
theorem wlpg {α β : Type} {body : α → Option (α ⊕ β)} (I : Nat → α → Prop) (E : β → Prop) (hs : ∀ n a, I n a → ∃ r, body a = some r ∧ (∀ y, r = .inl y → ∃ n', n' < n ∧ I n' y) ∧ (∀ b, r = .inr b → E b)) : ∀ {f n : Nat} {a : α}, I n a → n < f → ∃ b, zlp body f a = some b ∧ E b := by
  intro f
  induction f with
  | zero => intro n a _ h; exact absurd h (Nat.not_lt_zero _)
  | succ f ih =>
    intro n a ha hm
    obtain ⟨r, e, h1, h2⟩ := hs n a ha
    cases r with
    | inl y =>
      obtain ⟨n', hl, hy⟩ := h1 y rfl
      obtain ⟨b, eb, hb⟩ := ih hy (by omega)
      exact ⟨b, by unfold zlp; rw [e]; exact eb, hb⟩
    | inr b => exact ⟨b, by unfold zlp; rw [e]; rfl, h2 b rfl⟩
set_option maxRecDepth 100000 in
set_option maxHeartbeats 4000000 in
theorem p_parse_step {nf : Nat} (hn : 8589934592 ≤ nf) {G : List Nat} {c : Zc} (W : Zwt zty G c) {a0 s0 : Nat} {pv fv tv dv ni bc : Int32} {μ : Int} (t_a0 : G[a0]? = some 64) (Z : ZVg G c a0 pv fv tv dv ni bc) (hP : PI c a0 s0 μ) : ∃ r, g_Mo_parse_10 nf a0 c = some r ∧ (∀ y, r = .inl y → y.1 = a0 ∧ Zwt zty G y.2 ∧ Zfr G M_Mo_parse c y.2 ∧ ZVg G y.2 a0 pv fv tv dv ni bc ∧ PI y.2 a0 s0 (μ - 1) ∧ 1 ≤ μ) ∧ (∀ b, r = .inr b → b = (a0, c) ∧ (vfi c a0 19 = 0 → vfi c a0 69 = 0)) := by
  unfold g_Mo_parse_10
  have l0 := li_0
  have l1 := li_1
  have l2 := li_2
  have l16 := li_16
  have l17 := li_17
  have l3 := li_3
  have l4' := li_4
  obtain ⟨v4, e4, l4, u4⟩ := gf_64_69 W t_a0
  refine wb e4 ?_
  refine wi (fun hq => ?_) (fun hq => ?_)
  · have hq := i_le hq
    exact ⟨_, rfl, (fun y z => by cases z), (fun b z => by cases z; exact ⟨rfl, fun _ => by rw [vfi_e e4]; omega⟩)⟩
  have hq := i_nle hq
  obtain ⟨f, t, d, kg, gc, e25, e19, e18, e53, ekg, egc, tkg, hr, hg, htt, zz⟩ := ZV_g Z
  refine wb e19 ?_
  refine wi (fun hf => ?_) (fun hf => ?_)
  case refine_2 =>
    have hf := i_ne hf
    exact ⟨_, rfl, (fun y z => by cases z), (fun b z => by cases z; exact ⟨rfl, fun z => absurd (by rw [vfi_e e19] at z; omega) hf⟩)⟩
  have hf := i_eq hf
  have hμ := PI_pos hP (by rw [vfi_e e19]; omega) e18 (by omega)
  obtain ⟨xg, exg, lg, ug⟩ := ga_81 W tkg (i := pv) (by omega) (by omega)
  rw [egc] at exg; cases exg
  refine wb e4 ?_
  obtain ⟨v9, e9, t9⟩ := gf_64_66 W t_a0
  refine wb e9 ?_
  have m1 := i_sub (a := v4) (b := 1) (by omega) (by omega)
  obtain ⟨v10, e10, _⟩ := ga_114 W t9 (i := v4 - 1) (by omega) (by omega)
  refine wb e10 ?_
  obtain ⟨v11, e11, t11⟩ := gf_64_67 W t_a0
  obtain ⟨v12, e12, _⟩ := ga_115 W t11 (i := v4 - 1) (by omega) (by omega)
  obtain ⟨v13, e13, t13⟩ := gf_64_68 W t_a0
  obtain ⟨v14, e14, _⟩ := ga_116 W t13 (i := v4 - 1) (by omega) (by omega)
  have ok := (PI_open hP e19 (by omega) e4 (by omega) (by omega) e9 e10 e11 e12 e13 e14).1.1
  obtain ⟨wo, ewo⟩ := go_64 W t_a0
  have fin : ∀ {M : List (Nat × Nat)} {q : Zc}, Zfr G M c q → (81, 0) ∉ M → (64, 28) ∉ M → ZVp G q a0 pv f t d ni bc → ZVg G q a0 pv fv tv dv ni bc := fun F h1 h2 z => ZVg_tr (ZVg_p z ((Zfr.gr F t_a0 h2).trans ekg) tkg ((Zfr.ai F tkg h1).trans egc) (by omega)) (by omega) (by omega)
  refine wi (fun h0 => ?_) (fun h0 => ?_)
  · have h0 := i_eq h0
    refine wb ewo ?_
    obtain ⟨q, eq, Wq, fq, pz, pi⟩ := p_Mo_joined hn W (a1 := v4 - 1) (a2 := 1) (a3 := 105) (a4 := 17) (ni := ni) (bc := bc) (s0 := s0) (μ := μ) t_a0 (by omega) (by omega) (by omega) (by omega) (by omega) (by omega) (by omega) (by omega) (by omega) (by omega) (by omega) (by omega) (by omega) (by omega) (by omega) (by omega) (by omega) (by omega) e25 e19 e18 e53 e4 e9 e10 (by omega) (by omega) zz hP
    refine wb eq ?_
    unfold f_Mo_parse_119
    exact ⟨_, rfl, (fun y z => by cases z; exact ⟨rfl, Wq, Zfr.mo fq (by decide), fin fq (by decide) (by decide) pz, pi, hμ⟩), (fun b z => by cases z)⟩
  have h0 := i_ne h0
  refine wi (fun h1 => ?_) (fun h1 => ?_)
  · have h1 := i_eq h1
    refine wb ewo ?_
    obtain ⟨q, eq, Wq, fq, pz, pi⟩ := p_Mo_joined hn W (a1 := v4 - 1) (a2 := 2) (a3 := 104) (a4 := 16) (ni := ni) (bc := bc) (s0 := s0) (μ := μ) t_a0 (by omega) (by omega) (by omega) (by omega) (by omega) (by omega) (by omega) (by omega) (by omega) (by omega) (by omega) (by omega) (by omega) (by omega) (by omega) (by omega) (by omega) (by omega) e25 e19 e18 e53 e4 e9 e10 (by omega) (by omega) zz hP
    refine wb eq ?_
    unfold f_Mo_parse_119
    exact ⟨_, rfl, (fun y z => by cases z; exact ⟨rfl, Wq, Zfr.mo fq (by decide), fin fq (by decide) (by decide) pz, pi, hμ⟩), (fun b z => by cases z)⟩
  have h1 := i_ne h1
  refine wi (fun h2 => ?_) (fun h2 => ?_)
  · have h2 := i_eq h2
    refine wb ewo ?_
    obtain ⟨q, eq, Wq, fq, pz, pi⟩ := p_Mo_fact hn W (a1 := v4 - 1)  (ni := ni) (bc := bc) (s0 := s0) (μ := μ) t_a0 (by omega) (by omega) (by omega) (by omega) (by omega) (by omega) (by omega) (by omega) (by omega) (by omega) (by omega) (by omega) (by omega) (by omega) (by omega) (by omega) e25 e19 e18 e53 e4 e9 e10 ekg egc (by omega) (by omega) zz hP
    refine wb eq ?_
    unfold f_Mo_parse_119
    exact ⟨_, rfl, (fun y z => by cases z; exact ⟨rfl, Wq, Zfr.mo fq (by decide), ZVg_tr pz (by omega) (by omega), pi, hμ⟩), (fun b z => by cases z)⟩
  have h2 := i_ne h2
  refine wi (fun h3 => ?_) (fun h3 => ?_)
  · have h3 := i_eq h3
    refine wb ewo ?_
    obtain ⟨q, eq, Wq, fq, pz, pi⟩ := p_Mo_reckoned hn W (a1 := v4 - 1)  (ni := ni) (bc := bc) (s0 := s0) (μ := μ) t_a0 (by omega) (by omega) (by omega) (by omega) (by omega) (by omega) (by omega) (by omega) (by omega) (by omega) (by omega) (by omega) (by omega) (by omega) e25 e19 e18 e53 e4 e9 e10 (by omega) zz hP
    refine wb eq ?_
    unfold f_Mo_parse_119
    exact ⟨_, rfl, (fun y z => by cases z; exact ⟨rfl, Wq, Zfr.mo fq (by decide), fin fq (by decide) (by decide) pz, pi, hμ⟩), (fun b z => by cases z)⟩
  have h3 := i_ne h3
  refine wi (fun h4 => ?_) (fun h4 => ?_)
  · have h4 := i_eq h4
    refine wb ewo ?_
    obtain ⟨q, eq, Wq, fq, pz, pi⟩ := p_Mo_reckoned hn W (a1 := v4 - 1)  (ni := ni) (bc := bc) (s0 := s0) (μ := μ) t_a0 (by omega) (by omega) (by omega) (by omega) (by omega) (by omega) (by omega) (by omega) (by omega) (by omega) (by omega) (by omega) (by omega) (by omega) e25 e19 e18 e53 e4 e9 e10 (by omega) zz hP
    refine wb eq ?_
    unfold f_Mo_parse_119
    exact ⟨_, rfl, (fun y z => by cases z; exact ⟨rfl, Wq, Zfr.mo fq (by decide), fin fq (by decide) (by decide) pz, pi, hμ⟩), (fun b z => by cases z)⟩
  have h4 := i_ne h4
  refine wb ewo ?_
  obtain ⟨q, eq, Wq, fq, pz, pi⟩ := p_Mo_unit hn W (a1 := v4 - 1)  (ni := ni) (bc := bc) (s0 := s0) (μ := μ) t_a0 (by omega) (by omega) (by omega) (by omega) (by omega) (by omega) (by omega) (by omega) (by omega) (by omega) (by omega) (by omega) (by omega) (by omega) e25 e19 e18 e53 e4 e9 e10 (by omega) zz hP
  refine wb eq ?_
  unfold f_Mo_parse_119
  exact ⟨_, rfl, (fun y z => by cases z; exact ⟨rfl, Wq, Zfr.mo fq (by decide), fin fq (by decide) (by decide) pz, pi, hμ⟩), (fun b z => by cases z)⟩
theorem TbC_c {c : Zc} {m : Nat} {b b' : Int32} (h : TbC c m b) (hb : ¬ b.toInt = 0 ∨ b'.toInt = 0) : TbC c m b' := fun z hf => h (hb.resolve_right z) hf
def CeP (c : Zc) (m : Nat) (x : Int32) : Prop := vfi c m 19 = 0 → CdE (vaf c m 50) (vaf c m 51) (vfi c m 25).toNat x.toInt.toNat (vfi c m 52).toNat
theorem p_parse_lp {nf : Nat} (hn : 8589934592 ≤ nf) {G : List Nat} {c : Zc} (W : Zwt zty G c) {a0 s0 : Nat} {pv fv tv dv ni bc : Int32} (t_a0 : G[a0]? = some 64) (Z : ZVg G c a0 pv fv tv dv ni bc) (hP : PI c a0 s0 4000) : ∃ b, zlp (fun a => g_Mo_parse_10 nf a.1 a.2) nf (a0, c) = some b ∧ b.1 = a0 ∧ Zwt zty G b.2 ∧ Zfr G M_Mo_parse c b.2 ∧ ZVg G b.2 a0 pv fv tv dv ni bc ∧ (∃ μ, PI b.2 a0 s0 μ) ∧ (vfi b.2 a0 19 = 0 → vfi b.2 a0 69 = 0) := by
  refine wlpg (fun (n : Nat) (a : Nat × Zc) => a.1 = a0 ∧ Zwt zty G a.2 ∧ Zfr G M_Mo_parse c a.2 ∧ ZVg G a.2 a0 pv fv tv dv ni bc ∧ PI a.2 a0 s0 (n : Int)) (fun (b : Nat × Zc) => b.1 = a0 ∧ Zwt zty G b.2 ∧ Zfr G M_Mo_parse c b.2 ∧ ZVg G b.2 a0 pv fv tv dv ni bc ∧ (∃ μ, PI b.2 a0 s0 μ) ∧ (vfi b.2 a0 19 = 0 → vfi b.2 a0 69 = 0)) ?_ (n := 4000) ⟨rfl, W, Zfr.rf, Z, hP⟩ (by omega)
  rintro n ⟨x, c1⟩ ⟨rfl, W1, F1, Z1, P1⟩
  dsimp only at W1 F1 Z1 P1 t_a0 Z hP ⊢
  obtain ⟨r, er, h1, h2⟩ := p_parse_step hn W1 t_a0 Z1 P1
  refine ⟨r, er, fun y hy => ?_, fun b hb => ?_⟩
  · obtain ⟨q1, q2, q3, q4, q5, q6⟩ := h1 y hy
    refine ⟨n - 1, by omega, q1, q2, Zfr.tr F1 q3 (by decide), q4, ?_⟩
    rw [show ((n - 1 : Nat) : Int) = (n : Int) - 1 by omega]
    exact q5
  · obtain ⟨q1, q2⟩ := h2 b hb
    subst q1
    exact ⟨rfl, W1, F1, Z1, ⟨_, P1⟩, q2⟩
theorem PI_init {G : List Nat} {c1 q : Zc} {m : Nat} {s cd tv : Int32} (t : G[m]? = some 64) (W1 : Zwt zty G c1) (F : Zfr G M_Mo_frame c1 q) (w : FrW c1 q m s) (e0 : vfi c1 m 69 = 0) (hs : 0 ≤ s.toInt ∧ s.toInt ≤ 5) (ec : zgi c1 m 12 52 = some cd) (et : zgi c1 m 12 18 = some tv) (hc : cd.toInt + 1 ≤ tv.toInt) (hc0 : 0 ≤ cd.toInt) (ht : tv.toInt ≤ 200) (ed : 0 ≤ vfi c1 m 53) : PI q m cd.toInt.toNat 4000 := by
  intro hf
  obtain ⟨q1, q2, q3, q4⟩ := w
  rw [e0] at q1 q2 q3 q4
  have l0 : (0 : Int32).toInt = 0 := by decide
  have a0 : (0 : Int).toNat = 0 := rfl
  rw [a0] at q1 q2 q3
  have z1 : vaf q m 66 0 = s := by rw [q1, upd_s]
  have z2 : vaf q m 67 0 = 0 := by rw [q2, upd_s]
  refine .inr ⟨0, by rw [q4]; omega, ?_, fun _ => ?_⟩
  · rw [z1, z2]
    refine ⟨⟨hs.1, hs.2, ?_⟩, ⟨by omega, by omega, .inr (by omega)⟩, fun z => by omega⟩
    rw [vfi_fr F t (by decide), vfi_e et]; omega
  · rw [z1, z2, l0]
    have y1 : dl s.toInt 0 = 0 := by unfold dl; rw [if_pos rfl]
    have y2 : fw2 s.toInt 0 = 0 := by unfold fw2; rw [if_neg (by omega)]
    have y3 : fw3 s.toInt 0 = 0 := by unfold fw3; rw [if_neg (by omega)]
    have y4 : ph s.toInt 0 = 11 - 2 * s.toInt := by unfold ph; rw [if_pos rfl]
    rw [y1, y2, y3, y4, vfi_fr (j := 52) F t (by decide), vfi_fr (j := 18) F t (by decide), vfi_fr (j := 53) F t (by decide), vfi_e ec, vfi_e et]
    unfold sm
    exact ⟨fun i hi => by omega, ⟨0, 0, by omega, rfl, by omega⟩, by omega, by omega, by omega⟩
end ZzT
