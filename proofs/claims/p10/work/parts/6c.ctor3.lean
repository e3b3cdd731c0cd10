section ZzT
/-- an array of references is full: its place gets its type -/
theorem wt_sealA {G : List Nat} {c : Zc} {k T : Nat} {e : va_E} (W : Zwt zty G c) (h0 : G[k]? = some 0) (hc : c[k]? = some e) (he : Zco (G.set k T) (zty T) e) : Zwt zty (G.set k T) c ∧ (G.set k T)[k]? = some T ∧ Zx G (G.set k T) k := by
  have hlt := (List.getElem?_eq_some_iff.mp h0).1
  have hx : Zx G (G.set k T) k := fun j U hk hne => by rw [List.getElem?_set_ne (Ne.symm hne)]; exact hk
  refine ⟨⟨by rw [List.length_set]; exact W.1, fun q U hq => ?_⟩, List.getElem?_set_self hlt, hx⟩
  by_cases h : k = q
  · subst h
    rw [List.getElem?_set_self hlt] at hq
    cases hq
    exact ⟨_, hc, he⟩
  · rw [List.getElem?_set_ne h] at hq
    obtain ⟨e, h1, h2⟩ := W.2 q U hq
    exact ⟨e, h1, zco_re h0 (fun U => zc0 U T) U e h2⟩
/-- an element of an array of references that is being filled -/
theorem raw_r {G : List Nat} {c : Zc} {k t n x ci : Nat} {f : Nat → Option Nat} {vs : List Value} {i : Int32} (W : Zwt zty G c) (h0 : G[k]? = some 0) (hc : c[k]? = some (.inl (t, n, .inr (.inr (.inr (.inr f)))))) (hx : c[x]? = some (.inr (ci, vs))) (i0 : 0 ≤ i.toInt) (i1 : i.toInt < n) : ∃ c', zsr c k t ci i x = some c' ∧ Zwt zty G c' ∧ c'[k]? = some (.inl (t, n, .inr (.inr (.inr (.inr (va_up f i.toNatClampNeg (some x))))))) ∧ Zsm c c' k ∧ c'.length = c.length := by
  have hl : k < c.length := (List.getElem?_eq_some_iff.mp hc).1
  refine ⟨c.set k (.inl (t, n, .inr (.inr (.inr (.inr (va_up f i.toNatClampNeg (some x))))))), ?_, wt_set W h0 (True.intro : True), List.getElem?_set_self hl, ⟨by rw [List.length_set]; exact Nat.le_refl _, fun k2 _ hk => List.getElem?_set_ne (Ne.symm hk)⟩, List.length_set⟩
  unfold zsr
  rw [hc, hx]
  exact if_pos ⟨rfl, rfl, i_ix i0 i1⟩
set_option maxRecDepth 100000 in
set_option maxHeartbeats 1000000 in
theorem k_ways {nf : Nat} (hn : 8589934592 ≤ nf) {G : List Nat} {c : Zc} {a0 ar : Nat} {vs : List Value} {f : Nat → Option Nat} (W : Zwt zty G c) (h0 : G[a0]? = some 0) (hc : c[a0]? = some (.inr (2, vs))) (hv : vs[4]? = some (.ref ar)) (ta : G[ar]? = some 0) (ha : c[ar]? = some (.inl (3, 10, .inr (.inr (.inr (.inr f)))))) (hne : a0 ≠ ar) : ∃ q, zlp (fun a : Nat × Int32 × Nat × Nat × Zc => g_Text_init_142 nf 89 4198 a.1 a.2.1 a.2.2.1 a.2.2.2.1 a.2.2.2.2) nf (a0, 0, 9, 578, c) = some (89, 4198, q) ∧ ∃ G' f', Zwt zty G' q ∧ (∀ k T : Nat, G[k]? = some T → G'[k]? = some T) ∧ q[ar]? = some (.inl (3, 10, .inr (.inr (.inr (.inr f'))))) ∧ (∀ i, i < 10 → ∃ p, f' i = some p ∧ G'[p]? = some 2) ∧ Zsm c q ar ∧ q.length = c.length + 80 := by
  have l0 : (0 : Int32).toInt = 0 := by decide
  have l1 : (1 : Int32).toInt = 1 := by decide
  have l10 : (10 : Int32).toInt = 10 := by decide
  have hla := (List.getElem?_eq_some_iff.mp ha).1
  have hl0 := (List.getElem?_eq_some_iff.mp hc).1
  have L : ∃ b, zlp (fun a : Nat × Int32 × Nat × Nat × Zc => g_Text_init_142 nf 89 4198 a.1 a.2.1 a.2.2.1 a.2.2.2.1 a.2.2.2.2) nf (a0, 0, 9, 578, c) = some b ∧ (fun b : Nat × Nat × Zc => b.1 = 89 ∧ b.2.1 = 4198 ∧ ∃ G' f', Zwt zty G' b.2.2 ∧ (∀ k T : Nat, G[k]? = some T → G'[k]? = some T) ∧ b.2.2[ar]? = some (.inl (3, 10, .inr (.inr (.inr (.inr f'))))) ∧ (∀ i, i < 10 → ∃ p, f' i = some p ∧ G'[p]? = some 2) ∧ Zsm c b.2.2 ar ∧ b.2.2.length = c.length + 80) b := by
    refine wlp (fun a : Nat × Int32 × Nat × Nat × Zc => a0 = a.1 ∧ (0 ≤ a.2.1.toInt ∧ a.2.1.toInt ≤ 10) ∧ ((a.2.2.1 : Int) = 9 + 8 * a.2.1.toInt ∧ (a.2.2.2.1 : Int) = 578 + 362 * a.2.1.toInt) ∧ ∃ G' f', Zwt zty G' a.2.2.2.2 ∧ (∀ k T : Nat, G[k]? = some T → G'[k]? = some T) ∧ a.2.2.2.2[ar]? = some (.inl (3, 10, .inr (.inr (.inr (.inr f'))))) ∧ (∀ i : Nat, (i : Int) < a.2.1.toInt → ∃ p, f' i = some p ∧ G'[p]? = some 2) ∧ Zsm c a.2.2.2.2 ar ∧ (a.2.2.2.2.length : Int) = c.length + 8 * a.2.1.toInt) (fun a => (10 - a.2.1.toInt).toNat) _ ?_ ?_ ?_
    · rintro ⟨y0, x1, kk, nn, c9⟩ hI
      dsimp only at hI ⊢
      obtain ⟨rfl, ⟨j1, j2⟩, ⟨j3, j4⟩, G9, f9, W9, X9, A9, P9, S9, l9⟩ := hI
      unfold g_Text_init_142
      refine wi (fun q => ?_) (fun q => ?_)
      · have q := i_le q
        exact lInr ⟨by dsimp only; omega, by dsimp only; omega, G9, f9, W9, X9, A9, fun i hi => P9 i (by omega), S9, by dsimp only; omega⟩
      · have q := i_nle q
        have hs := i_add (a := x1) (b := 1) (by omega) (by omega)
        have hc9 := (S9.2 a0 hl0 hne).trans hc
        refine wb (raw_g hc9 hv) ?_
        refine wb (v := ()) (if_pos ⟨by omega, by omega⟩) ?_
        obtain ⟨W1, hc1, h01, t1, k1, x1', s1, m1⟩ := raw_n (T := 0) (e := .inr (1, [.int 0, .int 0, .int 0, .int 0, .int 0, .int 0, .null, .null, .long 0, .int 0, .long 0, .null, .null, .null, .null, .null, .int 0, .int 0])) W9 hc9 (X9 _ _ h0) (True.intro : True)
        refine wb (v := c9 ++ [(.inr (1, [.int 0, .int 0, .int 0, .int 0, .int 0, .int 0, .null, .null, .long 0, .int 0, .long 0, .null, .null, .null, .null, .null, .int 0, .int 0]) : va_E)]) rfl ?_
        have A1 : (c9 ++ [(.inr (1, [.int 0, .int 0, .int 0, .int 0, .int 0, .int 0, .null, .null, .long 0, .int 0, .long 0, .null, .null, .null, .null, .null, .int 0, .int 0]) : va_E)])[ar]? = some (.inl (3, 10, .inr (.inr (.inr (.inr f9))))) := by
          rw [List.getElem?_append_left (Nat.lt_of_lt_of_le hla S9.1)]; exact A9
        have S1 : Zsm c9 (c9 ++ [(.inr (1, [.int 0, .int 0, .int 0, .int 0, .int 0, .int 0, .null, .null, .long 0, .int 0, .long 0, .null, .null, .null, .null, .null, .int 0, .int 0]) : va_E)]) ar := ⟨by simp, fun k hk _ => List.getElem?_append_left hk⟩
        have X1 : ∀ k T : Nat, G9[k]? = some T → (G9 ++ [0])[k]? = some T := fun k T h => Zex.get ⟨[0], rfl⟩ h
        generalize c9 ++ [(.inr (1, [.int 0, .int 0, .int 0, .int 0, .int 0, .int 0, .null, .null, .long 0, .int 0, .long 0, .null, .null, .null, .null, .null, .int 0, .int 0]) : va_E)] = d1 at W1 hc1 k1 s1 m1 A1 S1 ⊢
        refine wb (v := ()) (if_pos ⟨by omega, by omega⟩) ?_
        obtain ⟨d2, e2, G2, W2, x2, t2, s2, m2⟩ := k_Way_init hn W1 t1 k1
        refine wb e2 ?_
        have har : ar ≠ c9.length := Nat.ne_of_lt (Nat.lt_of_lt_of_le hla S9.1)
        have A2 := (s2.2 ar (List.getElem?_eq_some_iff.mp A1).1 har).trans A1
        have ta2 := x2 ar 0 (X1 _ _ (X9 _ _ ta)) har
        obtain ⟨vs2, hx2⟩ : ∃ vs2, d2[c9.length]? = some (.inr (1, vs2)) := by
          obtain ⟨e, g1, g2⟩ := W2.2 _ _ t2
          obtain ⟨vs2, rfl, _⟩ := g2
          exact ⟨vs2, g1⟩
        obtain ⟨d3, e3, W3, A3, s3, m3⟩ := raw_r (i := x1) W2 ta2 A2 hx2 j1 (by omega)
        refine wb e3 ?_
        have X3 : ∀ k T : Nat, G[k]? = some T → G2[k]? = some T := fun k T h => x2 k T (X1 _ _ (X9 _ _ h)) (by
          have := wt_lt W h
          have := S9.1
          omega)
        refine lInl ⟨rfl, ⟨by dsimp only; omega, by dsimp only; omega⟩, ⟨by dsimp only; omega, by dsimp only; omega⟩, G2, _, W3, X3, A3, fun i hi => ?_, ?_, by dsimp only; omega⟩ (by dsimp only; omega)
        · dsimp only at hi
          by_cases hq : i = x1.toNatClampNeg
          · subst hq
            exact ⟨c9.length, by simp [va_up], t2⟩
          · have hlt : (i : Int) < x1.toInt := by
              rw [i_tn] at hq
              omega
            obtain ⟨p, g1, g2⟩ := P9 i hlt
            refine ⟨p, by simp [va_up, hq, g1], x2 p 2 (X1 _ _ g2) ?_⟩
            have := (List.getElem?_eq_some_iff.mp g2).1
            have := W9.1
            omega
        · refine ⟨Nat.le_trans S9.1 (Nat.le_trans S1.1 (Nat.le_trans s2.1 s3.1)), fun k hk hka => ?_⟩
          have h9 := S9.1
          rw [s3.2 k (by omega) hka, s2.2 k (by omega) (by omega), S1.2 k (by omega) hka]
          exact S9.2 k hk hka
    · exact ⟨rfl, ⟨by dsimp only; omega, by dsimp only; omega⟩, ⟨by dsimp only; omega, by dsimp only; omega⟩, G, f, W, fun _ _ h => h, ha, fun i hi => by dsimp only at hi; omega, Zsm.rf, by dsimp only; omega⟩
    · dsimp only; omega
  obtain ⟨⟨kk, nn, q⟩, eb, hb⟩ := L
  dsimp only at hb
  obtain ⟨rfl, rfl, hb⟩ := hb
  exact ⟨q, eb, hb⟩
set_option maxRecDepth 100000 in
set_option maxHeartbeats 1000000 in
theorem k_Text_init {nf : Nat} (hn : 8589934592 ≤ nf) {G : List Nat} {c : Zc} (W : Zwt zty G c) {a0  : Nat} (h0 : G[a0]? = some 0) (hc : c[a0]? = some (.inr (2, [.int 0, .int 0, .int 0, .int 0, .null, .int 0, .null, .null, .int 0, .null, .null, .null, .int 0, .null, .int 0, .int 0, .null, .null, .int 0, .int 0, .int 0])))  : ∃ q, f_Text_init nf 89 4198 a0  c = some q ∧ ∃ G', Zwt zty G' q ∧ Zx G G' a0 ∧ G'[a0]? = some 3 ∧ Zsm c q a0 ∧ q.length = c.length + 89 := by
  unfold f_Text_init
  have hl0 : c.length = c.length + 0 := rfl
  obtain ⟨c1, ec1, Wc1, hcc1, sc1, lc1⟩ := raw_p (v := .int 0) W h0 hc (j := 0) (by simp)
  refine wb ec1 ?_
  simp only [List.set] at hcc1
  have x_sc1 := Zsm.tr Zsm.rf sc1
  have hl1 : c1.length = c.length + 0 := lc1.trans hl0
  obtain ⟨c2, ec2, Wc2, hcc2, sc2, lc2⟩ := raw_p (v := .int 0) Wc1 h0 hcc1 (j := 1) (by simp)
  refine wb ec2 ?_
  simp only [List.set] at hcc2
  have x_sc2 := Zsm.tr x_sc1 sc2
  have hl2 : c2.length = c.length + 0 := lc2.trans hl1
  obtain ⟨c3, ec3, Wc3, hcc3, sc3, lc3⟩ := raw_p (v := .int 0) Wc2 h0 hcc2 (j := 2) (by simp)
  refine wb ec3 ?_
  simp only [List.set] at hcc3
  have x_sc3 := Zsm.tr x_sc2 sc3
  have hl3 : c3.length = c.length + 0 := lc3.trans hl2
  obtain ⟨c4, ec4, Wc4, hcc4, sc4, lc4⟩ := raw_p (v := .int 0) Wc3 h0 hcc3 (j := 3) (by simp)
  refine wb ec4 ?_
  simp only [List.set] at hcc4
  have x_sc4 := Zsm.tr x_sc3 sc4
  have hl4 : c4.length = c.length + 0 := lc4.trans hl3
  refine wb (v := ()) (by decide) ?_
  obtain ⟨Wc5, hcc5, h0c5, tc5, kc5, xc5, sc5, lc5⟩ := raw_n (T := 0) (e := .inl (3, 10, .inr (.inr (.inr (.inr (fun _ => none)))))) Wc4 hcc4 h0 (True.intro : True)
  refine wb (v := c4 ++ [(.inl (3, 10, .inr (.inr (.inr (.inr (fun _ => none))))) : va_E)]) rfl ?_
  have yc5 := Zx.tr Zx.rf xc5
  have x_sc5 := Zsm.tr x_sc4 sc5
  have hl6 : (c4 ++ [(.inl (3, 10, .inr (.inr (.inr (.inr (fun _ => none))))) : va_E)]).length = c.length + 1 := by rw [lc5, hl4]
  generalize c4 ++ [(.inl (3, 10, .inr (.inr (.inr (.inr (fun _ => none))))) : va_E)] = c5 at Wc5 hcc5 kc5 sc5 x_sc5 hl6 ⊢
  generalize G ++ [0] = G5 at Wc5 h0c5 tc5 xc5 yc5 
  have nac5 : a0 ≠ c4.length := Nat.ne_of_lt (List.getElem?_eq_some_iff.mp hcc4).1
  obtain ⟨c7, ec7, Wc7, hcc7, sc7, lc7⟩ := raw_p (v := .ref c4.length) Wc5 h0c5 hcc5 (j := 4) (by simp)
  refine wb ec7 ?_
  simp only [List.set] at hcc7
  have x_sc7 := Zsm.tr x_sc5 sc7
  have ka7 := (sc7.2 (c4.length) (List.getElem?_eq_some_iff.mp kc5).1 (Ne.symm nac5)).trans kc5
  have hl8 : c7.length = c.length + 1 := lc7.trans hl6
  obtain ⟨c8, ec8, Wc8, hcc8, sc8, lc8⟩ := raw_p (v := .int 0) Wc7 h0c5 hcc7 (j := 5) (by simp)
  refine wb ec8 ?_
  simp only [List.set] at hcc8
  have x_sc8 := Zsm.tr x_sc7 sc8
  have ka9 := (sc8.2 (c4.length) (List.getElem?_eq_some_iff.mp ka7).1 (Ne.symm nac5)).trans ka7
  have hl10 : c8.length = c.length + 1 := lc8.trans hl8
  refine wb (v := ()) (by decide) ?_
  obtain ⟨Wc9, hcc9, h0c9, tc9, kc9, xc9, sc9, lc9⟩ := raw_n (T := 30) (e := .inl (0, 70, .inl (fun _ => 0))) Wc8 hcc8 h0c5 ⟨_, rfl, fun _ _ => rgi (by decide) (by decide)⟩
  refine wb (v := c8 ++ [(.inl (0, 70, .inl (fun _ => 0)) : va_E)]) rfl ?_
  have ka12 := (sc9.2 (c4.length) (List.getElem?_eq_some_iff.mp ka9).1 (Ne.symm nac5)).trans ka9
  have ta13 := xc9 (c4.length) 0 tc5 (Ne.symm nac5)
  have yc9 := Zx.tr yc5 xc9
  have x_sc9 := Zsm.tr x_sc8 sc9
  have hl14 : (c8 ++ [(.inl (0, 70, .inl (fun _ => 0)) : va_E)]).length = c.length + 2 := by rw [lc9, hl10]
  generalize c8 ++ [(.inl (0, 70, .inl (fun _ => 0)) : va_E)] = c9 at Wc9 hcc9 kc9 sc9 x_sc9 hl14 ka12 ⊢
  generalize G5 ++ [30] = G11 at Wc9 h0c9 tc9 xc9 yc9  ta13
  obtain ⟨c11, ec11, Wc11, hcc11, sc11, lc11⟩ := raw_p (v := .ref c8.length) Wc9 h0c9 hcc9 (j := 6) (by simp)
  refine wb ec11 ?_
  simp only [List.set] at hcc11
  have x_sc11 := Zsm.tr x_sc9 sc11
  have ka15 := (sc11.2 (c4.length) (List.getElem?_eq_some_iff.mp ka12).1 (Ne.symm nac5)).trans ka12
  have hl16 : c11.length = c.length + 2 := lc11.trans hl14
  refine wb (v := ()) (by decide) ?_
  obtain ⟨Wc12, hcc12, h0c12, tc12, kc12, xc12, sc12, lc12⟩ := raw_n (T := 31) (e := .inl (0, 70, .inl (fun _ => 0))) Wc11 hcc11 h0c9 ⟨_, rfl, fun _ _ => trivial⟩
  refine wb (v := c11 ++ [(.inl (0, 70, .inl (fun _ => 0)) : va_E)]) rfl ?_
  have ka18 := (sc12.2 (c4.length) (List.getElem?_eq_some_iff.mp ka15).1 (Ne.symm nac5)).trans ka15
  have ta19 := xc12 (c4.length) 0 ta13 (Ne.symm nac5)
  have t20 := Zx.get xc12 h0c9 tc9 (by decide)
  have yc12 := Zx.tr yc9 xc12
  have x_sc12 := Zsm.tr x_sc11 sc12
  have hl21 : (c11 ++ [(.inl (0, 70, .inl (fun _ => 0)) : va_E)]).length = c.length + 3 := by rw [lc12, hl16]
  generalize c11 ++ [(.inl (0, 70, .inl (fun _ => 0)) : va_E)] = c12 at Wc12 hcc12 kc12 sc12 x_sc12 hl21 ka18 ⊢
  generalize G11 ++ [31] = G17 at Wc12 h0c12 tc12 xc12 yc12 t20 ta19
  obtain ⟨c14, ec14, Wc14, hcc14, sc14, lc14⟩ := raw_p (v := .ref c11.length) Wc12 h0c12 hcc12 (j := 7) (by simp)
  refine wb ec14 ?_
  simp only [List.set] at hcc14
  have x_sc14 := Zsm.tr x_sc12 sc14
  have ka22 := (sc14.2 (c4.length) (List.getElem?_eq_some_iff.mp ka18).1 (Ne.symm nac5)).trans ka18
  have hl23 : c14.length = c.length + 3 := lc14.trans hl21
  obtain ⟨c15, ec15, Wc15, hcc15, sc15, lc15⟩ := raw_p (v := .int 0) Wc14 h0c12 hcc14 (j := 8) (by simp)
  refine wb ec15 ?_
  simp only [List.set] at hcc15
  have x_sc15 := Zsm.tr x_sc14 sc15
  have ka24 := (sc15.2 (c4.length) (List.getElem?_eq_some_iff.mp ka22).1 (Ne.symm nac5)).trans ka22
  have hl25 : c15.length = c.length + 3 := lc15.trans hl23
  refine wb (v := ()) (by decide) ?_
  obtain ⟨Wc16, hcc16, h0c16, tc16, kc16, xc16, sc16, lc16⟩ := raw_n (T := 32) (e := .inl (0, 70, .inl (fun _ => 0))) Wc15 hcc15 h0c12 ⟨_, rfl, fun _ _ => trivial⟩
  refine wb (v := c15 ++ [(.inl (0, 70, .inl (fun _ => 0)) : va_E)]) rfl ?_
  have ka27 := (sc16.2 (c4.length) (List.getElem?_eq_some_iff.mp ka24).1 (Ne.symm nac5)).trans ka24
  have ta28 := xc16 (c4.length) 0 ta19 (Ne.symm nac5)
  have t29 := Zx.get xc16 h0c12 t20 (by decide)
  have t30 := Zx.get xc16 h0c12 tc12 (by decide)
  have yc16 := Zx.tr yc12 xc16
  have x_sc16 := Zsm.tr x_sc15 sc16
  have hl31 : (c15 ++ [(.inl (0, 70, .inl (fun _ => 0)) : va_E)]).length = c.length + 4 := by rw [lc16, hl25]
  generalize c15 ++ [(.inl (0, 70, .inl (fun _ => 0)) : va_E)] = c16 at Wc16 hcc16 kc16 sc16 x_sc16 hl31 ka27 ⊢
  generalize G17 ++ [32] = G26 at Wc16 h0c16 tc16 xc16 yc16 t29 t30 ta28
  obtain ⟨c18, ec18, Wc18, hcc18, sc18, lc18⟩ := raw_p (v := .ref c15.length) Wc16 h0c16 hcc16 (j := 9) (by simp)
  refine wb ec18 ?_
  simp only [List.set] at hcc18
  have x_sc18 := Zsm.tr x_sc16 sc18
  have ka32 := (sc18.2 (c4.length) (List.getElem?_eq_some_iff.mp ka27).1 (Ne.symm nac5)).trans ka27
  have hl33 : c18.length = c.length + 4 := lc18.trans hl31
  refine wb (v := ()) (by decide) ?_
  obtain ⟨Wc19, hcc19, h0c19, tc19, kc19, xc19, sc19, lc19⟩ := raw_n (T := 33) (e := .inl (0, 70, .inl (fun _ => 0))) Wc18 hcc18 h0c16 ⟨_, rfl, fun _ _ => rgi (by decide) (by decide)⟩
  refine wb (v := c18 ++ [(.inl (0, 70, .inl (fun _ => 0)) : va_E)]) rfl ?_
  have ka35 := (sc19.2 (c4.length) (List.getElem?_eq_some_iff.mp ka32).1 (Ne.symm nac5)).trans ka32
  have ta36 := xc19 (c4.length) 0 ta28 (Ne.symm nac5)
  have t37 := Zx.get xc19 h0c16 t29 (by decide)
  have t38 := Zx.get xc19 h0c16 t30 (by decide)
  have t39 := Zx.get xc19 h0c16 tc16 (by decide)
  have yc19 := Zx.tr yc16 xc19
  have x_sc19 := Zsm.tr x_sc18 sc19
  have hl40 : (c18 ++ [(.inl (0, 70, .inl (fun _ => 0)) : va_E)]).length = c.length + 5 := by rw [lc19, hl33]
  generalize c18 ++ [(.inl (0, 70, .inl (fun _ => 0)) : va_E)] = c19 at Wc19 hcc19 kc19 sc19 x_sc19 hl40 ka35 ⊢
  generalize G26 ++ [33] = G34 at Wc19 h0c19 tc19 xc19 yc19 t37 t38 t39 ta36
  obtain ⟨c21, ec21, Wc21, hcc21, sc21, lc21⟩ := raw_p (v := .ref c18.length) Wc19 h0c19 hcc19 (j := 10) (by simp)
  refine wb ec21 ?_
  simp only [List.set] at hcc21
  have x_sc21 := Zsm.tr x_sc19 sc21
  have ka41 := (sc21.2 (c4.length) (List.getElem?_eq_some_iff.mp ka35).1 (Ne.symm nac5)).trans ka35
  have hl42 : c21.length = c.length + 5 := lc21.trans hl40
  refine wb (v := ()) (by decide) ?_
  obtain ⟨Wc22, hcc22, h0c22, tc22, kc22, xc22, sc22, lc22⟩ := raw_n (T := 34) (e := .inl (0, 70, .inl (fun _ => 0))) Wc21 hcc21 h0c19 ⟨_, rfl, fun _ _ => rgi (by decide) (by decide)⟩
  refine wb (v := c21 ++ [(.inl (0, 70, .inl (fun _ => 0)) : va_E)]) rfl ?_
  have ka44 := (sc22.2 (c4.length) (List.getElem?_eq_some_iff.mp ka41).1 (Ne.symm nac5)).trans ka41
  have ta45 := xc22 (c4.length) 0 ta36 (Ne.symm nac5)
  have t46 := Zx.get xc22 h0c19 t37 (by decide)
  have t47 := Zx.get xc22 h0c19 t38 (by decide)
  have t48 := Zx.get xc22 h0c19 t39 (by decide)
  have t49 := Zx.get xc22 h0c19 tc19 (by decide)
  have yc22 := Zx.tr yc19 xc22
  have x_sc22 := Zsm.tr x_sc21 sc22
  have hl50 : (c21 ++ [(.inl (0, 70, .inl (fun _ => 0)) : va_E)]).length = c.length + 6 := by rw [lc22, hl42]
  generalize c21 ++ [(.inl (0, 70, .inl (fun _ => 0)) : va_E)] = c22 at Wc22 hcc22 kc22 sc22 x_sc22 hl50 ka44 ⊢
  generalize G34 ++ [34] = G43 at Wc22 h0c22 tc22 xc22 yc22 t46 t47 t48 t49 ta45
  obtain ⟨c24, ec24, Wc24, hcc24, sc24, lc24⟩ := raw_p (v := .ref c21.length) Wc22 h0c22 hcc22 (j := 11) (by simp)
  refine wb ec24 ?_
  simp only [List.set] at hcc24
  have x_sc24 := Zsm.tr x_sc22 sc24
  have ka51 := (sc24.2 (c4.length) (List.getElem?_eq_some_iff.mp ka44).1 (Ne.symm nac5)).trans ka44
  have hl52 : c24.length = c.length + 6 := lc24.trans hl50
  obtain ⟨c25, ec25, Wc25, hcc25, sc25, lc25⟩ := raw_p (v := .int 0) Wc24 h0c22 hcc24 (j := 12) (by simp)
  refine wb ec25 ?_
  simp only [List.set] at hcc25
  have x_sc25 := Zsm.tr x_sc24 sc25
  have ka53 := (sc25.2 (c4.length) (List.getElem?_eq_some_iff.mp ka51).1 (Ne.symm nac5)).trans ka51
  have hl54 : c25.length = c.length + 6 := lc25.trans hl52
  refine wb (v := ()) (by decide) ?_
  obtain ⟨Wc26, hcc26, h0c26, tc26, kc26, xc26, sc26, lc26⟩ := raw_n (T := 35) (e := .inl (0, 202, .inl (fun _ => 0))) Wc25 hcc25 h0c22 ⟨_, rfl, fun _ _ => okCi (by decide) (by decide) (by decide) (by decide) (by decide) (by decide)⟩
  refine wb (v := c25 ++ [(.inl (0, 202, .inl (fun _ => 0)) : va_E)]) rfl ?_
  have ka56 := (sc26.2 (c4.length) (List.getElem?_eq_some_iff.mp ka53).1 (Ne.symm nac5)).trans ka53
  have ta57 := xc26 (c4.length) 0 ta45 (Ne.symm nac5)
  have t58 := Zx.get xc26 h0c22 t46 (by decide)
  have t59 := Zx.get xc26 h0c22 t47 (by decide)
  have t60 := Zx.get xc26 h0c22 t48 (by decide)
  have t61 := Zx.get xc26 h0c22 t49 (by decide)
  have t62 := Zx.get xc26 h0c22 tc22 (by decide)
  have yc26 := Zx.tr yc22 xc26
  have x_sc26 := Zsm.tr x_sc25 sc26
  have hl63 : (c25 ++ [(.inl (0, 202, .inl (fun _ => 0)) : va_E)]).length = c.length + 7 := by rw [lc26, hl54]
  generalize c25 ++ [(.inl (0, 202, .inl (fun _ => 0)) : va_E)] = c26 at Wc26 hcc26 kc26 sc26 x_sc26 hl63 ka56 ⊢
  generalize G43 ++ [35] = G55 at Wc26 h0c26 tc26 xc26 yc26 t58 t59 t60 t61 t62 ta57
  obtain ⟨c28, ec28, Wc28, hcc28, sc28, lc28⟩ := raw_p (v := .ref c25.length) Wc26 h0c26 hcc26 (j := 13) (by simp)
  refine wb ec28 ?_
  simp only [List.set] at hcc28
  have x_sc28 := Zsm.tr x_sc26 sc28
  have ka64 := (sc28.2 (c4.length) (List.getElem?_eq_some_iff.mp ka56).1 (Ne.symm nac5)).trans ka56
  have hl65 : c28.length = c.length + 7 := lc28.trans hl63
  obtain ⟨c29, ec29, Wc29, hcc29, sc29, lc29⟩ := raw_p (v := .int 0) Wc28 h0c26 hcc28 (j := 14) (by simp)
  refine wb ec29 ?_
  simp only [List.set] at hcc29
  have x_sc29 := Zsm.tr x_sc28 sc29
  have ka66 := (sc29.2 (c4.length) (List.getElem?_eq_some_iff.mp ka64).1 (Ne.symm nac5)).trans ka64
  have hl67 : c29.length = c.length + 7 := lc29.trans hl65
  obtain ⟨c30, ec30, Wc30, hcc30, sc30, lc30⟩ := raw_p (v := .int 0) Wc29 h0c26 hcc29 (j := 15) (by simp)
  refine wb ec30 ?_
  simp only [List.set] at hcc30
  have x_sc30 := Zsm.tr x_sc29 sc30
  have ka68 := (sc30.2 (c4.length) (List.getElem?_eq_some_iff.mp ka66).1 (Ne.symm nac5)).trans ka66
  have hl69 : c30.length = c.length + 7 := lc30.trans hl67
  refine wb (v := ()) (by decide) ?_
  obtain ⟨Wc31, hcc31, h0c31, tc31, kc31, xc31, sc31, lc31⟩ := raw_n (T := 36) (e := .inl (0, 8, .inl (fun _ => 0))) Wc30 hcc30 h0c26 ⟨_, rfl, fun _ _ => trivial⟩
  refine wb (v := c30 ++ [(.inl (0, 8, .inl (fun _ => 0)) : va_E)]) rfl ?_
  have ka71 := (sc31.2 (c4.length) (List.getElem?_eq_some_iff.mp ka68).1 (Ne.symm nac5)).trans ka68
  have ta72 := xc31 (c4.length) 0 ta57 (Ne.symm nac5)
  have t73 := Zx.get xc31 h0c26 t58 (by decide)
  have t74 := Zx.get xc31 h0c26 t59 (by decide)
  have t75 := Zx.get xc31 h0c26 t60 (by decide)
  have t76 := Zx.get xc31 h0c26 t61 (by decide)
  have t77 := Zx.get xc31 h0c26 t62 (by decide)
  have t78 := Zx.get xc31 h0c26 tc26 (by decide)
  have yc31 := Zx.tr yc26 xc31
  have x_sc31 := Zsm.tr x_sc30 sc31
  have hl79 : (c30 ++ [(.inl (0, 8, .inl (fun _ => 0)) : va_E)]).length = c.length + 8 := by rw [lc31, hl69]
  generalize c30 ++ [(.inl (0, 8, .inl (fun _ => 0)) : va_E)] = c31 at Wc31 hcc31 kc31 sc31 x_sc31 hl79 ka71 ⊢
  generalize G55 ++ [36] = G70 at Wc31 h0c31 tc31 xc31 yc31 t73 t74 t75 t76 t77 t78 ta72
  obtain ⟨c33, ec33, Wc33, hcc33, sc33, lc33⟩ := raw_p (v := .ref c30.length) Wc31 h0c31 hcc31 (j := 16) (by simp)
  refine wb ec33 ?_
  simp only [List.set] at hcc33
  have x_sc33 := Zsm.tr x_sc31 sc33
  have ka80 := (sc33.2 (c4.length) (List.getElem?_eq_some_iff.mp ka71).1 (Ne.symm nac5)).trans ka71
  have hl81 : c33.length = c.length + 8 := lc33.trans hl79
  refine wb (v := ()) (by decide) ?_
  obtain ⟨Wc34, hcc34, h0c34, tc34, kc34, xc34, sc34, lc34⟩ := raw_n (T := 37) (e := .inl (0, 8, .inl (fun _ => 0))) Wc33 hcc33 h0c31 ⟨_, rfl, fun _ _ => rgi (by decide) (by decide)⟩
  refine wb (v := c33 ++ [(.inl (0, 8, .inl (fun _ => 0)) : va_E)]) rfl ?_
  have ka83 := (sc34.2 (c4.length) (List.getElem?_eq_some_iff.mp ka80).1 (Ne.symm nac5)).trans ka80
  have ta84 := xc34 (c4.length) 0 ta72 (Ne.symm nac5)
  have t85 := Zx.get xc34 h0c31 t73 (by decide)
  have t86 := Zx.get xc34 h0c31 t74 (by decide)
  have t87 := Zx.get xc34 h0c31 t75 (by decide)
  have t88 := Zx.get xc34 h0c31 t76 (by decide)
  have t89 := Zx.get xc34 h0c31 t77 (by decide)
  have t90 := Zx.get xc34 h0c31 t78 (by decide)
  have t91 := Zx.get xc34 h0c31 tc31 (by decide)
  have yc34 := Zx.tr yc31 xc34
  have x_sc34 := Zsm.tr x_sc33 sc34
  have hl92 : (c33 ++ [(.inl (0, 8, .inl (fun _ => 0)) : va_E)]).length = c.length + 9 := by rw [lc34, hl81]
  generalize c33 ++ [(.inl (0, 8, .inl (fun _ => 0)) : va_E)] = c34 at Wc34 hcc34 kc34 sc34 x_sc34 hl92 ka83 ⊢
  generalize G70 ++ [37] = G82 at Wc34 h0c34 tc34 xc34 yc34 t85 t86 t87 t88 t89 t90 t91 ta84
  obtain ⟨c36, ec36, Wc36, hcc36, sc36, lc36⟩ := raw_p (v := .ref c33.length) Wc34 h0c34 hcc34 (j := 17) (by simp)
  refine wb ec36 ?_
  simp only [List.set] at hcc36
  have x_sc36 := Zsm.tr x_sc34 sc36
  have ka93 := (sc36.2 (c4.length) (List.getElem?_eq_some_iff.mp ka83).1 (Ne.symm nac5)).trans ka83
  have hl94 : c36.length = c.length + 9 := lc36.trans hl92
  obtain ⟨c37, ec37, Wc37, hcc37, sc37, lc37⟩ := raw_p (v := .int 20000) Wc36 h0c34 hcc36 (j := 18) (by simp)
  refine wb ec37 ?_
  simp only [List.set] at hcc37
  have x_sc37 := Zsm.tr x_sc36 sc37
  have ka95 := (sc37.2 (c4.length) (List.getElem?_eq_some_iff.mp ka93).1 (Ne.symm nac5)).trans ka93
  have hl96 : c37.length = c.length + 9 := lc37.trans hl94
  obtain ⟨c38, ec38, Wc38, hcc38, sc38, lc38⟩ := raw_p (v := .int 0) Wc37 h0c34 hcc37 (j := 19) (by simp)
  refine wb ec38 ?_
  simp only [List.set] at hcc38
  have x_sc38 := Zsm.tr x_sc37 sc38
  have ka97 := (sc38.2 (c4.length) (List.getElem?_eq_some_iff.mp ka95).1 (Ne.symm nac5)).trans ka95
  have hl98 : c38.length = c.length + 9 := lc38.trans hl96
  obtain ⟨c39, ec39, Wc39, hcc39, sc39, lc39⟩ := raw_p (v := .int 0) Wc38 h0c34 hcc38 (j := 20) (by simp)
  refine wb ec39 ?_
  simp only [List.set] at hcc39
  have x_sc39 := Zsm.tr x_sc38 sc39
  have ka99 := (sc39.2 (c4.length) (List.getElem?_eq_some_iff.mp ka97).1 (Ne.symm nac5)).trans ka97
  have hl100 : c39.length = c.length + 9 := lc39.trans hl98
  obtain ⟨q, eb, G9, f9, Wq, Xq, Aq, Pq, Sq, lq⟩ := k_ways hn Wc39 h0c34 hcc39 rfl ta84 ka99 nac5
  unfold f_Text_init_142
  refine wb eb ?_
  refine wb (v := ()) (if_pos ⟨rfl, Nat.le_refl _⟩) ?_
  have hcq := (Sq.2 a0 (List.getElem?_eq_some_iff.mp hcc39).1 nac5).trans hcc39
  have tr0 := Xq _ _ ta84
  obtain ⟨Wa, ta9, xa⟩ := wt_sealA (T := 29) Wq tr0 Aq ⟨f9, rfl, fun i hi => (Pq i hi).elim fun p hp => ⟨p, 2, hp.1, set_get tr0 hp.2 (by decide), by decide⟩⟩
  have h09 := xa a0 0 (Xq _ _ h0c34) nac5
  have t101 := Zx.get xa tr0 (Xq _ _ t85) (by decide)
  have t102 := Zx.get xa tr0 (Xq _ _ t86) (by decide)
  have t103 := Zx.get xa tr0 (Xq _ _ t87) (by decide)
  have t104 := Zx.get xa tr0 (Xq _ _ t88) (by decide)
  have t105 := Zx.get xa tr0 (Xq _ _ t89) (by decide)
  have t106 := Zx.get xa tr0 (Xq _ _ t90) (by decide)
  have t107 := Zx.get xa tr0 (Xq _ _ t91) (by decide)
  have t108 := Zx.get xa tr0 (Xq _ _ tc34) (by decide)
  have ge9 : c.length ≤ c4.length := by omega
  have y9 := Zx.inn (Zx.tr yc34 (fun k T h _ => Xq k T h)) xa (by rw [W.1]; exact ge9)
  have s9 := Zsm.inn x_sc39 Sq ge9
  have hl9 : q.length = c.length + 89 := by rw [lq, hl100]
  obtain ⟨Wz, tz, xz⟩ := wt_seal (T := 3) Wa h09 hcq rfl (Zvs.cons (Zcv.mi (rgi (by decide) (by decide))) (Zvs.cons (Zcv.mi (rgi (by decide) (by decide))) (Zvs.cons (Zcv.mi trivial) (Zvs.cons (Zcv.mi (rgi (by decide) (by decide))) (Zvs.cons (Zcv.mr (T := 29) (set_get h09 ta9 (by decide)) (by decide)) (Zvs.cons (Zcv.mi (rgi (by decide) (by decide))) (Zvs.cons (Zcv.mr (T := 30) (set_get h09 t101 (by decide)) (by decide)) (Zvs.cons (Zcv.mr (T := 31) (set_get h09 t102 (by decide)) (by decide)) (Zvs.cons (Zcv.mi (rgi (by decide) (by decide))) (Zvs.cons (Zcv.mr (T := 32) (set_get h09 t103 (by decide)) (by decide)) (Zvs.cons (Zcv.mr (T := 33) (set_get h09 t104 (by decide)) (by decide)) (Zvs.cons (Zcv.mr (T := 34) (set_get h09 t105 (by decide)) (by decide)) (Zvs.cons (Zcv.mi (rgi (by decide) (by decide))) (Zvs.cons (Zcv.mr (T := 35) (set_get h09 t106 (by decide)) (by decide)) (Zvs.cons (Zcv.mi (rgi (by decide) (by decide))) (Zvs.cons (Zcv.mi (rgi (by decide) (by decide))) (Zvs.cons (Zcv.mr (T := 36) (set_get h09 t107 (by decide)) (by decide)) (Zvs.cons (Zcv.mr (T := 37) (set_get h09 t108 (by decide)) (by decide)) (Zvs.cons (Zcv.mi (rgi (by decide) (by decide))) (Zvs.cons (Zcv.mi (rgi (by decide) (by decide))) (Zvs.cons (Zcv.mi (rgi (by decide) (by decide))) Zvs.nil)))))))))))))))))))))
  exact ⟨_, rfl, _, Wz, Zx.tr y9 xz, tz, s9, hl9⟩
set_option maxRecDepth 100000 in
set_option maxHeartbeats 1000000 in
theorem k_rules {nf : Nat} (hn : 8589934592 ≤ nf) {G : List Nat} {c : Zc} {a0 ar : Nat} {vs : List Value} {f : Nat → Option Nat} (W : Zwt zty G c) (h0 : G[a0]? = some 0) (hc : c[a0]? = some (.inr (8, vs))) (hv : vs[0]? = some (.ref ar)) (ta : G[ar]? = some 0) (ha : c[ar]? = some (.inl (4, 4, .inr (.inr (.inr (.inr f)))))) (hne : a0 ≠ ar) : ∃ q, zlp (fun a : Nat × Int32 × Nat × Nat × Zc => g_RuleBook_init_42 nf 362 16944 a.1 a.2.1 a.2.2.1 a.2.2.2.1 a.2.2.2.2) nf (a0, 0, 2, 68, c) = some (362, 16944, q) ∧ ∃ G' f', Zwt zty G' q ∧ (∀ k T : Nat, G[k]? = some T → G'[k]? = some T) ∧ q[ar]? = some (.inl (4, 4, .inr (.inr (.inr (.inr f'))))) ∧ (∀ i, i < 4 → ∃ p, f' i = some p ∧ G'[p]? = some 3) ∧ Zsm c q ar ∧ q.length = c.length + 360 := by
  have l0 : (0 : Int32).toInt = 0 := by decide
  have l1 : (1 : Int32).toInt = 1 := by decide
  have l10 : (4 : Int32).toInt = 4 := by decide
  have hla := (List.getElem?_eq_some_iff.mp ha).1
  have hl0 := (List.getElem?_eq_some_iff.mp hc).1
  have L : ∃ b, zlp (fun a : Nat × Int32 × Nat × Nat × Zc => g_RuleBook_init_42 nf 362 16944 a.1 a.2.1 a.2.2.1 a.2.2.2.1 a.2.2.2.2) nf (a0, 0, 2, 68, c) = some b ∧ (fun b : Nat × Nat × Zc => b.1 = 362 ∧ b.2.1 = 16944 ∧ ∃ G' f', Zwt zty G' b.2.2 ∧ (∀ k T : Nat, G[k]? = some T → G'[k]? = some T) ∧ b.2.2[ar]? = some (.inl (4, 4, .inr (.inr (.inr (.inr f'))))) ∧ (∀ i, i < 4 → ∃ p, f' i = some p ∧ G'[p]? = some 3) ∧ Zsm c b.2.2 ar ∧ b.2.2.length = c.length + 360) b := by
    refine wlp (fun a : Nat × Int32 × Nat × Nat × Zc => a0 = a.1 ∧ (0 ≤ a.2.1.toInt ∧ a.2.1.toInt ≤ 4) ∧ ((a.2.2.1 : Int) = 2 + 90 * a.2.1.toInt ∧ (a.2.2.2.1 : Int) = 68 + 4219 * a.2.1.toInt) ∧ ∃ G' f', Zwt zty G' a.2.2.2.2 ∧ (∀ k T : Nat, G[k]? = some T → G'[k]? = some T) ∧ a.2.2.2.2[ar]? = some (.inl (4, 4, .inr (.inr (.inr (.inr f'))))) ∧ (∀ i : Nat, (i : Int) < a.2.1.toInt → ∃ p, f' i = some p ∧ G'[p]? = some 3) ∧ Zsm c a.2.2.2.2 ar ∧ (a.2.2.2.2.length : Int) = c.length + 90 * a.2.1.toInt) (fun a => (4 - a.2.1.toInt).toNat) _ ?_ ?_ ?_
    · rintro ⟨y0, x1, kk, nn, c9⟩ hI
      dsimp only at hI ⊢
      obtain ⟨rfl, ⟨j1, j2⟩, ⟨j3, j4⟩, G9, f9, W9, X9, A9, P9, S9, l9⟩ := hI
      unfold g_RuleBook_init_42
      refine wi (fun q => ?_) (fun q => ?_)
      · have q := i_le q
        exact lInr ⟨by dsimp only; omega, by dsimp only; omega, G9, f9, W9, X9, A9, fun i hi => P9 i (by omega), S9, by dsimp only; omega⟩
      · have q := i_nle q
        have hs := i_add (a := x1) (b := 1) (by omega) (by omega)
        have hc9 := (S9.2 a0 hl0 hne).trans hc
        refine wb (raw_g hc9 hv) ?_
        refine wb (v := ()) (if_pos ⟨by omega, by omega⟩) ?_
        obtain ⟨W1, hc1, h01, t1, k1, x1', s1, m1⟩ := raw_n (T := 0) (e := .inr (2, [.int 0, .int 0, .int 0, .int 0, .null, .int 0, .null, .null, .int 0, .null, .null, .null, .int 0, .null, .int 0, .int 0, .null, .null, .int 0, .int 0, .int 0])) W9 hc9 (X9 _ _ h0) (True.intro : True)
        refine wb (v := c9 ++ [(.inr (2, [.int 0, .int 0, .int 0, .int 0, .null, .int 0, .null, .null, .int 0, .null, .null, .null, .int 0, .null, .int 0, .int 0, .null, .null, .int 0, .int 0, .int 0]) : va_E)]) rfl ?_
        have A1 : (c9 ++ [(.inr (2, [.int 0, .int 0, .int 0, .int 0, .null, .int 0, .null, .null, .int 0, .null, .null, .null, .int 0, .null, .int 0, .int 0, .null, .null, .int 0, .int 0, .int 0]) : va_E)])[ar]? = some (.inl (4, 4, .inr (.inr (.inr (.inr f9))))) := by
          rw [List.getElem?_append_left (Nat.lt_of_lt_of_le hla S9.1)]; exact A9
        have S1 : Zsm c9 (c9 ++ [(.inr (2, [.int 0, .int 0, .int 0, .int 0, .null, .int 0, .null, .null, .int 0, .null, .null, .null, .int 0, .null, .int 0, .int 0, .null, .null, .int 0, .int 0, .int 0]) : va_E)]) ar := ⟨by simp, fun k hk _ => List.getElem?_append_left hk⟩
        have X1 : ∀ k T : Nat, G9[k]? = some T → (G9 ++ [0])[k]? = some T := fun k T h => Zex.get ⟨[0], rfl⟩ h
        generalize c9 ++ [(.inr (2, [.int 0, .int 0, .int 0, .int 0, .null, .int 0, .null, .null, .int 0, .null, .null, .null, .int 0, .null, .int 0, .int 0, .null, .null, .int 0, .int 0, .int 0]) : va_E)] = d1 at W1 hc1 k1 s1 m1 A1 S1 ⊢
        refine wb (v := ()) (if_pos ⟨by omega, by omega⟩) ?_
        obtain ⟨d2, e2, G2, W2, x2, t2, s2, m2⟩ := k_Text_init hn W1 t1 k1
        refine wb e2 ?_
        have har : ar ≠ c9.length := Nat.ne_of_lt (Nat.lt_of_lt_of_le hla S9.1)
        have A2 := (s2.2 ar (List.getElem?_eq_some_iff.mp A1).1 har).trans A1
        have ta2 := x2 ar 0 (X1 _ _ (X9 _ _ ta)) har
        obtain ⟨vs2, hx2⟩ : ∃ vs2, d2[c9.length]? = some (.inr (2, vs2)) := by
          obtain ⟨e, g1, g2⟩ := W2.2 _ _ t2
          obtain ⟨vs2, rfl, _⟩ := g2
          exact ⟨vs2, g1⟩
        obtain ⟨d3, e3, W3, A3, s3, m3⟩ := raw_r (i := x1) W2 ta2 A2 hx2 j1 (by omega)
        refine wb e3 ?_
        have X3 : ∀ k T : Nat, G[k]? = some T → G2[k]? = some T := fun k T h => x2 k T (X1 _ _ (X9 _ _ h)) (by
          have := wt_lt W h
          have := S9.1
          omega)
        refine lInl ⟨rfl, ⟨by dsimp only; omega, by dsimp only; omega⟩, ⟨by dsimp only; omega, by dsimp only; omega⟩, G2, _, W3, X3, A3, fun i hi => ?_, ?_, by dsimp only; omega⟩ (by dsimp only; omega)
        · dsimp only at hi
          by_cases hq : i = x1.toNatClampNeg
          · subst hq
            exact ⟨c9.length, by simp [va_up], t2⟩
          · have hlt : (i : Int) < x1.toInt := by
              rw [i_tn] at hq
              omega
            obtain ⟨p, g1, g2⟩ := P9 i hlt
            refine ⟨p, by simp [va_up, hq, g1], x2 p 3 (X1 _ _ g2) ?_⟩
            have := (List.getElem?_eq_some_iff.mp g2).1
            have := W9.1
            omega
        · refine ⟨Nat.le_trans S9.1 (Nat.le_trans S1.1 (Nat.le_trans s2.1 s3.1)), fun k hk hka => ?_⟩
          have h9 := S9.1
          rw [s3.2 k (by omega) hka, s2.2 k (by omega) (by omega), S1.2 k (by omega) hka]
          exact S9.2 k hk hka
    · exact ⟨rfl, ⟨by dsimp only; omega, by dsimp only; omega⟩, ⟨by dsimp only; omega, by dsimp only; omega⟩, G, f, W, fun _ _ h => h, ha, fun i hi => by dsimp only at hi; omega, Zsm.rf, by dsimp only; omega⟩
    · dsimp only; omega
  obtain ⟨⟨kk, nn, q⟩, eb, hb⟩ := L
  dsimp only at hb
  obtain ⟨rfl, rfl, hb⟩ := hb
  exact ⟨q, eb, hb⟩
set_option maxRecDepth 100000 in
set_option maxHeartbeats 1000000 in
theorem k_RuleBook_init {nf : Nat} (hn : 8589934592 ≤ nf) {G : List Nat} {c : Zc} (W : Zwt zty G c) {a0 a1 a2 : Nat} (h0 : G[a0]? = some 0) (hc : c[a0]? = some (.inr (8, [.null, .null, .null, .null, .int 0, .int 0]))) (t_a1 : G[a1]? = some 1) (t_a2 : G[a2]? = some 8) : ∃ q, f_RuleBook_init nf 362 16944 a0 a1 a2 c = some q ∧ ∃ G', Zwt zty G' q ∧ Zx G G' a0 ∧ G'[a0]? = some 9 ∧ Zsm c q a0 ∧ q.length = c.length + 362 := by
  unfold f_RuleBook_init
  have hl0 : c.length = c.length + 0 := rfl
  refine wb (v := ()) (by decide) ?_
  obtain ⟨Wc1, hcc1, h0c1, tc1, kc1, xc1, sc1, lc1⟩ := raw_n (T := 0) (e := .inl (4, 4, .inr (.inr (.inr (.inr (fun _ => none)))))) W hc h0 (True.intro : True)
  refine wb (v := c ++ [(.inl (4, 4, .inr (.inr (.inr (.inr (fun _ => none))))) : va_E)]) rfl ?_
  have t2 := Zx.get xc1 h0 t_a1 (by decide)
  have t3 := Zx.get xc1 h0 t_a2 (by decide)
  have yc1 := Zx.tr Zx.rf xc1
  have x_sc1 := Zsm.tr Zsm.rf sc1
  have hl4 : (c ++ [(.inl (4, 4, .inr (.inr (.inr (.inr (fun _ => none))))) : va_E)]).length = c.length + 1 := by rw [lc1, hl0]
  generalize c ++ [(.inl (4, 4, .inr (.inr (.inr (.inr (fun _ => none))))) : va_E)] = c1 at Wc1 hcc1 kc1 sc1 x_sc1 hl4 ⊢
  generalize G ++ [0] = G1 at Wc1 h0c1 tc1 xc1 yc1 t2 t3
  have nac1 : a0 ≠ c.length := Nat.ne_of_lt (List.getElem?_eq_some_iff.mp hc).1
  obtain ⟨c3, ec3, Wc3, hcc3, sc3, lc3⟩ := raw_p (v := .ref c.length) Wc1 h0c1 hcc1 (j := 0) (by simp)
  refine wb ec3 ?_
  simp only [List.set] at hcc3
  have x_sc3 := Zsm.tr x_sc1 sc3
  have ka5 := (sc3.2 (c.length) (List.getElem?_eq_some_iff.mp kc1).1 (Ne.symm nac1)).trans kc1
  have hl6 : c3.length = c.length + 1 := lc3.trans hl4
  refine wb (v := ()) (by decide) ?_
  obtain ⟨Wc4, hcc4, h0c4, tc4, kc4, xc4, sc4, lc4⟩ := raw_n (T := 56) (e := .inl (0, 64, .inl (fun _ => 0))) Wc3 hcc3 h0c1 ⟨_, rfl, fun _ _ => trivial⟩
  refine wb (v := c3 ++ [(.inl (0, 64, .inl (fun _ => 0)) : va_E)]) rfl ?_
  have ka8 := (sc4.2 (c.length) (List.getElem?_eq_some_iff.mp ka5).1 (Ne.symm nac1)).trans ka5
  have ta9 := xc4 (c.length) 0 tc1 (Ne.symm nac1)
  have t10 := Zx.get xc4 h0c1 t2 (by decide)
  have t11 := Zx.get xc4 h0c1 t3 (by decide)
  have yc4 := Zx.tr yc1 xc4
  have x_sc4 := Zsm.tr x_sc3 sc4
  have hl12 : (c3 ++ [(.inl (0, 64, .inl (fun _ => 0)) : va_E)]).length = c.length + 2 := by rw [lc4, hl6]
  generalize c3 ++ [(.inl (0, 64, .inl (fun _ => 0)) : va_E)] = c4 at Wc4 hcc4 kc4 sc4 x_sc4 hl12 ka8 ⊢
  generalize G1 ++ [56] = G7 at Wc4 h0c4 tc4 xc4 yc4 t10 t11 ta9
  obtain ⟨c6, ec6, Wc6, hcc6, sc6, lc6⟩ := raw_p (v := .ref c3.length) Wc4 h0c4 hcc4 (j := 3) (by simp)
  refine wb ec6 ?_
  simp only [List.set] at hcc6
  have x_sc6 := Zsm.tr x_sc4 sc6
  have ka13 := (sc6.2 (c.length) (List.getElem?_eq_some_iff.mp ka8).1 (Ne.symm nac1)).trans ka8
  have hl14 : c6.length = c.length + 2 := lc6.trans hl12
  obtain ⟨c7, ec7, Wc7, hcc7, sc7, lc7⟩ := raw_p (v := .int (-1)) Wc6 h0c4 hcc6 (j := 4) (by simp)
  refine wb ec7 ?_
  simp only [List.set] at hcc7
  have x_sc7 := Zsm.tr x_sc6 sc7
  have ka15 := (sc7.2 (c.length) (List.getElem?_eq_some_iff.mp ka13).1 (Ne.symm nac1)).trans ka13
  have hl16 : c7.length = c.length + 2 := lc7.trans hl14
  obtain ⟨c8, ec8, Wc8, hcc8, sc8, lc8⟩ := raw_p (v := .int 0) Wc7 h0c4 hcc7 (j := 5) (by simp)
  refine wb ec8 ?_
  simp only [List.set] at hcc8
  have x_sc8 := Zsm.tr x_sc7 sc8
  have ka17 := (sc8.2 (c.length) (List.getElem?_eq_some_iff.mp ka15).1 (Ne.symm nac1)).trans ka15
  have hl18 : c8.length = c.length + 2 := lc8.trans hl16
  obtain ⟨c9, ec9, Wc9, hcc9, sc9, lc9⟩ := raw_p (v := .ref a1) Wc8 h0c4 hcc8 (j := 1) (by simp)
  refine wb ec9 ?_
  simp only [List.set] at hcc9
  have x_sc9 := Zsm.tr x_sc8 sc9
  have ka19 := (sc9.2 (c.length) (List.getElem?_eq_some_iff.mp ka17).1 (Ne.symm nac1)).trans ka17
  have hl20 : c9.length = c.length + 2 := lc9.trans hl18
  obtain ⟨c10, ec10, Wc10, hcc10, sc10, lc10⟩ := raw_p (v := .ref a2) Wc9 h0c4 hcc9 (j := 2) (by simp)
  refine wb ec10 ?_
  simp only [List.set] at hcc10
  have x_sc10 := Zsm.tr x_sc9 sc10
  have ka21 := (sc10.2 (c.length) (List.getElem?_eq_some_iff.mp ka19).1 (Ne.symm nac1)).trans ka19
  have hl22 : c10.length = c.length + 2 := lc10.trans hl20
  obtain ⟨q, eb, G9, f9, Wq, Xq, Aq, Pq, Sq, lq⟩ := k_rules hn Wc10 h0c4 hcc10 rfl ta9 ka21 nac1
  unfold f_RuleBook_init_42
  refine wb eb ?_
  refine wb (v := ()) (if_pos ⟨rfl, Nat.le_refl _⟩) ?_
  have hcq := (Sq.2 a0 (List.getElem?_eq_some_iff.mp hcc10).1 nac1).trans hcc10
  have tr0 := Xq _ _ ta9
  obtain ⟨Wa, ta9, xa⟩ := wt_sealA (T := 55) Wq tr0 Aq ⟨f9, rfl, fun i hi => (Pq i hi).elim fun p hp => ⟨p, 3, hp.1, set_get tr0 hp.2 (by decide), by decide⟩⟩
  have h09 := xa a0 0 (Xq _ _ h0c4) nac1
  have t23 := Zx.get xa tr0 (Xq _ _ t10) (by decide)
  have t24 := Zx.get xa tr0 (Xq _ _ t11) (by decide)
  have t25 := Zx.get xa tr0 (Xq _ _ tc4) (by decide)
  have ge9 : c.length ≤ c.length := by omega
  have y9 := Zx.inn (Zx.tr yc4 (fun k T h _ => Xq k T h)) xa (by rw [W.1]; exact ge9)
  have s9 := Zsm.inn x_sc10 Sq ge9
  have hl9 : q.length = c.length + 362 := by rw [lq, hl22]
  obtain ⟨Wz, tz, xz⟩ := wt_seal (T := 9) Wa h09 hcq rfl (Zvs.cons (Zcv.mr (T := 55) (set_get h09 ta9 (by decide)) (by decide)) (Zvs.cons (Zcv.mr (T := 1) (set_get h09 t23 (by decide)) (by decide)) (Zvs.cons (Zcv.mr (T := 8) (set_get h09 t24 (by decide)) (by decide)) (Zvs.cons (Zcv.mr (T := 56) (set_get h09 t25 (by decide)) (by decide)) (Zvs.cons (Zcv.mi trivial) (Zvs.cons (Zcv.mi (rgi (by decide) (by decide))) Zvs.nil))))))
  exact ⟨_, rfl, _, Wz, Zx.tr y9 xz, tz, s9, hl9⟩
end ZzT
