section ZzT
abbrev tx0 : List Value := [.int 0, .int 0, .int 0, .int 0, .null, .int 0, .null, .null, .int 0, .null, .null, .null, .int 0, .null, .int 0, .int 0, .null, .null, .int 0, .int 0, .int 0]
set_option maxRecDepth 100000 in
set_option maxHeartbeats 4000000 in
theorem k_pqs {nf : Nat} (hn : 8589934592 ≤ nf) {G : List Nat} {c : Zc} {a0 qa an aw : Nat} {vs : List Value} {f g : Nat → Option Nat} (W : Zwt zty G c) (h0 : G[a0]? = some 0) (hc : c[a0]? = some (.inr (11, vs))) (hv7 : vs[7]? = some (.ref qa)) (hv8 : vs[8]? = some (.ref an)) (hv9 : vs[9]? = some (.ref aw)) (ta : G[qa]? = some 0) (ha : c[qa]? = some (.inl (4, 4, .inr (.inr (.inr (.inr f)))))) (hna : a0 ≠ qa) (tb : G[an]? = some 0) (hb : c[an]? = some (.inl (5, 4, .inr (.inr (.inr (.inr g)))))) (hnb : a0 ≠ an) (hab : qa ≠ an) (tt : G[aw]? = some 62) :
    ∃ q, zlp (fun a : Nat × Int32 × Nat × Nat × Zc => g_PQ_init_133 nf 876 42052 a.1 a.2.1 a.2.2.1 a.2.2.2.1 a.2.2.2.2) nf (a0, 0, 500, 24900, c) = some (876, 42052, q) ∧ ∃ G' f' g', Zwt zty G' q ∧ (∀ k T : Nat, G[k]? = some T → G'[k]? = some T) ∧ q[qa]? = some (.inl (4, 4, .inr (.inr (.inr (.inr f'))))) ∧ q[an]? = some (.inl (5, 4, .inr (.inr (.inr (.inr g'))))) ∧ (∀ i, i < 4 → ∃ p, f' i = some p ∧ G'[p]? = some 3) ∧ (∀ i, i < 4 → ∃ p, g' i = some p ∧ G'[p]? = some 12 ∧ ∃ cl od ot, Zro G' q p 0 0 cl od ot) ∧ (∀ i j, i < 4 → j < 4 → i ≠ j → g' i ≠ g' j) ∧ (∀ k, k < c.length → k ≠ qa → k ≠ an → k ≠ aw → q[k]? = c[k]?) ∧ q.length = c.length + 376 := by
  have l0 : (0 : Int32).toInt = 0 := by decide
  have l1 : (1 : Int32).toInt = 1 := by decide
  have l4 : (4 : Int32).toInt = 4 := by decide
  have hla := (List.getElem?_eq_some_iff.mp ha).1
  have hlb := (List.getElem?_eq_some_iff.mp hb).1
  have hl0 := (List.getElem?_eq_some_iff.mp hc).1
  have hlt := wt_lt W tt
  have hnt : a0 ≠ aw := Ne.symm (pl_ne tt h0 (by decide))
  have hqt : qa ≠ aw := Ne.symm (pl_ne tt ta (by decide))
  have hbt : an ≠ aw := Ne.symm (pl_ne tt tb (by decide))
  have L : ∃ b, zlp (fun a : Nat × Int32 × Nat × Nat × Zc => g_PQ_init_133 nf 876 42052 a.1 a.2.1 a.2.2.1 a.2.2.2.1 a.2.2.2.2) nf (a0, 0, 500, 24900, c) = some b ∧ (fun b : Nat × Nat × Zc => b.1 = 876 ∧ b.2.1 = 42052 ∧ ∃ G' f' g', Zwt zty G' b.2.2 ∧ (∀ k T : Nat, G[k]? = some T → G'[k]? = some T) ∧ b.2.2[qa]? = some (.inl (4, 4, .inr (.inr (.inr (.inr f'))))) ∧ b.2.2[an]? = some (.inl (5, 4, .inr (.inr (.inr (.inr g'))))) ∧ (∀ i, i < 4 → ∃ p, f' i = some p ∧ G'[p]? = some 3) ∧ (∀ i, i < 4 → ∃ p, g' i = some p ∧ G'[p]? = some 12 ∧ ∃ cl od ot, Zro G' b.2.2 p 0 0 cl od ot) ∧ (∀ i j, i < 4 → j < 4 → i ≠ j → g' i ≠ g' j) ∧ (∀ k, k < c.length → k ≠ qa → k ≠ an → k ≠ aw → b.2.2[k]? = c[k]?) ∧ b.2.2.length = c.length + 376) b := by
    refine wlp (fun a : Nat × Int32 × Nat × Nat × Zc => a0 = a.1 ∧ (0 ≤ a.2.1.toInt ∧ a.2.1.toInt ≤ 4) ∧ ((a.2.2.1 : Int) = 500 + 94 * a.2.1.toInt ∧ (a.2.2.2.1 : Int) = 24900 + 4288 * a.2.1.toInt) ∧ ∃ G' f' g', Zwt zty G' a.2.2.2.2 ∧ (∀ k T : Nat, G[k]? = some T → G'[k]? = some T) ∧ a.2.2.2.2[qa]? = some (.inl (4, 4, .inr (.inr (.inr (.inr f'))))) ∧ a.2.2.2.2[an]? = some (.inl (5, 4, .inr (.inr (.inr (.inr g'))))) ∧ (∀ i : Nat, (i : Int) < a.2.1.toInt → ∃ p, f' i = some p ∧ G'[p]? = some 3) ∧ (∀ i : Nat, (i : Int) < a.2.1.toInt → ∃ p, g' i = some p ∧ G'[p]? = some 12 ∧ ∃ cl od ot, Zro G' a.2.2.2.2 p 0 0 cl od ot) ∧ (∀ i j : Nat, (i : Int) < a.2.1.toInt → (j : Int) < a.2.1.toInt → i ≠ j → g' i ≠ g' j) ∧ (∀ k, k < c.length → k ≠ qa → k ≠ an → k ≠ aw → a.2.2.2.2[k]? = c[k]?) ∧ (a.2.2.2.2.length : Int) = c.length + 94 * a.2.1.toInt) (fun a => (4 - a.2.1.toInt).toNat) _ ?_ ?_ ?_
    · rintro ⟨y0, x1, kk, nn, c9⟩ hI
      dsimp only at hI ⊢
      obtain ⟨rfl, ⟨j1, j2⟩, ⟨j3, j4⟩, G9, f9, g9, W9, X9, A9, B9, P9, R9, D9, S9, l9⟩ := hI
      unfold g_PQ_init_133
      refine wi (fun q => ?_) (fun q => ?_)
      · have q := i_le q
        exact lInr ⟨by dsimp only; omega, by dsimp only; omega, G9, f9, g9, W9, X9, A9, B9, fun i hi => P9 i (by omega), fun i hi => R9 i (by omega), fun i j hi hj => D9 i j (by omega) (by omega), S9, by dsimp only; omega⟩
      · have q := i_nle q
        have hs := i_add (a := x1) (b := 1) (by omega) (by omega)
        have hc9 := (S9 a0 hl0 hna hnb hnt).trans hc
        refine wb (raw_g hc9 hv7) ?_
        refine wb (v := ()) (if_pos ⟨by omega, by omega⟩) ?_
        -- a text
        obtain ⟨W1, hc1, h01, t1, k1, x1', s1, m1⟩ := raw_n (T := 0) (e := .inr (2, tx0)) W9 hc9 (X9 _ _ h0) (True.intro : True)
        refine wb (v := c9 ++ [(.inr (2, tx0) : va_E)]) rfl ?_
        have A1 : (c9 ++ [(.inr (2, tx0) : va_E)])[qa]? = some (.inl (4, 4, .inr (.inr (.inr (.inr f9))))) := (s1.2 qa (List.getElem?_eq_some_iff.mp A9).1 (Ne.symm hna)).trans A9
        have B1 : (c9 ++ [(.inr (2, tx0) : va_E)])[an]? = some (.inl (5, 4, .inr (.inr (.inr (.inr g9))))) := (s1.2 an (List.getElem?_eq_some_iff.mp B9).1 (Ne.symm hnb)).trans B9
        have X1 : ∀ k T : Nat, G9[k]? = some T → (G9 ++ [0])[k]? = some T := fun k T h => Zex.get ⟨[0], rfl⟩ h
        generalize c9 ++ [(.inr (2, tx0) : va_E)] = d1 at W1 hc1 k1 s1 m1 A1 B1 ⊢
        generalize G9 ++ [0] = G1 at W1 h01 t1 x1' X1
        refine wb (v := ()) (if_pos ⟨by omega, by omega⟩) ?_
        obtain ⟨d2, e2, G2, W2, x2, t2, s2, m2⟩ := k_Text_init hn W1 t1 k1
        refine wb e2 ?_
        have ga : qa ≠ c9.length := Nat.ne_of_lt (List.getElem?_eq_some_iff.mp A9).1
        have gb : an ≠ c9.length := Nat.ne_of_lt (List.getElem?_eq_some_iff.mp B9).1
        have g0 : a0 ≠ c9.length := Nat.ne_of_lt (List.getElem?_eq_some_iff.mp hc9).1
        have A2 := (s2.2 qa (List.getElem?_eq_some_iff.mp A1).1 ga).trans A1
        have B2 := (s2.2 an (List.getElem?_eq_some_iff.mp B1).1 gb).trans B1
        have hc2 := (s2.2 a0 (List.getElem?_eq_some_iff.mp hc1).1 g0).trans hc1
        have ta2 := x2 qa 0 (X1 _ _ (X9 _ _ ta)) ga
        obtain ⟨vs2, hx2⟩ : ∃ vs2, d2[c9.length]? = some (.inr (2, vs2)) := by
          obtain ⟨e, g1, g2⟩ := W2.2 _ _ t2
          obtain ⟨vs2, rfl, _⟩ := g2
          exact ⟨vs2, g1⟩
        obtain ⟨d3, e3, W3, A3, s3, m3⟩ := raw_r (i := x1) W2 ta2 A2 hx2 j1 (by omega)
        refine wb e3 ?_
        have B3 := (s3.2 an (List.getElem?_eq_some_iff.mp B2).1 (Ne.symm hab)).trans B2
        have hc3 := (s3.2 a0 (List.getElem?_eq_some_iff.mp hc2).1 hna).trans hc2
        have h03 : G2[a0]? = some 0 := x2 a0 0 h01 g0
        have tb3 : G2[an]? = some 0 := x2 an 0 (X1 _ _ (X9 _ _ tb)) gb
        -- its rows
        refine wb (raw_g hc3 hv8) ?_
        refine wb (v := ()) (if_pos ⟨by omega, by omega⟩) ?_
        obtain ⟨W4, hc4, h04, t4, k4, x4, s4, m4⟩ := raw_n (T := 0) (e := .inr (9, [.int 0, .int 0, .null, .null, .null])) W3 hc3 h03 (True.intro : True)
        refine wb (v := d3 ++ [(.inr (9, [.int 0, .int 0, .null, .null, .null]) : va_E)]) rfl ?_
        have A4 := (s4.2 qa (List.getElem?_eq_some_iff.mp A3).1 (Ne.symm hna)).trans A3
        have B4 := (s4.2 an (List.getElem?_eq_some_iff.mp B3).1 (Ne.symm hnb)).trans B3
        have X4 : ∀ k T : Nat, G2[k]? = some T → (G2 ++ [0])[k]? = some T := fun k T h => Zex.get ⟨[0], rfl⟩ h
        generalize d3 ++ [(.inr (9, [.int 0, .int 0, .null, .null, .null]) : va_E)] = d4 at W4 hc4 k4 s4 m4 A4 B4 ⊢
        generalize G2 ++ [0] = G4 at W4 h04 t4 x4 X4
        refine wb (v := ()) (if_pos ⟨by omega, by omega⟩) ?_
        obtain ⟨d5, e5, G5, W5, x5, t5, s5, m5, cl5, od5, ot5, R5, _, _⟩ := k_Rows_init (T := 12) hn rfl W4 t4 k4
        refine wb e5 ?_
        have ga5 : qa ≠ d3.length := Nat.ne_of_lt (List.getElem?_eq_some_iff.mp A3).1
        have gb5 : an ≠ d3.length := Nat.ne_of_lt (List.getElem?_eq_some_iff.mp B3).1
        have g05 : a0 ≠ d3.length := Nat.ne_of_lt (List.getElem?_eq_some_iff.mp hc3).1
        have A5 := (s5.2 qa (List.getElem?_eq_some_iff.mp A4).1 ga5).trans A4
        have B5 := (s5.2 an (List.getElem?_eq_some_iff.mp B4).1 gb5).trans B4
        have hc5 := (s5.2 a0 (List.getElem?_eq_some_iff.mp hc4).1 g05).trans hc4
        have tb5 := x5 an 0 (X4 _ _ tb3) gb5
        obtain ⟨vs5, hx5⟩ : ∃ vs5, d5[d3.length]? = some (.inr (9, vs5)) := by
          obtain ⟨e, g1, g2⟩ := W5.2 _ _ t5
          obtain ⟨vs2, rfl, _⟩ := g2
          exact ⟨vs2, g1⟩
        obtain ⟨d6, e6, W6, B6, s6, m6⟩ := raw_r (i := x1) W5 tb5 B5 hx5 j1 (by omega)
        refine wb e6 ?_
        have A6 := (s6.2 qa (List.getElem?_eq_some_iff.mp A5).1 hab).trans A5
        have hc6 := (s6.2 a0 (List.getElem?_eq_some_iff.mp hc5).1 hnb).trans hc5
        refine wb (raw_g hc6 hv9) ?_
        -- types that stay
        have XX : ∀ k T : Nat, G[k]? = some T → G5[k]? = some T := fun k T h => by
          have hk := wt_lt W h
          have a1 := X1 _ _ (X9 _ _ h)
          have hb1 : k ≠ c9.length := by omega
          have a2 := X4 _ _ (x2 k T a1 hb1)
          exact x5 k T a2 (by have := s3.1; have := s2.1; have := s1.1; omega)
        obtain ⟨d7, e7, W7, f7, g7⟩ := pa_62 W6 (XX _ _ tt) (i := x1) (by omega) (by omega) (x := -1) trivial
        refine wb e7 ?_
        obtain ⟨n7, ff7, z1, z2, z3⟩ := zsi_x e7
        have m7 : d7.length = d6.length := by rw [z3, List.length_set]
        have s7 : ∀ k, k ≠ aw → d7[k]? = d6[k]? := fun k hk => by rw [z3, List.getElem?_set_ne (Ne.symm hk)]
        have A7 := (s7 qa hqt).trans A6
        have B7 := (s7 an hbt).trans B6
        -- rows that stay
        have tr : ∀ p cl od ot, G9[p]? = some 12 → Zro G9 c9 p 0 0 cl od ot → G5[p]? = some 12 ∧ p ≠ d3.length ∧ Zro G5 d7 p 0 0 cl od ot := by
          intro p cl od ot hp R
          have hpl := wt_lt W9 hp
          have p1 := X1 _ _ hp
          have r1 := R.sm W9 hp (by decide) s1 x1' (X9 _ _ h0)
          have p2 := x2 p 12 p1 (by omega)
          have r2 := r1.sm W1 p1 (by decide) s2 x2 t1
          have r3 := r2.sm W2 p2 (by decide) s3 Zx.rf ta2
          have p4 := X4 _ _ p2
          have r4 := r3.sm W3 p2 (by decide) s4 x4 h03
          have hne : p ≠ d3.length := by have := s3.1; have := s2.1; have := s1.1; omega
          have p5 := x5 p 12 p4 hne
          have r5 := r4.sm W4 p4 (by decide) s5 x5 t4
          have r6 := r5.sm W5 p5 (by decide) s6 Zx.rf tb5
          exact ⟨p5, hne, r6.fr f7 p5 (by decide)⟩
        have R7 : Zro G5 d7 d3.length 0 0 cl5 od5 ot5 := (R5.sm W5 t5 (by decide) s6 Zx.rf tb5).fr f7 t5 (by decide)
        have T5 : G5[c9.length]? = some 3 := x5 _ _ (X4 _ _ t2) (by have := s3.1; have := s2.1; have := (List.getElem?_eq_some_iff.mp k1).1; omega)
        have P7 : ∀ p, G9[p]? = some 3 → G5[p]? = some 3 := fun p hp => by
          have hpl := wt_lt W9 hp
          exact x5 _ _ (X4 _ _ (x2 p 3 (X1 _ _ hp) (by omega))) (by have := s3.1; have := s2.1; have := s1.1; omega)
        refine lInl ⟨rfl, ⟨by dsimp only; omega, by dsimp only; omega⟩, ⟨by dsimp only; omega, by dsimp only; omega⟩, G5, _, _, W7, XX, A7, B7, fun i hi => ?_, fun i hi => ?_, fun i j hi hj hij => ?_, fun k hk k1 k2 k3 => ?_, by dsimp only; omega⟩ (by dsimp only; omega)
        · dsimp only at hi
          by_cases hq : i = x1.toNatClampNeg
          · subst hq
            exact ⟨c9.length, by simp [va_up], T5⟩
          · obtain ⟨p, g1, g2⟩ := P9 i (by rw [i_tn] at hq; omega)
            exact ⟨p, by simp [va_up, hq, g1], P7 p g2⟩
        · dsimp only at hi
          by_cases hq : i = x1.toNatClampNeg
          · subst hq
            exact ⟨d3.length, by simp [va_up], t5, cl5, od5, ot5, R7⟩
          · obtain ⟨p, g1, g2, cl, od, ot, g3⟩ := R9 i (by rw [i_tn] at hq; omega)
            obtain ⟨q1, _, q3⟩ := tr p cl od ot g2 g3
            exact ⟨p, by simp [va_up, hq, g1], q1, cl, od, ot, q3⟩
        · dsimp only at hi hj
          by_cases hq : i = x1.toNatClampNeg
          · have hq2 : j ≠ x1.toNatClampNeg := fun z => hij (by rw [hq, z])
            obtain ⟨p, g1, g2, cl, od, ot, g3⟩ := R9 j (by rw [i_tn] at hq2; omega)
            have := (tr p cl od ot g2 g3).2.1
            simp only [va_up, hq, hq2, if_true, if_false, g1]
            intro z
            simp at z
            exact this z.symm
          · by_cases hq2 : j = x1.toNatClampNeg
            · obtain ⟨p, g1, g2, cl, od, ot, g3⟩ := R9 i (by rw [i_tn] at hq; omega)
              have := (tr p cl od ot g2 g3).2.1
              simp only [va_up, hq, hq2, if_true, if_false, g1]
              intro z
              simp at z
              exact this z
            · have := D9 i j (by rw [i_tn] at hq; omega) (by rw [i_tn] at hq2; omega) hij
              simp only [va_up, hq, hq2, if_false]
              exact this
        · have h9 : c.length ≤ c9.length := by omega
          dsimp only
          have b1 := s1.1
          have b2 := s2.1
          have b3 := s3.1
          have b4 := s4.1
          have b5 := s5.1
          rw [s7 k k3, s6.2 k (by omega) k2, s5.2 k (by omega) (by omega)]
          by_cases ka : k = a0
          · subst ka
            rw [hc4, ← hc]
          · rw [s4.2 k (by omega) ka, s3.2 k (by omega) k1, s2.2 k (by omega) (by omega), s1.2 k (by omega) ka]
            exact S9 k hk k1 k2 k3
    · exact ⟨rfl, ⟨by dsimp only; omega, by dsimp only; omega⟩, ⟨by dsimp only; omega, by dsimp only; omega⟩, G, f, g, W, fun _ _ h => h, ha, hb, fun i hi => by dsimp only at hi; omega, fun i hi => by dsimp only at hi; omega, fun i j hi => by dsimp only at hi; omega, fun _ _ _ _ _ => rfl, by dsimp only; omega⟩
    · dsimp only; omega
  obtain ⟨⟨kk, nn, q⟩, eb, hb⟩ := L
  dsimp only at hb
  obtain ⟨rfl, rfl, hb⟩ := hb
  exact ⟨q, eb, hb⟩
end ZzT
