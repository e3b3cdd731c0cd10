section ZzT
/-- the two graphs agree on arcs -/
def GAr (c : Zc) (g m : Nat) : Prop := gfi c g 8 = vfi c m 8 ∧ ∀ k : Nat, k < 100 → ((gaf c g 4 k).toInt = -1 ↔ (vaf c m 3 k).toInt = 0) ∧ ((vaf c m 3 k).toInt ≠ 0 → (gaf c g 2 k).toInt = (vaf c m 4 k).toInt ∧ (gaf c g 3 k).toInt = (vaf c m 5 k).toInt)
def GSa (c q : Zc) (g : Nat) : Prop := gfi q g 8 = gfi c g 8 ∧ gaf q g 2 = gaf c g 2 ∧ gaf q g 3 = gaf c g 3 ∧ gaf q g 4 = gaf c g 4
def GSb (c q : Zc) (m : Nat) : Prop := vfi q m 8 = vfi c m 8 ∧ vaf q m 3 = vaf c m 3 ∧ vaf q m 4 = vaf c m 4 ∧ vaf q m 5 = vaf c m 5
theorem hct_cg {h h' : Nat → Bool} : ∀ {n : Nat}, (∀ i, i < n → h i = h' i) → hct h n = hct h' n := by
  intro n
  induction n with
  | zero => intro _; rfl
  | succ n ih => intro e; rw [hct_s, hct_s, ih (fun i hi => e i (by omega)), e n (by omega)]
section
variable {G : List Nat} {M : List (Nat × Nat)} {c q q' : Zc} {g m : Nat} {ac a1 a2 a3 r r' y : Int32}
theorem GSa_fr (F : Zfr G M c q) (t : G[g]? = some 1) (W : Zwt zty G c) (hM : ∀ x ∈ ([(1, 8), (1, 2), (1, 3), (1, 4), (17, 0), (18, 0), (19, 0)] : List (Nat × Nat)), x ∉ M) : GSa c q g := ⟨gfi_fr F t (hM _ (by decide)), gaf_fr F t (gf_1_2 W t) (hM _ (by decide)) (hM _ (by decide)), gaf_fr F t (gf_1_3 W t) (hM _ (by decide)) (hM _ (by decide)), gaf_fr F t (gf_1_4 W t) (hM _ (by decide)) (hM _ (by decide))⟩
theorem GSb_fr (F : Zfr G M c q) (t : G[m]? = some 64) (W : Zwt zty G c) (hM : ∀ x ∈ ([(64, 8), (64, 3), (64, 4), (64, 5), (67, 0), (68, 0), (69, 0)] : List (Nat × Nat)), x ∉ M) : GSb c q m := ⟨vfi_fr F t (hM _ (by decide)), vaf_fr F t (gf_64_3 W t) (hM _ (by decide)) (hM _ (by decide)), vaf_fr F t (gf_64_4 W t) (hM _ (by decide)) (hM _ (by decide)), vaf_fr F t (gf_64_5 W t) (hM _ (by decide)) (hM _ (by decide))⟩
theorem GAr_s (h : GAr c g m) (s : GSa c q g) (t : GSb c q m) : GAr q g m := by
  unfold GAr
  rw [s.1, s.2.1, s.2.2.1, s.2.2.2, t.1, t.2.1, t.2.2.1, t.2.2.2]
  exact h
theorem GAr_drop (h : GAr c g m) (s1 : (¬ (0 ≤ a1.toInt ∧ a1.toInt < 100 ∧ ¬ (gaf c g 4 a1.toInt.toNat).toInt = -1) ∧ r.toInt = -1 ∧ gaf q g 4 = gaf c g 4 ∧ gfi q g 8 = ac.toInt) ∨ ((0 ≤ a1.toInt ∧ a1.toInt < 100 ∧ ¬ (gaf c g 4 a1.toInt.toNat).toInt = -1) ∧ r.toInt = ac.toInt - 1 ∧ gaf q g 4 = upd (gaf c g 4) a1.toInt.toNat (-1) ∧ gfi q g 8 = ac.toInt - 1)) (k2 : gaf q g 2 = gaf c g 2) (k3 : gaf q g 3 = gaf c g 3) (t : GSb c q m) (s2 : (¬ (0 ≤ a1.toInt ∧ a1.toInt < 100 ∧ ¬ (vaf q m 3 a1.toInt.toNat).toInt = 0) ∧ r'.toInt = -1 ∧ vaf q' m 3 = vaf q m 3 ∧ vfi q' m 8 = ac.toInt) ∨ ((0 ≤ a1.toInt ∧ a1.toInt < 100 ∧ ¬ (vaf q m 3 a1.toInt.toNat).toInt = 0) ∧ r'.toInt = ac.toInt - 1 ∧ vaf q' m 3 = upd (vaf q m 3) a1.toInt.toNat y ∧ vfi q' m 8 = ac.toInt - 1)) (hy : y.toInt = 0) (j4 : vaf q' m 4 = vaf q m 4) (j5 : vaf q' m 5 = vaf q m 5) (s : GSa q q' g) : GAr q' g m ∧ r.toInt = r'.toInt := by
  obtain ⟨b0, b⟩ := h
  obtain ⟨t0, t3, t4, t5⟩ := t
  have ln : (-1 : Int32).toInt = -1 := by decide
  unfold GAr
  rw [s.1, s.2.1, s.2.2.1, s.2.2.2, k2, k3, j4, j5, t4, t5]
  rw [t3] at s2
  rcases s1 with ⟨y1, y2, y3, y4⟩ | ⟨y1, y2, y3, y4⟩ <;> rcases s2 with ⟨z1, z2, z3, z4⟩ | ⟨z1, z2, z3, z4⟩
  · rw [y3, z3, y4, z4]; exact ⟨⟨rfl, b⟩, by omega⟩
  · exact absurd (by have := (b a1.toInt.toNat (by omega)).1; omega) y1
  · exact absurd (by have := (b a1.toInt.toNat (by omega)).1; omega) z1
  · rw [y3, z3, y4, z4]
    refine ⟨⟨rfl, fun k hk => ?_⟩, by omega⟩
    by_cases e : k = a1.toInt.toNat
    · subst e; rw [upd_s, upd_s, ln, hy]; simp
    · rw [upd_n e, upd_n e]; exact b k hk
theorem GAr_bare {V : Prop} (h : GAr c g m) (s1 : (¬ V ∧ r.toInt = -1 ∧ gaf q g 4 = gaf c g 4 ∧ gfi q g 8 = ac.toInt) ∨ (V ∧ StG q g (gaf c g 4) (gaf c g 2) (gaf c g 3) a1 r 100 ∧ gfi q g 8 = ac.toInt - r.toInt)) (k2 : gaf q g 2 = gaf c g 2) (k3 : gaf q g 3 = gaf c g 3) (t : GSb c q m) (s2 : (¬ V ∧ r'.toInt = -1 ∧ vaf q' m 3 = vaf q m 3 ∧ vfi q' m 8 = ac.toInt) ∨ (V ∧ StM q' m (vaf q m 3) (vaf q m 4) (vaf q m 5) a1 r' 100 ∧ vfi q' m 8 = ac.toInt - r'.toInt)) (j4 : vaf q' m 4 = vaf q m 4) (j5 : vaf q' m 5 = vaf q m 5) (s : GSa q q' g) : GAr q' g m ∧ r.toInt = r'.toInt := by
  obtain ⟨b0, b⟩ := h
  obtain ⟨t0, t3, t4, t5⟩ := t
  have l100 : (100 : Int32).toInt.toNat = 100 := by decide
  unfold GAr
  rw [s.1, s.2.1, s.2.2.1, s.2.2.2, k2, k3, j4, j5, t4, t5]
  rw [t3, t4, t5] at s2
  rcases s1 with ⟨y1, y2, y3, y4⟩ | ⟨y1, y2, y3⟩ <;> rcases s2 with ⟨z1, z2, z3, z4⟩ | ⟨z1, z2, z3⟩
  · rw [y3, z3, y4, z4]; exact ⟨⟨rfl, b⟩, by omega⟩
  · exact absurd z1 y1
  · exact absurd y1 z1
  · obtain ⟨p1, p2⟩ := y2
    obtain ⟨q1, q2⟩ := z2
    have hh : ∀ i, i < 100 → htb (gaf c g 4) (gaf c g 2) (gaf c g 3) (-1) a1 i = htb (vaf c m 3) (vaf c m 4) (vaf c m 5) 0 a1 i := by
      intro i hi
      have := b i hi
      unfold htb
      apply decide_eq_decide.mpr
      by_cases e : (vaf c m 3 i).toInt = 0
      · omega
      · have h2 := this.2 e
        omega
    rw [l100] at p1 p2 q1 q2
    have hr : r.toInt = r'.toInt := by rw [p2, q2, hct_cg hh]
    refine ⟨⟨by omega, fun k hk => ?_⟩, hr⟩
    rw [p1 k, q1 k, hh k hk]
    by_cases e : htb (vaf c m 3) (vaf c m 4) (vaf c m 5) 0 a1 k = true
    · rw [if_pos ⟨hk, e⟩, if_pos ⟨hk, e⟩]; simp
    · rw [if_neg (fun z => e z.2), if_neg (fun z => e z.2)]; exact b k hk
theorem GAr_arc {V : Prop} (h : GAr c g m) (hac : gfi c g 8 = ac.toInt) (hcn : AcN c m ac) (ha3 : V → 0 ≤ a3.toInt) (s1 : (¬ V ∧ r.toInt = -1 ∧ gaf q g 4 = gaf c g 4 ∧ gaf q g 2 = gaf c g 2 ∧ gaf q g 3 = gaf c g 3 ∧ gfi q g 8 = ac.toInt) ∨ (V ∧ AdS (gaf c g 4) (gaf q g 4) (gaf c g 2) (gaf q g 2) (gaf c g 3) (gaf q g 3) (-1) a1 a2 a3 r ac.toInt (gfi q g 8))) (t : GSb c q m) (s2 : (¬ V ∧ r'.toInt = -1 ∧ vaf q' m 3 = vaf q m 3 ∧ vaf q' m 4 = vaf q m 4 ∧ vaf q' m 5 = vaf q m 5 ∧ vfi q' m 8 = ac.toInt) ∨ (V ∧ 0 ≤ ac.toInt ∧ ((ac.toInt = 100 ∧ r'.toInt = -3 ∧ vaf q' m 3 = vaf q m 3 ∧ vaf q' m 4 = vaf q m 4 ∧ vaf q' m 5 = vaf q m 5 ∧ vfi q' m 8 = ac.toInt) ∨ ∃ k : Nat, k < 100 ∧ (vaf q m 3 k).toInt = 0 ∧ (∀ i : Nat, i < k → (vaf q m 3 i).toInt ≠ 0) ∧ r'.toInt = k ∧ vaf q' m 3 = upd (vaf q m 3) k y ∧ vaf q' m 4 = upd (vaf q m 4) k a1 ∧ vaf q' m 5 = upd (vaf q m 5) k a2 ∧ vfi q' m 8 = ac.toInt + 1))) (hy : y.toInt = 1) (s : GSa q q' g) : GAr q' g m ∧ r.toInt = r'.toInt := by
  obtain ⟨b0, b⟩ := h
  obtain ⟨t0, t3, t4, t5⟩ := t
  unfold GAr
  rw [s.1, s.2.1, s.2.2.1, s.2.2.2]
  rw [t3, t4, t5] at s2
  rcases s1 with ⟨y1, y2, y3, y4, y5, y6⟩ | ⟨y1, y2⟩ <;> rcases s2 with ⟨z1, z2, z3, z4, z5, z6⟩ | ⟨z1, z0, z2⟩
  · rw [y3, y4, y5, y6, z3, z4, z5, z6]; exact ⟨⟨rfl, b⟩, by omega⟩
  · exact absurd z1 y1
  · exact absurd y1 z1
  · rcases y2 with ⟨w0, w1, w2, w3, w4, w5⟩ | ⟨k, w0, w1, w2, w3, w4, w5, w6, w7⟩ <;> rcases z2 with ⟨v0, v1, v2, v3, v4, v5⟩ | ⟨j, v0, v1, v2, v3, v4, v5, v6, v7⟩
    · rw [w2, w3, w4, w5, v2, v3, v4, v5]; exact ⟨⟨rfl, b⟩, by omega⟩
    · exact absurd ((b j v0).1.mpr v1) (w0 j v0)
    · have := cn_has (z := 0) (f := vaf c m 3) (n := 100) (i := k) w0 (z_eq ((b k w0).1.mp w1))
      unfold AcN at hcn
      omega
    · have hkj : k = j := by
        rcases Nat.lt_trichotomy k j with e | e | e
        · exact absurd ((b k w0).1.mp w1) (v2 k e)
        · exact e
        · exact absurd ((b j v0).1.mpr v1) (w2 j e)
      subst hkj
      rw [w4, w5, w6, w7, v4, v5, v6, v7]
      refine ⟨⟨rfl, fun i hi => ?_⟩, by omega⟩
      by_cases e : i = k
      · subst e
        rw [upd_s, upd_s, upd_s, upd_s, upd_s, upd_s]
        have := ha3 y1
        exact ⟨by omega, fun _ => ⟨rfl, rfl⟩⟩
      · rw [upd_n e, upd_n e, upd_n e, upd_n e, upd_n e, upd_n e]; exact b i hi
end
end ZzT
