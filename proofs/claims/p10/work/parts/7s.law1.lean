section ZzT
def s4 (f : Nat → Nat) : Nat := f 0 + f 1 + f 2 + f 3
/-- the class's rows, with what has been made so far -/
def PQk (G : List Nat) (c : Zc) (a0 kk nn : Nat) : Prop := ∃ (co rp fp ar : Nat) (pp : Nat → Nat) (r w : Int32) (cl od ot : Nat) (rf wf : Int32) (clf odf otf : Nat) (ra wa : Nat → Int32) (ca oa ta : Nat → Nat), (zgr c a0 11 6 = some co ∧ G[co]? = some 13 ∧ zgr c co 10 1 = some rp ∧ G[rp]? = some 10 ∧ zgr c co 10 2 = some fp ∧ G[fp]? = some 11 ∧ zgr c a0 11 8 = some ar ∧ G[ar]? = some 61) ∧ Zro G c rp r w cl od ot ∧ Zro G c fp rf wf clf odf otf ∧ (∀ i : Int32, 0 ≤ i.toInt → i.toInt < 4 → zar c ar 5 i = some (pp i.toInt.toNat)) ∧ (∀ i : Nat, i < 4 → G[pp i]? = some 12 ∧ Zro G c (pp i) (ra i) (wa i) (ca i) (oa i) (ta i)) ∧ (∀ i j : Nat, i < 4 → j < 4 → i ≠ j → pp i ≠ pp j) ∧ kk ≤ 948 + (zlg (zln c cl) + 2 * zlg (zln c od)) + (zlg (zln c clf) + 2 * zlg (zln c odf)) + s4 (fun i => zlg (zln c (ca i))) ∧ nn ≤ 1081343 + (2 * zln c cl + 4 * zln c od) + (2 * zln c clf + 4 * zln c odf) + s4 (fun i => 2 * zln c (ca i))
theorem PQk_of {G : List Nat} {c : Zc} {a0 : Nat} (h : PQw G c a0) : PQk G c a0 948 1081343 := by
  obtain ⟨co, rp, fp, ar, pp, hf, ⟨r, w, cl, od, ot, R⟩, ⟨rf, wf, clf, odf, otf, S⟩, h1, h2, h3⟩ := h
  have hc : ∀ i : Nat, ∃ t : Int32 × Int32 × Nat × Nat × Nat, i < 4 → Zro G c (pp i) t.1 t.2.1 t.2.2.1 t.2.2.2.1 t.2.2.2.2 := by
    intro i
    by_cases hi : i < 4
    · obtain ⟨_, a, b, d, e, g, z⟩ := h2 i hi
      exact ⟨(a, b, d, e, g), fun _ => z⟩
    · exact ⟨(0, 0, 0, 0, 0), fun z => absurd z hi⟩
  obtain ⟨F, hF⟩ := Classical.axiomOfChoice hc
  exact ⟨co, rp, fp, ar, pp, r, w, cl, od, ot, rf, wf, clf, odf, otf, fun i => (F i).1, fun i => (F i).2.1, fun i => (F i).2.2.1, fun i => (F i).2.2.2.1, fun i => (F i).2.2.2.2, hf, R, S, h1, fun i hi => ⟨(h2 i hi).1, hF i hi⟩, h3, by omega, by omega⟩
theorem PQw_mv {G G' : List Nat} {c c' : Zc} {a0 : Nat} (h : PQw G c a0) (t : G[a0]? = some 14) (g : ∀ j U : Nat, G[j]? = some U → U ≠ 0 → c'[j]? = c[j]?) (x : ∀ j U : Nat, G[j]? = some U → U ≠ 0 → G'[j]? = some U) : PQw G' c' a0 := by
  obtain ⟨co, rp, fp, ar, pp, ⟨e1, t1, e2, t2, e3, t3, e4, t4⟩, ⟨r, w, cl, od, ot, R⟩, ⟨rf, wf, clf, odf, otf, S⟩, h1, h2, h3⟩ := h
  have ga := g a0 14 t (by decide)
  have gc := g co 13 t1 (by decide)
  have gr := g ar 61 t4 (by decide)
  refine ⟨co, rp, fp, ar, pp, ⟨?_, x _ _ t1 (by decide), ?_, x _ _ t2 (by decide), ?_, x _ _ t3 (by decide), ?_, x _ _ t4 (by decide)⟩, ⟨r, w, cl, od, ot, R.mv t2 (by omega) (by omega) (fun j U h a b => g j U h (by omega)) (fun j U h a b => x j U h (by omega))⟩, ⟨rf, wf, clf, odf, otf, S.mv t3 (by omega) (by omega) (fun j U h a b => g j U h (by omega)) (fun j U h a b => x j U h (by omega))⟩, fun i i0 i4 => ?_, fun i hi => ?_, h3⟩
  · rw [← e1]; unfold zgr zgv; rw [ga]
  · rw [← e2]; unfold zgr zgv; rw [gc]
  · rw [← e3]; unfold zgr zgv; rw [gc]
  · rw [← e4]; unfold zgr zgv; rw [ga]
  · rw [← h1 i i0 i4]; unfold zar; rw [gr]
  · obtain ⟨tp, a, b, d, e, f, z⟩ := h2 i hi
    exact ⟨x _ _ tp (by decide), a, b, d, e, f, z.mv tp (by omega) (by omega) (fun j U h a b => g j U h (by omega)) (fun j U h a b => x j U h (by omega))⟩
abbrev PQV : List (Nat × Nat) := [(14, 6), (14, 8), (13, 1), (13, 2), (61, 0), (10, 0), (10, 1), (10, 2), (10, 3), (10, 4), (11, 0), (11, 1), (11, 2), (11, 3), (11, 4), (12, 0), (12, 1), (12, 2), (12, 3), (12, 4)]
theorem PQk_fr {G : List Nat} {M : List (Nat × Nat)} {c c' : Zc} {a0 kk nn : Nat} (h : PQk G c a0 kk nn) (F : Zfr G M c c') (t : G[a0]? = some 14) (hM : ∀ x ∈ PQV, x ∉ M) : PQk G c' a0 kk nn := by
  obtain ⟨co, rp, fp, ar, pp, r, w, cl, od, ot, rf, wf, clf, odf, otf, ra, wa, ca, oa, ta, ⟨e1, t1, e2, t2, e3, t3, e4, t4⟩, R, S, h1, h2, h3, h4, h5⟩ := h
  have z1 := (F cl 57 R.2.1.1).2.2
  have z2 := (F od 58 R.2.1.2.1).2.2
  have z3 := (F clf 57 S.2.1.1).2.2
  have z4 := (F odf 58 S.2.1.2.1).2.2
  have z : ∀ i, i < 4 → zln c' (ca i) = zln c (ca i) := fun i hi => (F _ 57 (h2 i hi).2.2.1.1).2.2
  refine ⟨co, rp, fp, ar, pp, r, w, cl, od, ot, rf, wf, clf, odf, otf, ra, wa, ca, oa, ta, ⟨(Zfr.gr F t (hM _ (by decide))).trans e1, t1, (Zfr.gr F t1 (hM _ (by decide))).trans e2, t2, (Zfr.gr F t1 (hM _ (by decide))).trans e3, t3, (Zfr.gr F t (hM _ (by decide))).trans e4, t4⟩, R.fr F t2 ⟨hM _ (by decide), hM _ (by decide), hM _ (by decide), hM _ (by decide), hM _ (by decide)⟩, S.fr F t3 ⟨hM _ (by decide), hM _ (by decide), hM _ (by decide), hM _ (by decide), hM _ (by decide)⟩, fun i i0 i4 => (Zfr.ar F t4 (hM _ (by decide))).trans (h1 i i0 i4), fun i hi => ⟨(h2 i hi).1, (h2 i hi).2.fr F (h2 i hi).1 ⟨hM _ (by decide), hM _ (by decide), hM _ (by decide), hM _ (by decide), hM _ (by decide)⟩⟩, h3, ?_, ?_⟩
  · simp only [s4] at *
    rw [z1, z2, z3, z4, z 0 (by omega), z 1 (by omega), z 2 (by omega), z 3 (by omega)]; exact h4
  · simp only [s4] at *
    rw [z1, z2, z3, z4, z 0 (by omega), z 1 (by omega), z 2 (by omega), z 3 (by omega)]; exact h5
theorem zlg_l2 {n k : Nat} (h : n < 2 ^ k) : zlg n ≤ k := by
  unfold zlg
  split
  · omega
  · rename_i hn
    have := (Nat.log2_lt hn).mpr h
    omega
theorem zln_57 {G : List Nat} {c : Zc} {k : Nat} (W : Zwt zty G c) (h : G[k]? = some 57) : zln c k ≤ 320000 := by
  obtain ⟨e, h1, n, f, rfl, h2, _⟩ := W.2 k 57 h
  rw [raw_l h1]; exact h2.2
theorem zln_58 {G : List Nat} {c : Zc} {k : Nat} (W : Zwt zty G c) (h : G[k]? = some 58) : zln c k ≤ 40000 := by
  obtain ⟨e, h1, n, f, rfl, h2, _⟩ := W.2 k 58 h
  rw [raw_l h1]; exact h2
theorem PQk_bd {G : List Nat} {c : Zc} {a0 kk nn : Nat} (h : PQk G c a0 kk nn) (W : Zwt zty G c) : kk ≤ 600000 ∧ nn ≤ 7302249 := by
  obtain ⟨co, rp, fp, ar, pp, r, w, cl, od, ot, rf, wf, clf, odf, otf, ra, wa, ca, oa, ta, _, R, S, _, h2, _, h4, h5⟩ := h
  have a1 := zln_57 W R.2.1.1
  have a2 := zln_58 W R.2.1.2.1
  have a3 := zln_57 W S.2.1.1
  have a4 := zln_58 W S.2.1.2.1
  have a : ∀ i, i < 4 → zln c (ca i) ≤ 320000 := fun i hi => zln_57 W (h2 i hi).2.2.1.1
  have b0 := a 0 (by omega)
  have b1 := a 1 (by omega)
  have b2 := a 2 (by omega)
  have b3 := a 3 (by omega)
  have p : (2 : Nat) ^ 20 = 1048576 := by decide
  have g : ∀ n, n ≤ 320000 → zlg n ≤ 20 := fun n hn => zlg_l2 (by omega)
  have c1 := g _ a1
  have c2 := g (zln c od) (by omega)
  have c3 := g _ a3
  have c4 := g (zln c odf) (by omega)
  have d0 := g _ b0
  have d1 := g _ b1
  have d2 := g _ b2
  have d3 := g _ b3
  simp only [s4] at h4 h5
  omega
set_option maxHeartbeats 4000000 in
theorem PQk_ask {nf : Nat} (hn : 8589934592 ≤ nf) {G : List Nat} {c : Zc} {a0 kk nn : Nat} {a1 : Int32} (W : Zwt zty G c) (h0 : G[a0]? = some 14) (h : PQk G c a0 kk nn) : ∃ dk dn x q G', f_PQ_ask nf a0 a1 c = some (dk, dn, x, q) ∧ Zex G G' ∧ Zwt zty G' q ∧ PQk G' q a0 (kk + dk) (nn + dn) ∧ ∃ G1, Zwt zty G1 c ∧ (∀ k T : Nat, G[k]? = some T → T ≠ 12 → G1[k]? = some T) ∧ Zfr G1 MQu c q := by
  have l0 : (0 : Int32).toInt = 0 := by decide
  have l4 : (4 : Int32).toInt = 4 := by decide
  by_cases q1 : a1 < 0
  · exact ⟨0, 0, -1, c, G, by unfold f_PQ_ask f_PQ_ask_9; rw [if_pos q1], Zex.rf, W, h, G, W, fun _ _ h _ => h, Zfr.rf⟩
  by_cases q2 : a1 < 4
  case neg => exact ⟨0, 0, -1, c, G, by unfold f_PQ_ask f_PQ_ask_9; rw [if_neg q1, if_neg q2], Zex.rf, W, h, G, W, fun _ _ h _ => h, Zfr.rf⟩
  have q1 := i_nlt q1
  have q2 := i_lt q2
  obtain ⟨co, rp, fp, ar, pp, r, w, cl, od, ot, rf, wf, clf, odf, otf, ra, wa, ca, oa, ta, ⟨e1, t1, e2, t2, e3, t3, e4, t4⟩, R, S, h1, h2, h3, h4, h5⟩ := h
  have hi : a1.toInt.toNat < 4 := by omega
  have tp := (h2 _ hi).1
  have hlt := (List.getElem?_eq_some_iff.mp tp).1
  obtain ⟨dk, dn, x, q, G', eq, ex, Wq, Fq, r1, w1, cl1, od1, ot1, r2, w2, cl2, od2, ot2, r3, w3, cl3, R1, R2, R3, b1, b2, _⟩ := p_PQ_ask hn W h0 e1 t1 e2 t2 R e3 t3 S e4 t4 (h1 a1 (by omega) (by omega)) tp (h2 _ hi).2
  have W1 : Zwt zty (G.set (pp a1.toInt.toNat) 63) c := wt_re W tp rfl zcl_ab
  have g1 : ∀ {k T : Nat}, G[k]? = some T → T ≠ 12 → (G.set (pp a1.toInt.toNat) 63)[k]? = some T := fun h hT => re_get tp h hT
  have g2 : ∀ {k : Nat}, G[k]? = some 12 → k ≠ pp a1.toInt.toNat → (G.set (pp a1.toInt.toNat) 63)[k]? = some 12 := fun h hk => by rw [List.getElem?_set_ne (Ne.symm hk)]; exact h
  have zz : ∀ i, i < 4 → zln q (ca i) = zln c (ca i) := fun i hi => (Fq _ 57 (g1 (h2 i hi).2.2.1.1 (by decide))).2.2
  refine ⟨dk, dn, x, q, G', eq, ex, Wq, ?_, _, W1, fun k T h hT => g1 h hT, Fq⟩
  refine ⟨co, rp, fp, ar, pp, r1, w1, cl1, od1, ot1, r2, w2, cl2, od2, ot2, fun j => if j = a1.toInt.toNat then r3 else ra j, fun j => if j = a1.toInt.toNat then w3 else wa j, fun j => if j = a1.toInt.toNat then cl3 else ca j, oa, ta, ⟨(Zfr.gr Fq (g1 h0 (by decide)) (by decide)).trans e1, ex.get t1, (Zfr.gr Fq (g1 t1 (by decide)) (by decide)).trans e2, ex.get t2, (Zfr.gr Fq (g1 t1 (by decide)) (by decide)).trans e3, ex.get t3, (Zfr.gr Fq (g1 h0 (by decide)) (by decide)).trans e4, ex.get t4⟩, R1, R2, fun i i0 i4 => (Zfr.ar Fq (g1 t4 (by decide)) (by decide)).trans (h1 i i0 i4), fun j hj => ⟨ex.get (h2 j hj).1, ?_⟩, h3, ?_, ?_⟩
  · by_cases z : j = a1.toInt.toNat
    · subst z
      simp only [if_true]
      exact R3
    · simp only [if_neg z]
      have hne := h3 j _ hj hi z
      have tj := (h2 j hj).1
      have tj1 := g2 tj hne
      have Rj := ((h2 j hj).2.re tp).fr Fq tj1 (by decide)
      refine Rj.mv tj1 (by omega) (by omega) (fun _ _ _ _ _ => rfl) (fun k U hk a b => ?_)
      by_cases y : k = pp a1.toInt.toNat
      · subst y
        rw [List.getElem?_set_self hlt] at hk
        cases hk
        omega
      · rw [List.getElem?_set_ne (Ne.symm y)] at hk
        exact ex.get hk
  · simp only [s4] at *
    have y0 := zz 0 (by omega)
    have y1 := zz 1 (by omega)
    have y2 := zz 2 (by omega)
    have y3 := zz 3 (by omega)
    rcases (by omega : a1.toInt.toNat = 0 ∨ a1.toInt.toNat = 1 ∨ a1.toInt.toNat = 2 ∨ a1.toInt.toNat = 3) with z | z | z | z <;> rw [z] at b1 ⊢ <;> (try simp only [if_true, if_false, Nat.reduceEqDiff, reduceIte]) <;> (try rw [y0]) <;> (try rw [y1]) <;> (try rw [y2]) <;> (try rw [y3]) <;> omega
  · simp only [s4] at *
    have y0 := zz 0 (by omega)
    have y1 := zz 1 (by omega)
    have y2 := zz 2 (by omega)
    have y3 := zz 3 (by omega)
    rcases (by omega : a1.toInt.toNat = 0 ∨ a1.toInt.toNat = 1 ∨ a1.toInt.toNat = 2 ∨ a1.toInt.toNat = 3) with z | z | z | z <;> rw [z] at b2 ⊢ <;> (try simp only [if_true, if_false, Nat.reduceEqDiff, reduceIte]) <;> (try rw [y0]) <;> (try rw [y1]) <;> (try rw [y2]) <;> (try rw [y3]) <;> omega
end ZzT
