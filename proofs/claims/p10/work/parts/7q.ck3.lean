section ZzT
theorem zar_c {c : Zc} {k t n : Nat} {f : Nat → Option Nat} {i : Int32} (h : c[k]? = some (.inl (t, n, .inr (.inr (.inr (.inr f)))))) (h0 : 0 ≤ i.toInt) (h1 : i.toInt < n) : zar c k t i = f i.toInt.toNat := by
  unfold zar; rw [h]; exact if_pos ⟨rfl, i_ix h0 h1⟩
theorem Zro.mv {G G' : List Nat} {c c' : Zc} {k T : Nat} {r w : Int32} {cl od ot : Nat} (R : Zro G c k r w cl od ot) (hk : G[k]? = some T) (h10 : 10 ≤ T) (h58 : T ≤ 58) (g : ∀ j U : Nat, G[j]? = some U → 10 ≤ U → U ≤ 58 → c'[j]? = c[j]?) (x : ∀ j U : Nat, G[j]? = some U → 10 ≤ U → U ≤ 58 → G'[j]? = some U) : Zro G' c' k r w cl od ot := by
  obtain ⟨⟨e0, e1, e2, e3, e4⟩, ⟨t1, t2, t3⟩, b, b5, b6, b7⟩ := R
  have gk := g k T hk h10 h58
  have g1 := g cl 57 t1 (by omega) (by omega)
  have g2 := g od 58 t2 (by omega) (by omega)
  have g3 := g ot 58 t3 (by omega) (by omega)
  refine ⟨⟨?_, ?_, ?_, ?_, ?_⟩, ⟨x _ _ t1 (by omega) (by omega), x _ _ t2 (by omega) (by omega), x _ _ t3 (by omega) (by omega)⟩, b, ?_, ?_, b7⟩
  · rw [← e0]; unfold zgi zgv; rw [gk]
  · rw [← e1]; unfold zgi zgv; rw [gk]
  · rw [← e2]; unfold zgr zgv; rw [gk]
  · rw [← e3]; unfold zgr zgv; rw [gk]
  · rw [← e4]; unfold zgr zgv; rw [gk]
  · unfold zln zrr at b5 ⊢; rw [g1]; exact b5
  · unfold zln zrr at b6 ⊢; rw [g2, g3]; exact b6
/-- the class's own world: its rows -/
def PQw (G : List Nat) (c : Zc) (a0 : Nat) : Prop := ∃ (co rp fp ar : Nat) (pp : Nat → Nat), (zgr c a0 11 6 = some co ∧ G[co]? = some 13 ∧ zgr c co 10 1 = some rp ∧ G[rp]? = some 10 ∧ zgr c co 10 2 = some fp ∧ G[fp]? = some 11 ∧ zgr c a0 11 8 = some ar ∧ G[ar]? = some 61) ∧ (∃ r w cl od ot, Zro G c rp r w cl od ot) ∧ (∃ r w cl od ot, Zro G c fp r w cl od ot) ∧ (∀ i : Int32, 0 ≤ i.toInt → i.toInt < 4 → zar c ar 5 i = some (pp i.toInt.toNat)) ∧ (∀ i : Nat, i < 4 → G[pp i]? = some 12 ∧ ∃ r w cl od ot, Zro G c (pp i) r w cl od ot) ∧ ∀ i j : Nat, i < 4 → j < 4 → i ≠ j → pp i ≠ pp j
set_option maxHeartbeats 1000000 in
theorem k_PQ_end {G Gq : List Nat} {c q : Zc} {a0 k0 k1 k2 k3 k4 k5 co qa an aw rp fp cl od ot cm om on : Nat} {fq gq : Nat → Option Nat} {r w r' w' : Int32} (W : Zwt zty G c) (h0 : G[a0]? = some 0) (hc : c[a0]? = some (.inr (11, [.ref k0, .ref k1, .ref k2, .ref k3, .ref k4, .ref k5, .ref co, .ref qa, .ref an, .ref aw, .int 0])))
    (t0 : G[k0]? = some 42) (t1 : G[k1]? = some 1) (t2 : G[k2]? = some 3) (t3 : G[k3]? = some 6) (t4 : G[k4]? = some 8) (t5 : G[k5]? = some 9) (tc : G[co]? = some 13) (ta : G[qa]? = some 0) (tb : G[an]? = some 0) (tt : G[aw]? = some 62) (hna : a0 ≠ qa) (hnb : a0 ≠ an) (hab : qa ≠ an)
    (tr : G[rp]? = some 10) (tf : G[fp]? = some 11) (R : Zro G c rp r w cl od ot) (S : Zro G c fp r' w' cm om on) (er : zgr c co 10 1 = some rp) (ef : zgr c co 10 2 = some fp)
    (Wq : Zwt zty Gq q) (Xq : ∀ k T : Nat, G[k]? = some T → Gq[k]? = some T) (Aq : q[qa]? = some (.inl (4, 4, .inr (.inr (.inr (.inr fq)))))) (Bq : q[an]? = some (.inl (5, 4, .inr (.inr (.inr (.inr gq)))))) (Pq : ∀ i, i < 4 → ∃ p, fq i = some p ∧ Gq[p]? = some 3) (Rq : ∀ i, i < 4 → ∃ p, gq i = some p ∧ Gq[p]? = some 12 ∧ ∃ cl od ot, Zro Gq q p 0 0 cl od ot) (Dq : ∀ i j, i < 4 → j < 4 → i ≠ j → gq i ≠ gq j) (Sq : ∀ k, k < c.length → k ≠ qa → k ≠ an → k ≠ aw → q[k]? = c[k]?) :
    ∃ G', Zwt zty G' q ∧ (∀ k T : Nat, G[k]? = some T → k ≠ a0 → k ≠ qa → k ≠ an → G'[k]? = some T) ∧ G'[a0]? = some 14 ∧ PQw G' q a0 ∧ zgi q a0 11 10 = some 0 ∧ q[a0]? = c[a0]? := by
  have hnt : a0 ≠ aw := Ne.symm (pl_ne tt h0 (by decide))
  have hl0 := (List.getElem?_eq_some_iff.mp hc).1
  have tA := Xq _ _ ta
  obtain ⟨Wa, ta9, xa⟩ := wt_sealA (T := 60) Wq tA Aq ⟨fq, rfl, fun i hi => (Pq i hi).elim fun p hp => ⟨p, 3, hp.1, set_get tA hp.2 (by decide), by decide⟩⟩
  have tB := xa an 0 (Xq _ _ tb) (Ne.symm hab)
  obtain ⟨Wb, tb9, xb⟩ := wt_sealA (T := 61) Wa tB Bq ⟨gq, rfl, fun i hi => (Rq i hi).elim fun p hp => ⟨p, 12, hp.1, set_get tB (set_get tA hp.2.1 (by decide)) (by decide), by decide⟩⟩
  have h0b := xb a0 0 (xa a0 0 (Xq _ _ h0) hna) hnb
  have hcq := (Sq a0 hl0 hna hnb hnt).trans hc
  have gt : ∀ {k T : Nat}, Gq[k]? = some T → T ≠ 0 → ((Gq.set qa 60).set an 61)[k]? = some T := fun h hT => set_get tB (set_get tA h hT) hT
  have gu : ∀ {k T : Nat}, Gq[k]? = some T → T ≠ 0 → (((Gq.set qa 60).set an 61).set a0 14)[k]? = some T := fun h hT => set_get h0b (gt h hT) hT
  obtain ⟨Wz, tz, xz⟩ := wt_seal (T := 14) Wb h0b hcq rfl (Zvs.cons (Zcv.mr (T := 42) (gu (Xq _ _ t0) (by decide)) (by decide)) (Zvs.cons (Zcv.mr (T := 1) (gu (Xq _ _ t1) (by decide)) (by decide)) (Zvs.cons (Zcv.mr (T := 3) (gu (Xq _ _ t2) (by decide)) (by decide)) (Zvs.cons (Zcv.mr (T := 6) (gu (Xq _ _ t3) (by decide)) (by decide)) (Zvs.cons (Zcv.mr (T := 8) (gu (Xq _ _ t4) (by decide)) (by decide)) (Zvs.cons (Zcv.mr (T := 9) (gu (Xq _ _ t5) (by decide)) (by decide)) (Zvs.cons (Zcv.mr (T := 13) (gu (Xq _ _ tc) (by decide)) (by decide)) (Zvs.cons (Zcv.mr (T := 60) (set_get h0b (xb qa 60 ta9 hab) (by decide)) (by decide)) (Zvs.cons (Zcv.mr (T := 61) (set_get h0b tb9 (by decide)) (by decide)) (Zvs.cons (Zcv.mr (T := 62) (gu (Xq _ _ tt) (by decide)) (by decide)) (Zvs.cons (Zcv.mi (rgi (by decide) (by decide))) Zvs.nil)))))))))))
  have cell : ∀ j U : Nat, G[j]? = some U → 10 ≤ U → U ≤ 58 → q[j]? = c[j]? := fun j U h a b => Sq j (wt_lt W h) (pl_ne h ta (by omega)) (pl_ne h tb (by omega)) (pl_ne h tt (by omega))
  refine ⟨_, Wz, fun k T h a b d => xz k T (xb k T (xa k T (Xq k T h) b) d) a, tz, ?_, raw_i hcq (j := 10) rfl, Sq a0 hl0 hna hnb hnt⟩
  have gc := cell co 13 tc (by omega) (by omega)
  refine ⟨co, rp, fp, an, fun i => (gq i).getD 0, ⟨raw_g hcq (j := 6) rfl, gu (Xq _ _ tc) (by decide), by rw [← er]; unfold zgr zgv; rw [gc], gu (Xq _ _ tr) (by decide), by rw [← ef]; unfold zgr zgv; rw [gc], gu (Xq _ _ tf) (by decide), raw_g hcq (j := 8) rfl, set_get h0b tb9 (by decide)⟩, ⟨_, _, _, _, _, R.mv tr (by omega) (by omega) cell (fun j U h a b => gu (Xq _ _ h) (by omega))⟩, ⟨_, _, _, _, _, S.mv tf (by omega) (by omega) cell (fun j U h a b => gu (Xq _ _ h) (by omega))⟩, fun i i0 i4 => ?_, fun i hi => ?_, fun i j hi hj hij => ?_⟩
  · rw [zar_c Bq i0 (by omega)]
    obtain ⟨p, hp, _⟩ := Rq i.toInt.toNat (by omega)
    dsimp only
    rw [hp]; rfl
  · obtain ⟨p, hp, tp, cl, od, ot, RR⟩ := Rq i hi
    dsimp only
    rw [hp]
    exact ⟨gu tp (by decide), 0, 0, cl, od, ot, RR.mv tp (by omega) (by omega) (fun _ _ _ _ _ => rfl) (fun j U h a b => gu h (by omega))⟩
  · obtain ⟨p, hp, _⟩ := Rq i hi
    obtain ⟨p', hp', _⟩ := Rq j hj
    have := Dq i j hi hj hij
    dsimp only
    rw [hp, hp'] at this ⊢
    intro z
    exact this (by rw [show p = p' from z])
end ZzT
