section ZzT
theorem i_ni {x : Int32} (h : 0 ≤ x.toInt) : ((x.toNatClampNeg : Nat) : Int) = x.toInt := by
  rw [i_tn]; omega
theorem zdim_ok {x : Int32} (h0 : 0 ≤ x.toInt) (h1 : x.toInt ≤ 60000000) : zdim x = some x.toNatClampNeg := by
  have l0 : (0 : Int32).toInt = 0 := by decide
  have := i_ni h0
  exact if_pos ⟨fun q => by have := i_lt q; omega, by omega⟩
section
variable {nf T : Nat} {G : List Nat} {c : Zc} {a0 cl od ot : Nat} {r w : Int32}
theorem p_copyOf (W : Zwt zty G c) (h0 : G[a0]? = some 57) {a1 : Int32} (h1 : (zln c a0 : Int) < a1.toInt) (h2 : a1.toInt ≤ 320000) : ∃ q, f_Arrays_copyOf nf a0 a1 c = some (1, a1.toNatClampNeg, c.length, q) ∧ Zwt zty (G ++ [57]) q ∧ Zfr G [] c q ∧ zln q c.length = a1.toNatClampNeg ∧ (G ++ [57])[c.length]? = some 57 := by
  have l0 : (0 : Int32).toInt = 0 := by decide
  obtain ⟨N1, el⟩ := wt_dl W h0 (t := 0) (N := fun n => 64 ≤ n ∧ n ≤ 320000) (P := an) rfl
  have hlt := wt_lt W h0
  have hn := i_ofn (n := zln c a0) (by omega)
  have hN := i_ni (x := a1) (by omega)
  have hG : (G ++ [57])[c.length]? = some 57 := by
    rw [← W.1, List.getElem?_append_right (Nat.le_refl _), Nat.sub_self]; rfl
  have hW3 : Zwt zty (G ++ [57]) (c ++ [.inl (0, a1.toNatClampNeg, .inl (fun _ => 0))]) := wt_new W ⟨a1.toNatClampNeg, fun _ => 0, rfl, ⟨by omega, by omega⟩, fun _ _ => trivial⟩
  generalize hc3 : c ++ [(.inl (0, a1.toNatClampNeg, .inl (fun _ => 0)) : va_E)] = c3 at hW3
  have g1 : c3[a0]? = c[a0]? := by rw [← hc3, List.getElem?_append_left hlt]
  have g2 : c3[c.length]? = some (.inl (0, a1.toNatClampNeg, .inl (fun _ => 0))) := by
    rw [← hc3, List.getElem?_append_right (Nat.le_refl _), Nat.sub_self]; rfl
  obtain ⟨e, he, hc⟩ := W.2 a0 57 h0
  obtain ⟨n, f, rfl, hn1, hn2⟩ := hc
  have hz : zln c a0 = n := by unfold zln zrr; rw [he]
  rw [hz] at hn h1 el
  have el3 : zlen c3 a0 0 = some (Int32.ofNat n) := by
    unfold zlen; rw [g1, he]; exact if_pos rfl
  obtain ⟨m, em, hm⟩ := m_min (nf := nf) (c := c3) (a := Int32.ofNat n) (b := a1)
  have hm : m = Int32.ofNat n := by
    rcases hm with ⟨h, _⟩ | ⟨_, h⟩
    · exact h
    · omega
  subst hm
  have hcp : zcp c3 a0 0 c.length 0 (Int32.ofNat n) = some (c3.set c.length (.inl (0, a1.toNatClampNeg, .inl (va_cpy f (fun _ => 0) (0 : Int32).toNatClampNeg (0 : Int32).toNatClampNeg (Int32.ofNat n).toNatClampNeg)))) := by
    have z0 : (0 : Int32).toNatClampNeg = 0 := by decide
    have zn : (Int32.ofNat n).toNatClampNeg = n := by rw [i_tn, hn]; rfl
    unfold zcp
    rw [g1, he, g2]
    refine if_pos ⟨rfl, rfl, by decide, by decide, fun q => ?_, by rw [z0, zn]; omega, by rw [z0, zn]; omega⟩
    have := i_lt q
    omega
  generalize va_cpy f (fun _ => 0) (0 : Int32).toNatClampNeg (0 : Int32).toNatClampNeg (Int32.ofNat n).toNatClampNeg = g at hcp
  refine ⟨c3.set c.length (.inl (0, a1.toNatClampNeg, .inl g)), ?_, wt_set hW3 hG ⟨a1.toNatClampNeg, g, rfl, ⟨by omega, by omega⟩, fun _ _ => trivial⟩, ?_, ?_, hG⟩
  · unfold f_Arrays_copyOf
    rw [el]
    simp only [Option.bind_some]
    rw [if_neg (fun q => by have := i_eq q; omega), zdim_ok (by omega) (by omega)]
    simp only [Option.bind_some]
    unfold znw
    simp only [Option.bind_some]
    rw [hc3]
    unfold f_Arrays_copyOf_17
    rw [el3]
    simp only [Option.bind_some]
    rw [em]
    simp only [Option.bind_some]
    rw [hcp]
    simp
  · intro k U hk
    have hk2 := wt_lt W hk
    have h9 : ∀ e', (c3.set c.length e')[k]? = c[k]? := fun e' => by
      rw [List.getElem?_set_ne (by omega), ← hc3, List.getElem?_append_left hk2]
    refine ⟨fun ci j _ => ?_, fun _ => ?_, ?_⟩
    · unfold zgv; rw [h9]
    · unfold zrr; rw [h9]
    · unfold zln zrr; rw [h9]
  · unfold zln zrr
    rw [List.getElem?_set_self (by rw [← hc3]; simp)]
theorem p_Rows_reserve (hT : zty T = kOb 9 rwF) (hT2 : T ≠ 57 ∧ T ≠ 58) (W : Zwt zty G c) (h0 : G[a0]? = some T) (R : Zro G c a0 r w cl od ot) {a1 : Int32} (h1 : 0 ≤ a1.toInt) (h2 : a1.toInt ≤ 20000) : ∃ kk nn q G' cl', f_Rows_reserve nf a0 a1 c = some (kk, nn, q) ∧ Zex G G' ∧ Zwt zty G' q ∧ Zfr G [(T, 2)] c q ∧ Zro G' q a0 r w cl' od ot ∧ a1.toInt * w.toInt ≤ zln q cl' ∧ kk + zlg (zln c cl) ≤ zlg (zln q cl') ∧ nn + 2 * zln c cl ≤ 2 * zln q cl' ∧ zln q od = zln c od := by
  have R' := R
  obtain ⟨⟨e0, e1, e2, e3, e4⟩, ⟨t1, t2, t3⟩, b, b5, b6, b7⟩ := R
  obtain ⟨N1, el⟩ := wt_dl W t1 (t := 0) (N := fun n => 64 ≤ n ∧ n ≤ 320000) (P := an) rfl
  have l2 : (2 : Int32).toInt = 2 := by decide
  have hn := i_ofn (n := zln c cl) (by omega)
  have hb := rw_bd h1 h2 b.2.2.1 b.2.2.2
  have hm := i_mul (a := a1) (b := w) (by omega) (by omega)
  unfold f_Rows_reserve
  by_cases q : (a1 * w) ≤ Int32.ofNat (zln c cl)
  · have q' := i_le q
    refine ⟨0, 0, c, G, cl, ?_, Zex.rf, W, Zfr.rf, R', by omega, by omega, by omega, rfl⟩
    rw [e1]; simp only [Option.bind_some]
    rw [e2]; simp only [Option.bind_some]
    rw [el]; simp only [Option.bind_some]
    rw [if_pos q]
    rfl
  · have q' := i_nle q
    have s2 := i_mull (a := 2) (b := Int32.ofNat (zln c cl)) l2 (by omega) (by omega)
    obtain ⟨m, em, hmx⟩ := m_max (nf := nf) (c := c) (a := 2 * Int32.ofNat (zln c cl)) (b := a1 * w)
    have hm1 : 2 * (zln c cl : Int) ≤ m.toInt ∧ a1.toInt * w.toInt ≤ m.toInt ∧ m.toInt ≤ 320000 := by
      rcases hmx with ⟨rfl, h⟩ | ⟨rfl, h⟩
      · omega
      · omega
    obtain ⟨z, ez, Wz, fz, hzl, hzG⟩ := p_copyOf (nf := nf) (a1 := m) W t1 (by omega) (by omega)
    have hN := i_ni (x := m) (by omega)
    have ex : Zex G (G ++ [57]) := ⟨[57], rfl⟩
    have h0z := ex.get h0
    obtain ⟨y, ey, Wy, fy, gy⟩ := wt_pr (x := c.length) Wz h0z hT (j := 2) rfl hzG (by simp)
    have fy0 : Zfr G [(T, 2)] z y := Zfr.lo ex fy
    have Fy : Zfr G [(T, 2)] c y := Zfr.tr (Zfr.mo fz (by simp)) fy0 (by simp)
    have hyl : zln y c.length = m.toNatClampNeg := by rw [(fy c.length 57 hzG).2.2]; exact hzl
    have hod : zln y od = zln c od := (Fy od 58 t2).2.2
    have hot : zln y ot = zln c ot := (Fy ot 58 t3).2.2
    have hrw := rw_bd b.1 b.2.1 b.2.2.1 b.2.2.2
    refine ⟨1, m.toNatClampNeg, y, G ++ [57], c.length, ?_, ex, Wy, Fy, ⟨⟨(Fy.gi h0 (by simp)).trans e0, (Fy.gi h0 (by simp)).trans e1, gy, (Fy.gr h0 (by simp)).trans e3, (Fy.gr h0 (by simp)).trans e4⟩, ⟨hzG, ex.get t2, ex.get t3⟩, b, ?_, ?_, b7⟩, ?_, ?_, ?_, hod⟩
    · rw [e1]; simp only [Option.bind_some]
      rw [e2]; simp only [Option.bind_some]
      rw [el]; simp only [Option.bind_some]
      rw [if_neg q, em]; simp only [Option.bind_some]
      rw [ez]; simp only [Option.bind_some]
      unfold f_Rows_reserve_38 f_Rows_reserve_41
      rw [ey]
      simp
    · rw [hyl]; omega
    · rw [hot, hod]; exact b6
    · rw [hyl]; omega
    · rw [hyl]
      have := zlg_up (n := zln c cl) (m := m.toNatClampNeg) (by omega) (by omega)
      omega
    · rw [hyl]; omega
theorem p_Rows_addRow (hT : zty T = kOb 9 rwF) (hT2 : T ≠ 57 ∧ T ≠ 58) (W : Zwt zty G c) (h0 : G[a0]? = some T) (R : Zro G c a0 r w cl od ot) (h1 : r.toInt ≤ 19999) : ∃ kk nn q G' cl', f_Rows_addRow nf a0 c = some (kk, nn, q) ∧ Zex G G' ∧ Zwt zty G' q ∧ Zfr G [(T, 0), (T, 2)] c q ∧ Zro G' q a0 (r + 1) w cl' od ot ∧ kk + zlg (zln c cl) ≤ zlg (zln q cl') ∧ nn + 2 * zln c cl ≤ 2 * zln q cl' ∧ zln q od = zln c od := by
  have bb := R.2.2.1
  have l1 : (1 : Int32).toInt = 1 := by decide
  have hs := i_add (a := r) (b := 1) (by omega) (by omega)
  obtain ⟨kk, nn, z, G1, cl1, ez, ex, Wz, fz, Rz, hz1, hz2, hz3, hz4⟩ := p_Rows_reserve (nf := nf) (a1 := r + 1) hT hT2 W h0 R (by omega) (by omega)
  obtain ⟨⟨e0, e1, e2, e3, e4⟩, ⟨t1, t2, t3⟩, b, b5, b6, b7⟩ := Rz
  obtain ⟨vs, ev⟩ := wt_ob W h0 hT
  have h0z := ex.get h0
  obtain ⟨y, ey, Wy, fy, gy⟩ := wt_pi (x := r + 1) Wz h0z hT (j := 0) rfl (rgi (by omega) (by omega))
  have Fy : Zfr G [(T, 0), (T, 2)] c y := Zfr.tr (Zfr.mo fz (by simp)) (Zfr.lo ex fy) (by simp)
  have hc : zln y cl1 = zln z cl1 := (fy cl1 57 t1).2.2
  have ho : zln y od = zln z od := (fy od 58 t2).2.2
  have ht : zln y ot = zln z ot := (fy ot 58 t3).2.2
  refine ⟨kk, nn, y, G1, cl1, ?_, ex, Wy, Fy, ⟨⟨gy, (fy.gi h0z (by simp)).trans e1, (fy.gr h0z (by simp)).trans e2, (fy.gr h0z (by simp)).trans e3, (fy.gr h0z (by simp)).trans e4⟩, ⟨t1, t2, t3⟩, ⟨by omega, by omega, b.2.2.1, b.2.2.2⟩, ?_, ?_, b7⟩, ?_, ?_, ?_⟩
  · unfold f_Rows_addRow
    rw [R.1.1]; simp only [Option.bind_some]
    rw [ev]; simp only [Option.bind_some]
    rw [ez]; simp only [Option.bind_some]
    unfold f_Rows_addRow_10
    rw [e0]; simp only [Option.bind_some]
    rw [ey]
    simp
  · rw [hc]; exact hz1
  · rw [ht, ho]; exact b6
  · rw [hc]; exact hz2
  · rw [hc]; exact hz3
  · rw [ho]; exact hz4
theorem p_Rows_sort (hn : 8589934592 ≤ nf) (hT : zty T = kOb 9 rwF) (hT2 : T ≠ 57 ∧ T ≠ 58) (W : Zwt zty G c) (h0 : G[a0]? = some T) (R : Zro G c a0 r w cl od ot) {a1 : Int32} : ∃ kk nn q G' od' ot', f_Rows_sort nf a0 a1 c = some (kk, nn, q) ∧ Zex G G' ∧ Zwt zty G' q ∧ Zfr G [(T, 3), (T, 4), (58, 0)] c q ∧ Zro G' q a0 r w cl od' ot' ∧ r.toInt ≤ zln q od' ∧ OrT q od' r r.toInt ∧ kk + 2 * zlg (zln c od) ≤ 2 * zlg (zln q od') ∧ nn + 4 * zln c od ≤ 4 * zln q od' ∧ zln q cl = zln c cl := by
  have R' := R
  obtain ⟨⟨e0, e1, e2, e3, e4⟩, ⟨t1, t2, t3⟩, b, b5, b6, b7⟩ := R
  obtain ⟨N1, el⟩ := wt_dl W t2 (t := 0) (N := fun n => n ≤ 40000) (P := an) rfl
  have l2 : (2 : Int32).toInt = 2 := by decide
  have hn1 := i_ofn (n := zln c od) (by omega)
  by_cases q : r ≤ Int32.ofNat (zln c od)
  · have q' := i_le q
    obtain ⟨z, ez, Wz, Fz, od2, ot2, Rz, hz, Oz⟩ := p_Rows_sort_41 (nf := nf) (a1 := a1) (kk := 0) (nn := 0) hn hT hT2.2 W h0 R' (by omega)
    refine ⟨0, 0, z, G, od2, ot2, ?_, Zex.rf, Wz, Fz, Rz, by rw [hz]; omega, Oz, by rw [hz]; omega, by rw [hz]; omega, (Fz cl 57 t1).2.2⟩
    unfold f_Rows_sort
    rw [e3]; simp only [Option.bind_some]
    rw [el]; simp only [Option.bind_some]
    rw [e0]; simp only [Option.bind_some]
    rw [if_pos q]
    exact ez
  · have q' := i_nle q
    have s2 := i_mull (a := 2) (b := Int32.ofNat (zln c od)) l2 (by omega) (by omega)
    obtain ⟨m, em, hmx⟩ := m_max (nf := nf) (c := c) (a := 2 * Int32.ofNat (zln c od)) (b := r)
    have hm1 : 2 * (zln c od : Int) ≤ m.toInt ∧ r.toInt ≤ m.toInt ∧ m.toInt ≤ 40000 := by
      rcases hmx with ⟨rfl, h⟩ | ⟨rfl, h⟩
      · omega
      · omega
    have hN := i_ni (x := m) (by omega)
    have hd := zdim_ok (x := m) (by omega) (by omega)
    -- the first new array
    have ex1 : Zex G (G ++ [58]) := ⟨[58], rfl⟩
    have W1 : Zwt zty (G ++ [58]) (c ++ [.inl (0, m.toNatClampNeg, .inl (fun _ => 0))]) := wt_new W ⟨m.toNatClampNeg, fun _ => 0, rfl, (by omega : m.toNatClampNeg ≤ 40000), fun _ _ => trivial⟩
    have f1 : Zfr G [] c (c ++ [.inl (0, m.toNatClampNeg, .inl (fun _ => 0))]) := fr_new W
    have hG1 : (G ++ [58])[c.length]? = some 58 := by rw [← W.1, List.getElem?_append_right (Nat.le_refl _), Nat.sub_self]; rfl
    have hl1 : zln (c ++ [.inl (0, m.toNatClampNeg, .inl (fun _ => 0))]) c.length = m.toNatClampNeg := by
      unfold zln zrr; rw [List.getElem?_append_right (Nat.le_refl _), Nat.sub_self]; rfl
    generalize hc1 : c ++ [(.inl (0, m.toNatClampNeg, .inl (fun _ => 0)) : va_E)] = c1 at W1 f1 hl1
    obtain ⟨c2, x2, W2, f2, g2⟩ := wt_pr (x := c.length) W1 (ex1.get h0) hT (j := 3) rfl hG1 (by simp)
    -- the second one
    have ex2 : Zex (G ++ [58]) (G ++ [58] ++ [58]) := ⟨[58], rfl⟩
    have W3 : Zwt zty (G ++ [58] ++ [58]) (c2 ++ [.inl (0, m.toNatClampNeg, .inl (fun _ => 0))]) := wt_new W2 ⟨m.toNatClampNeg, fun _ => 0, rfl, (by omega : m.toNatClampNeg ≤ 40000), fun _ _ => trivial⟩
    have f3 : Zfr (G ++ [58]) [] c2 (c2 ++ [.inl (0, m.toNatClampNeg, .inl (fun _ => 0))]) := fr_new W2
    have hG3 : (G ++ [58] ++ [58])[c2.length]? = some 58 := by rw [← W2.1, List.getElem?_append_right (Nat.le_refl _), Nat.sub_self]; rfl
    have hl3 : zln (c2 ++ [.inl (0, m.toNatClampNeg, .inl (fun _ => 0))]) c2.length = m.toNatClampNeg := by
      unfold zln zrr; rw [List.getElem?_append_right (Nat.le_refl _), Nat.sub_self]; rfl
    generalize hc3 : c2 ++ [(.inl (0, m.toNatClampNeg, .inl (fun _ => 0)) : va_E)] = c3 at W3 f3 hl3
    have ex := ex1.tr ex2
    obtain ⟨c4, x4, W4, f4, g4⟩ := wt_pr (x := c2.length) W3 (ex.get h0) hT (j := 4) rfl hG3 (by simp)
    have K2 : Zfr G [(T, 3), (T, 4)] c c2 := Zfr.tr (Zfr.mo f1 (by simp)) (Zfr.lo ex1 f2) (by simp)
    have K3 : Zfr G [(T, 3), (T, 4)] c c3 := Zfr.tr K2 (Zfr.lo ex1 f3) (by simp)
    have K4 : Zfr G [(T, 3), (T, 4)] c c4 := Zfr.tr K3 (Zfr.lo ex f4) (by simp)
    have h24 : Zfr (G ++ [58]) [(T, 4)] c2 c4 := Zfr.tr (Zfr.mo f3 (by simp)) (Zfr.lo ex2 f4) (by simp)
    have hne : c.length ≠ c2.length := by
      have := W2.1
      rw [List.length_append, W.1] at this
      simp at this
      omega
    have la : zln c4 c.length = m.toNatClampNeg := by rw [(h24 c.length 58 hG1).2.2, (f2 c.length 58 hG1).2.2]; exact hl1
    have lb : zln c4 c2.length = m.toNatClampNeg := by rw [(f4 c2.length 58 hG3).2.2]; exact hl3
    have lc : zln c4 cl = zln c cl := (K4 cl 57 t1).2.2
    have R4 : Zro (G ++ [58] ++ [58]) c4 a0 r w cl c.length c2.length := ⟨⟨(K4.gi h0 (by simp)).trans e0, (K4.gi h0 (by simp)).trans e1, (K4.gr h0 (by simp)).trans e2, (h24.gr (ex1.get h0) (by simp)).trans g2, g4⟩, ⟨ex.get t1, ex2.get hG1, hG3⟩, b, by rw [lc]; exact b5, by rw [la, lb], hne⟩
    obtain ⟨z, ez, Wz, Fz, od2, ot2, Rz, hz, Oz⟩ := p_Rows_sort_41 (nf := nf) (a1 := a1) (kk := 1 + 1) (nn := m.toNatClampNeg + m.toNatClampNeg) hn hT hT2.2 W4 (ex.get h0) R4 (by rw [la]; omega)
    have hu := zlg_up (n := zln c od) (m := m.toNatClampNeg) (by omega) (by omega)
    refine ⟨1 + 1, m.toNatClampNeg + m.toNatClampNeg, z, G ++ [58] ++ [58], od2, ot2, ?_, ex, Wz, Zfr.tr (Zfr.mo K4 (by simp)) (Zfr.lo ex Fz) (by simp), Rz, by rw [hz, la]; omega, Oz, by rw [hz, la]; omega, by rw [hz, la]; omega, ?_⟩
    · unfold f_Rows_sort
      rw [e3]; simp only [Option.bind_some]
      rw [el]; simp only [Option.bind_some]
      rw [e0]; simp only [Option.bind_some]
      rw [if_neg q, em]; simp only [Option.bind_some]
      rw [hd]; simp only [Option.bind_some]
      unfold znw
      simp only [Option.bind_some]
      rw [hc1]
      unfold f_Rows_sort_31
      rw [x2]; simp only [Option.bind_some]
      rw [hd]; simp only [Option.bind_some]
      unfold znw
      simp only [Option.bind_some]
      rw [hc3]
      unfold f_Rows_sort_38
      rw [x4]; simp only [Option.bind_some]
      simp only [Nat.zero_add]
      exact ez
    · rw [(Fz cl 57 (ex.get t1)).2.2]; exact lc
end
end ZzT
