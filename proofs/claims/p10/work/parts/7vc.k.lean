section ZzT
theorem k_flat {c : Zc} {k : Nat} {f : Nat → Int32} {v : Int32} {i : Nat} (h : c[k]? = some (.inl (0, 100, .inl f))) (fl : ∀ j : Int32, 0 ≤ j.toInt → j.toInt < ((100 : Nat) : Int) → zai c k 0 j = some v) (hi : i < 100) : f i = v := by
  have hN := i_ofn (n := i) (by omega)
  have a := fl (Int32.ofNat i) (by omega) (by omega)
  rw [rd_ai h (by omega) (by omega), show (Int32.ofNat i).toInt.toNat = i by omega] at a
  cases a; rfl
set_option maxRecDepth 100000 in
set_option maxHeartbeats 8000000 in
theorem k_Graph_init_h {nf : Nat} (hn : 8589934592 ≤ nf) {G : List Nat} {c : Zc} (W : Zwt zty G c) {a0  : Nat} (h0 : G[a0]? = some 0) (hc : c[a0]? = some (.inr (0, [.null, .null, .null, .null, .null, .null, .null, .int 0, .int 0, .int 0])))  : ∃ q, f_Graph_init nf 7 896 a0  c = some q ∧ ∃ G', Zwt zty G' q ∧ Zx G G' a0 ∧ G'[a0]? = some 1 ∧ Zsm c q a0 ∧ q.length = c.length + 7 ∧ ∃ ka kb, zgr q a0 0 0 = some ka ∧ G'[ka]? = some 15 ∧ q[ka]? = some (.inl (0, 16, .inl (fun _ => 0))) ∧ zgr q a0 0 1 = some kb ∧ G'[kb]? = some 16 ∧ q[kb]? = some (.inl (0, 64, .inl (fun _ => 0))) ∧ zgi q a0 0 7 = some 0 ∧ ∃ kl fl, zgr q a0 0 4 = some kl ∧ G'[kl]? = some 19 ∧ q[kl]? = some (.inl (0, 100, .inl fl)) ∧ (∀ i : Nat, i < 100 → fl i = -1) ∧ zgi q a0 0 8 = some 0 := by
  unfold f_Graph_init
  have hl0 : c.length = c.length + 0 := rfl
  refine wb (v := ()) (by decide) ?_
  obtain ⟨Wc1, hcc1, h0c1, tc1, kc1, xc1, sc1, lc1⟩ := raw_n (T := 15) (e := .inl (0, 16, .inl (fun _ => 0))) W hc h0 ⟨_, rfl, fun _ _ => rgi (by decide) (by decide)⟩
  refine wb (v := c ++ [(.inl (0, 16, .inl (fun _ => 0)) : va_E)]) rfl ?_
  have yc1 := Zx.tr Zx.rf xc1
  have x_sc1 := Zsm.tr Zsm.rf sc1
  have hl2 : (c ++ [(.inl (0, 16, .inl (fun _ => 0)) : va_E)]).length = c.length + 1 := by rw [lc1, hl0]
  generalize c ++ [(.inl (0, 16, .inl (fun _ => 0)) : va_E)] = c1 at Wc1 hcc1 kc1 sc1 x_sc1 hl2  ⊢
  generalize G ++ [15] = G1 at Wc1 h0c1 tc1 xc1 yc1 
  obtain ⟨c3, ec3, Wc3, hcc3, sc3, lc3⟩ := raw_p (v := .ref c.length) Wc1 h0c1 hcc1 (j := 0) (by simp)
  refine wb ec3 ?_
  simp only [List.set] at hcc3
  have x_sc3 := Zsm.tr x_sc1 sc3
  have k3 := (sc3.2 (c.length) (List.getElem?_eq_some_iff.mp kc1).1 (pl_ne tc1 h0c1 (by decide))).trans kc1
  have hl4 : c3.length = c.length + 1 := lc3.trans hl2
  refine wb (v := ()) (by decide) ?_
  obtain ⟨Wc4, hcc4, h0c4, tc4, kc4, xc4, sc4, lc4⟩ := raw_n (T := 16) (e := .inl (0, 64, .inl (fun _ => 0))) Wc3 hcc3 h0c1 ⟨_, rfl, fun _ _ => rgi (by decide) (by decide)⟩
  refine wb (v := c3 ++ [(.inl (0, 64, .inl (fun _ => 0)) : va_E)]) rfl ?_
  have k6 := (sc4.2 (c.length) (List.getElem?_eq_some_iff.mp k3).1 (pl_ne tc1 h0c1 (by decide))).trans k3
  have t7 := Zx.get xc4 h0c1 tc1 (by decide)
  have yc4 := Zx.tr yc1 xc4
  have x_sc4 := Zsm.tr x_sc3 sc4
  have hl8 : (c3 ++ [(.inl (0, 64, .inl (fun _ => 0)) : va_E)]).length = c.length + 2 := by rw [lc4, hl4]
  generalize c3 ++ [(.inl (0, 64, .inl (fun _ => 0)) : va_E)] = c4 at Wc4 hcc4 kc4 sc4 x_sc4 hl8 k6 ⊢
  generalize G1 ++ [16] = G5 at Wc4 h0c4 tc4 xc4 yc4 t7
  obtain ⟨c6, ec6, Wc6, hcc6, sc6, lc6⟩ := raw_p (v := .ref c3.length) Wc4 h0c4 hcc4 (j := 1) (by simp)
  refine wb ec6 ?_
  simp only [List.set] at hcc6
  have x_sc6 := Zsm.tr x_sc4 sc6
  have k9 := (sc6.2 (c.length) (List.getElem?_eq_some_iff.mp k6).1 (pl_ne t7 h0c4 (by decide))).trans k6
  have k10 := (sc6.2 (c3.length) (List.getElem?_eq_some_iff.mp kc4).1 (pl_ne tc4 h0c4 (by decide))).trans kc4
  have hl11 : c6.length = c.length + 2 := lc6.trans hl8
  refine wb (v := ()) (by decide) ?_
  obtain ⟨Wc7, hcc7, h0c7, tc7, kc7, xc7, sc7, lc7⟩ := raw_n (T := 17) (e := .inl (0, 100, .inl (fun _ => 0))) Wc6 hcc6 h0c4 ⟨_, rfl, fun _ _ => rgi (by decide) (by decide)⟩
  refine wb (v := c6 ++ [(.inl (0, 100, .inl (fun _ => 0)) : va_E)]) rfl ?_
  have k13 := (sc7.2 (c.length) (List.getElem?_eq_some_iff.mp k9).1 (pl_ne t7 h0c4 (by decide))).trans k9
  have k14 := (sc7.2 (c3.length) (List.getElem?_eq_some_iff.mp k10).1 (pl_ne tc4 h0c4 (by decide))).trans k10
  have t15 := Zx.get xc7 h0c4 t7 (by decide)
  have t16 := Zx.get xc7 h0c4 tc4 (by decide)
  have yc7 := Zx.tr yc4 xc7
  have x_sc7 := Zsm.tr x_sc6 sc7
  have hl17 : (c6 ++ [(.inl (0, 100, .inl (fun _ => 0)) : va_E)]).length = c.length + 3 := by rw [lc7, hl11]
  generalize c6 ++ [(.inl (0, 100, .inl (fun _ => 0)) : va_E)] = c7 at Wc7 hcc7 kc7 sc7 x_sc7 hl17 k13 k14 ⊢
  generalize G5 ++ [17] = G12 at Wc7 h0c7 tc7 xc7 yc7 t15 t16
  obtain ⟨c9, ec9, Wc9, hcc9, sc9, lc9⟩ := raw_p (v := .ref c6.length) Wc7 h0c7 hcc7 (j := 2) (by simp)
  refine wb ec9 ?_
  simp only [List.set] at hcc9
  have x_sc9 := Zsm.tr x_sc7 sc9
  have k18 := (sc9.2 (c.length) (List.getElem?_eq_some_iff.mp k13).1 (pl_ne t15 h0c7 (by decide))).trans k13
  have k19 := (sc9.2 (c3.length) (List.getElem?_eq_some_iff.mp k14).1 (pl_ne t16 h0c7 (by decide))).trans k14
  have hl20 : c9.length = c.length + 3 := lc9.trans hl17
  refine wb (v := ()) (by decide) ?_
  obtain ⟨Wc10, hcc10, h0c10, tc10, kc10, xc10, sc10, lc10⟩ := raw_n (T := 18) (e := .inl (0, 100, .inl (fun _ => 0))) Wc9 hcc9 h0c7 ⟨_, rfl, fun _ _ => rgi (by decide) (by decide)⟩
  refine wb (v := c9 ++ [(.inl (0, 100, .inl (fun _ => 0)) : va_E)]) rfl ?_
  have k22 := (sc10.2 (c.length) (List.getElem?_eq_some_iff.mp k18).1 (pl_ne t15 h0c7 (by decide))).trans k18
  have k23 := (sc10.2 (c3.length) (List.getElem?_eq_some_iff.mp k19).1 (pl_ne t16 h0c7 (by decide))).trans k19
  have t24 := Zx.get xc10 h0c7 t15 (by decide)
  have t25 := Zx.get xc10 h0c7 t16 (by decide)
  have t26 := Zx.get xc10 h0c7 tc7 (by decide)
  have yc10 := Zx.tr yc7 xc10
  have x_sc10 := Zsm.tr x_sc9 sc10
  have hl27 : (c9 ++ [(.inl (0, 100, .inl (fun _ => 0)) : va_E)]).length = c.length + 4 := by rw [lc10, hl20]
  generalize c9 ++ [(.inl (0, 100, .inl (fun _ => 0)) : va_E)] = c10 at Wc10 hcc10 kc10 sc10 x_sc10 hl27 k22 k23 ⊢
  generalize G12 ++ [18] = G21 at Wc10 h0c10 tc10 xc10 yc10 t24 t25 t26
  obtain ⟨c12, ec12, Wc12, hcc12, sc12, lc12⟩ := raw_p (v := .ref c9.length) Wc10 h0c10 hcc10 (j := 3) (by simp)
  refine wb ec12 ?_
  simp only [List.set] at hcc12
  have x_sc12 := Zsm.tr x_sc10 sc12
  have k28 := (sc12.2 (c.length) (List.getElem?_eq_some_iff.mp k22).1 (pl_ne t24 h0c10 (by decide))).trans k22
  have k29 := (sc12.2 (c3.length) (List.getElem?_eq_some_iff.mp k23).1 (pl_ne t25 h0c10 (by decide))).trans k23
  have hl30 : c12.length = c.length + 4 := lc12.trans hl27
  refine wb (v := ()) (by decide) ?_
  obtain ⟨Wc13, hcc13, h0c13, tc13, kc13, xc13, sc13, lc13⟩ := raw_n (T := 19) (e := .inl (0, 100, .inl (fun _ => 0))) Wc12 hcc12 h0c10 ⟨_, rfl, fun _ _ => rgi (by decide) (by decide)⟩
  refine wb (v := c12 ++ [(.inl (0, 100, .inl (fun _ => 0)) : va_E)]) rfl ?_
  have k32 := (sc13.2 (c.length) (List.getElem?_eq_some_iff.mp k28).1 (pl_ne t24 h0c10 (by decide))).trans k28
  have k33 := (sc13.2 (c3.length) (List.getElem?_eq_some_iff.mp k29).1 (pl_ne t25 h0c10 (by decide))).trans k29
  have t34 := Zx.get xc13 h0c10 t24 (by decide)
  have t35 := Zx.get xc13 h0c10 t25 (by decide)
  have t36 := Zx.get xc13 h0c10 t26 (by decide)
  have t37 := Zx.get xc13 h0c10 tc10 (by decide)
  have yc13 := Zx.tr yc10 xc13
  have x_sc13 := Zsm.tr x_sc12 sc13
  have hl38 : (c12 ++ [(.inl (0, 100, .inl (fun _ => 0)) : va_E)]).length = c.length + 5 := by rw [lc13, hl30]
  generalize c12 ++ [(.inl (0, 100, .inl (fun _ => 0)) : va_E)] = c13 at Wc13 hcc13 kc13 sc13 x_sc13 hl38 k32 k33 ⊢
  generalize G21 ++ [19] = G31 at Wc13 h0c13 tc13 xc13 yc13 t34 t35 t36 t37
  obtain ⟨c15, ec15, Wc15, hcc15, sc15, lc15⟩ := raw_p (v := .ref c12.length) Wc13 h0c13 hcc13 (j := 4) (by simp)
  refine wb ec15 ?_
  simp only [List.set] at hcc15
  have x_sc15 := Zsm.tr x_sc13 sc15
  have k39 := (sc15.2 (c.length) (List.getElem?_eq_some_iff.mp k32).1 (pl_ne t34 h0c13 (by decide))).trans k32
  have k40 := (sc15.2 (c3.length) (List.getElem?_eq_some_iff.mp k33).1 (pl_ne t35 h0c13 (by decide))).trans k33
  have k41 := (sc15.2 (c12.length) (List.getElem?_eq_some_iff.mp kc13).1 (pl_ne tc13 h0c13 (by decide))).trans kc13
  have hl42 : c15.length = c.length + 5 := lc15.trans hl38
  refine wb (v := ()) (by decide) ?_
  obtain ⟨Wc16, hcc16, h0c16, tc16, kc16, xc16, sc16, lc16⟩ := raw_n (T := 20) (e := .inl (0, 100, .inl (fun _ => 0))) Wc15 hcc15 h0c13 ⟨_, rfl, fun _ _ => rgi (by decide) (by decide)⟩
  refine wb (v := c15 ++ [(.inl (0, 100, .inl (fun _ => 0)) : va_E)]) rfl ?_
  have k44 := (sc16.2 (c.length) (List.getElem?_eq_some_iff.mp k39).1 (pl_ne t34 h0c13 (by decide))).trans k39
  have k45 := (sc16.2 (c3.length) (List.getElem?_eq_some_iff.mp k40).1 (pl_ne t35 h0c13 (by decide))).trans k40
  have k46 := (sc16.2 (c12.length) (List.getElem?_eq_some_iff.mp k41).1 (pl_ne tc13 h0c13 (by decide))).trans k41
  have t47 := Zx.get xc16 h0c13 t34 (by decide)
  have t48 := Zx.get xc16 h0c13 t35 (by decide)
  have t49 := Zx.get xc16 h0c13 t36 (by decide)
  have t50 := Zx.get xc16 h0c13 t37 (by decide)
  have t51 := Zx.get xc16 h0c13 tc13 (by decide)
  have yc16 := Zx.tr yc13 xc16
  have x_sc16 := Zsm.tr x_sc15 sc16
  have hl52 : (c15 ++ [(.inl (0, 100, .inl (fun _ => 0)) : va_E)]).length = c.length + 6 := by rw [lc16, hl42]
  generalize c15 ++ [(.inl (0, 100, .inl (fun _ => 0)) : va_E)] = c16 at Wc16 hcc16 kc16 sc16 x_sc16 hl52 k44 k45 k46 ⊢
  generalize G31 ++ [20] = G43 at Wc16 h0c16 tc16 xc16 yc16 t47 t48 t49 t50 t51
  obtain ⟨c18, ec18, Wc18, hcc18, sc18, lc18⟩ := raw_p (v := .ref c15.length) Wc16 h0c16 hcc16 (j := 5) (by simp)
  refine wb ec18 ?_
  simp only [List.set] at hcc18
  have x_sc18 := Zsm.tr x_sc16 sc18
  have k53 := (sc18.2 (c.length) (List.getElem?_eq_some_iff.mp k44).1 (pl_ne t47 h0c16 (by decide))).trans k44
  have k54 := (sc18.2 (c3.length) (List.getElem?_eq_some_iff.mp k45).1 (pl_ne t48 h0c16 (by decide))).trans k45
  have k55 := (sc18.2 (c12.length) (List.getElem?_eq_some_iff.mp k46).1 (pl_ne t51 h0c16 (by decide))).trans k46
  have hl56 : c18.length = c.length + 6 := lc18.trans hl52
  refine wb (v := ()) (by decide) ?_
  obtain ⟨Wc19, hcc19, h0c19, tc19, kc19, xc19, sc19, lc19⟩ := raw_n (T := 21) (e := .inl (0, 416, .inl (fun _ => 0))) Wc18 hcc18 h0c16 ⟨_, rfl, fun _ _ => trivial⟩
  refine wb (v := c18 ++ [(.inl (0, 416, .inl (fun _ => 0)) : va_E)]) rfl ?_
  have k58 := (sc19.2 (c.length) (List.getElem?_eq_some_iff.mp k53).1 (pl_ne t47 h0c16 (by decide))).trans k53
  have k59 := (sc19.2 (c3.length) (List.getElem?_eq_some_iff.mp k54).1 (pl_ne t48 h0c16 (by decide))).trans k54
  have k60 := (sc19.2 (c12.length) (List.getElem?_eq_some_iff.mp k55).1 (pl_ne t51 h0c16 (by decide))).trans k55
  have t61 := Zx.get xc19 h0c16 t47 (by decide)
  have t62 := Zx.get xc19 h0c16 t48 (by decide)
  have t63 := Zx.get xc19 h0c16 t49 (by decide)
  have t64 := Zx.get xc19 h0c16 t50 (by decide)
  have t65 := Zx.get xc19 h0c16 t51 (by decide)
  have t66 := Zx.get xc19 h0c16 tc16 (by decide)
  have yc19 := Zx.tr yc16 xc19
  have x_sc19 := Zsm.tr x_sc18 sc19
  have hl67 : (c18 ++ [(.inl (0, 416, .inl (fun _ => 0)) : va_E)]).length = c.length + 7 := by rw [lc19, hl56]
  generalize c18 ++ [(.inl (0, 416, .inl (fun _ => 0)) : va_E)] = c19 at Wc19 hcc19 kc19 sc19 x_sc19 hl67 k58 k59 k60 ⊢
  generalize G43 ++ [21] = G57 at Wc19 h0c19 tc19 xc19 yc19 t61 t62 t63 t64 t65 t66
  obtain ⟨c21, ec21, Wc21, hcc21, sc21, lc21⟩ := raw_p (v := .ref c18.length) Wc19 h0c19 hcc19 (j := 6) (by simp)
  refine wb ec21 ?_
  simp only [List.set] at hcc21
  have x_sc21 := Zsm.tr x_sc19 sc21
  have k68 := (sc21.2 (c.length) (List.getElem?_eq_some_iff.mp k58).1 (pl_ne t61 h0c19 (by decide))).trans k58
  have k69 := (sc21.2 (c3.length) (List.getElem?_eq_some_iff.mp k59).1 (pl_ne t62 h0c19 (by decide))).trans k59
  have k70 := (sc21.2 (c12.length) (List.getElem?_eq_some_iff.mp k60).1 (pl_ne t65 h0c19 (by decide))).trans k60
  have hl71 : c21.length = c.length + 7 := lc21.trans hl67
  obtain ⟨c22, ec22, Wc22, hcc22, sc22, lc22⟩ := raw_p (v := .int 0) Wc21 h0c19 hcc21 (j := 7) (by simp)
  refine wb ec22 ?_
  simp only [List.set] at hcc22
  have x_sc22 := Zsm.tr x_sc21 sc22
  have k72 := (sc22.2 (c.length) (List.getElem?_eq_some_iff.mp k68).1 (pl_ne t61 h0c19 (by decide))).trans k68
  have k73 := (sc22.2 (c3.length) (List.getElem?_eq_some_iff.mp k69).1 (pl_ne t62 h0c19 (by decide))).trans k69
  have k74 := (sc22.2 (c12.length) (List.getElem?_eq_some_iff.mp k70).1 (pl_ne t65 h0c19 (by decide))).trans k70
  have hl75 : c22.length = c.length + 7 := lc22.trans hl71
  obtain ⟨c23, ec23, Wc23, hcc23, sc23, lc23⟩ := raw_p (v := .int 0) Wc22 h0c19 hcc22 (j := 8) (by simp)
  refine wb ec23 ?_
  simp only [List.set] at hcc23
  have x_sc23 := Zsm.tr x_sc22 sc23
  have k76 := (sc23.2 (c.length) (List.getElem?_eq_some_iff.mp k72).1 (pl_ne t61 h0c19 (by decide))).trans k72
  have k77 := (sc23.2 (c3.length) (List.getElem?_eq_some_iff.mp k73).1 (pl_ne t62 h0c19 (by decide))).trans k73
  have k78 := (sc23.2 (c12.length) (List.getElem?_eq_some_iff.mp k74).1 (pl_ne t65 h0c19 (by decide))).trans k74
  have hl79 : c23.length = c.length + 7 := lc23.trans hl75
  obtain ⟨c24, ec24, Wc24, hcc24, sc24, lc24⟩ := raw_p (v := .int 0) Wc23 h0c19 hcc23 (j := 9) (by simp)
  refine wb ec24 ?_
  simp only [List.set] at hcc24
  have x_sc24 := Zsm.tr x_sc23 sc24
  have k80 := (sc24.2 (c.length) (List.getElem?_eq_some_iff.mp k76).1 (pl_ne t61 h0c19 (by decide))).trans k76
  have k81 := (sc24.2 (c3.length) (List.getElem?_eq_some_iff.mp k77).1 (pl_ne t62 h0c19 (by decide))).trans k77
  have k82 := (sc24.2 (c12.length) (List.getElem?_eq_some_iff.mp k78).1 (pl_ne t65 h0c19 (by decide))).trans k78
  have hl83 : c24.length = c.length + 7 := lc24.trans hl79
  refine wb (raw_g (k := c12.length) hcc24 (j := 4) rfl) ?_
  refine wb (v := ()) (by decide) ?_
  obtain ⟨q26, eq26, Wq26, sq26, lq26, fillq26⟩ := k_fill (v := (-1)) hn Wc24 t65 rfl (by decide) (rgi (by decide) (by decide))
  refine wb eq26 ?_
  have ne84 := Ne.symm (pl_ne t65 h0c19 (by decide))
  have hcq26 := (sq26.2 a0 (List.getElem?_eq_some_iff.mp hcc24).1 ne84).trans hcc24
  have k85 := (sq26.2 (c.length) (List.getElem?_eq_some_iff.mp k80).1 (pl_ne t61 t65 (by decide))).trans k80
  have k86 := (sq26.2 (c3.length) (List.getElem?_eq_some_iff.mp k81).1 (pl_ne t62 t65 (by decide))).trans k81
  obtain ⟨fL, hfl, _⟩ := wt_cell Wq26 t65 rfl
  have hfl1 : ∀ i : Nat, i < 100 → fL i = -1 := fun i hi => k_flat hfl fillq26 hi
  have ge87 : c.length ≤ c12.length := by omega
  have x_sq26 := Zsm.inn x_sc24 sq26 ge87
  have hl88 : q26.length = c.length + 7 := lq26.trans hl83
  refine wb (v := ()) (by decide) ?_
  obtain ⟨Wz, tz, xz⟩ := wt_seal (T := 1) Wq26 h0c19 hcq26 rfl (Zvs.cons (Zcv.mr (T := 15) (set_get h0c19 t61 (by decide)) (by decide)) (Zvs.cons (Zcv.mr (T := 16) (set_get h0c19 t62 (by decide)) (by decide)) (Zvs.cons (Zcv.mr (T := 17) (set_get h0c19 t63 (by decide)) (by decide)) (Zvs.cons (Zcv.mr (T := 18) (set_get h0c19 t64 (by decide)) (by decide)) (Zvs.cons (Zcv.mr (T := 19) (set_get h0c19 t65 (by decide)) (by decide)) (Zvs.cons (Zcv.mr (T := 20) (set_get h0c19 t66 (by decide)) (by decide)) (Zvs.cons (Zcv.mr (T := 21) (set_get h0c19 tc19 (by decide)) (by decide)) (Zvs.cons (Zcv.mi (rgi (by decide) (by decide))) (Zvs.cons (Zcv.mi trivial) (Zvs.cons (Zcv.mi trivial) Zvs.nil))))))))))
  exact ⟨_, rfl, _, Wz, Zx.tr yc19 xz, tz, x_sq26, hl88, c.length, c3.length, raw_g (k := c.length) hcq26 (j := 0) rfl, set_get h0c19 t61 (by decide), k85, raw_g (k := c3.length) hcq26 (j := 1) rfl, set_get h0c19 t62 (by decide), k86, raw_i hcq26 (j := 7) rfl, c12.length, fL, raw_g (k := c12.length) hcq26 (j := 4) rfl, set_get h0c19 t65 (by decide), hfl, hfl1, raw_i hcq26 (j := 8) rfl⟩

set_option maxRecDepth 100000 in
set_option maxHeartbeats 8000000 in
theorem k_Mo_init_h {nf : Nat} (hn : 8589934592 ≤ nf) {G : List Nat} {c : Zc} (W : Zwt zty G c) {a0  : Nat} (h0 : G[a0]? = some 0) (hc : c[a0]? = some (.inr (12, [.int 0, .null, .null, .null, .null, .null, .null, .null, .int 0, .null, .int 0, .int 0, .null, .int 0, .null, .null, .null, .int 0, .int 0, .int 0, .int 0, .int 0, .null, .null, .int 0, .int 0, .null, .null, .null, .null, .null, .null, .null, .null, .null, .null, .null, .null, .null, .null, .null, .null, .null, .null, .null, .null, .null, .null, .null, .null, .null, .null, .int 0, .int 0, .null, .null, .int 0, .int 0, .null, .null, .null, .null, .null, .null, .null, .int 0, .null, .null, .null, .int 0, .null, .null, .null, .null, .null, .null, .null, .null, .null, .null, .null, .int 0, .null, .null, .null, .null, .null, .int 0, .null, .null])))  : ∃ q, f_Mo_init nf 70 1039190 a0  c = some q ∧ ∃ G', Zwt zty G' q ∧ Zx G G' a0 ∧ G'[a0]? = some 64 ∧ Zsm c q a0 ∧ q.length = c.length + 70 ∧ GtW q a0 ∧ TkN q a0 ∧ AcN q a0 0 ∧ zgi q a0 12 8 = some 0 ∧ zgi q a0 12 13 = some 0 ∧ zgi q a0 12 0 = some 0 ∧ vaf q a0 1 = (fun _ => 0) ∧ vaf q a0 2 = (fun _ => 0) ∧ vaf q a0 3 = (fun _ => 0) := by
  unfold f_Mo_init
  have hl0 : c.length = c.length + 0 := rfl
  refine wb (v := ()) (by decide) ?_
  obtain ⟨Wc1, hcc1, h0c1, tc1, kc1, xc1, sc1, lc1⟩ := raw_n (T := 65) (e := .inl (0, 16, .inl (fun _ => 0))) W hc h0 ⟨_, rfl, fun _ _ => rgi (by decide) (by decide)⟩
  refine wb (v := c ++ [(.inl (0, 16, .inl (fun _ => 0)) : va_E)]) rfl ?_
  have yc1 := Zx.tr Zx.rf xc1
  have x_sc1 := Zsm.tr Zsm.rf sc1
  have hl2 : (c ++ [(.inl (0, 16, .inl (fun _ => 0)) : va_E)]).length = c.length + 1 := by rw [lc1, hl0]
  generalize c ++ [(.inl (0, 16, .inl (fun _ => 0)) : va_E)] = c1 at Wc1 hcc1 kc1 sc1 x_sc1 hl2  ⊢
  generalize G ++ [65] = G1 at Wc1 h0c1 tc1 xc1 yc1 
  obtain ⟨c3, ec3, Wc3, hcc3, sc3, lc3⟩ := raw_p (v := .ref c.length) Wc1 h0c1 hcc1 (j := 1) (by simp)
  refine wb ec3 ?_
  simp only [List.set] at hcc3
  have x_sc3 := Zsm.tr x_sc1 sc3
  have hl3 : c3.length = c.length + 1 := lc3.trans hl2
  refine wb (v := ()) (by decide) ?_
  obtain ⟨Wc4, hcc4, h0c4, tc4, kc4, xc4, sc4, lc4⟩ := raw_n (T := 66) (e := .inl (0, 64, .inl (fun _ => 0))) Wc3 hcc3 h0c1 ⟨_, rfl, fun _ _ => rgi (by decide) (by decide)⟩
  refine wb (v := c3 ++ [(.inl (0, 64, .inl (fun _ => 0)) : va_E)]) rfl ?_
  have yc4 := Zx.tr yc1 xc4
  have x_sc4 := Zsm.tr x_sc3 sc4
  have hl5 : (c3 ++ [(.inl (0, 64, .inl (fun _ => 0)) : va_E)]).length = c.length + 2 := by rw [lc4, hl3]
  generalize c3 ++ [(.inl (0, 64, .inl (fun _ => 0)) : va_E)] = c4 at Wc4 hcc4 kc4 sc4 x_sc4 hl5  ⊢
  generalize G1 ++ [66] = G4 at Wc4 h0c4 tc4 xc4 yc4 
  obtain ⟨c6, ec6, Wc6, hcc6, sc6, lc6⟩ := raw_p (v := .ref c3.length) Wc4 h0c4 hcc4 (j := 2) (by simp)
  refine wb ec6 ?_
  simp only [List.set] at hcc6
  have x_sc6 := Zsm.tr x_sc4 sc6
  have hl6 : c6.length = c.length + 2 := lc6.trans hl5
  refine wb (v := ()) (by decide) ?_
  obtain ⟨Wc7, hcc7, h0c7, tc7, kc7, xc7, sc7, lc7⟩ := raw_n (T := 67) (e := .inl (6, 100, .inl (fun _ => 0))) Wc6 hcc6 h0c4 ⟨_, rfl, fun _ _ => rgi (by decide) (by decide)⟩
  refine wb (v := c6 ++ [(.inl (6, 100, .inl (fun _ => 0)) : va_E)]) rfl ?_
  have yc7 := Zx.tr yc4 xc7
  have x_sc7 := Zsm.tr x_sc6 sc7
  have hl8 : (c6 ++ [(.inl (6, 100, .inl (fun _ => 0)) : va_E)]).length = c.length + 3 := by rw [lc7, hl6]
  generalize c6 ++ [(.inl (6, 100, .inl (fun _ => 0)) : va_E)] = c7 at Wc7 hcc7 kc7 sc7 x_sc7 hl8  ⊢
  generalize G4 ++ [67] = G7 at Wc7 h0c7 tc7 xc7 yc7 
  obtain ⟨c9, ec9, Wc9, hcc9, sc9, lc9⟩ := raw_p (v := .ref c6.length) Wc7 h0c7 hcc7 (j := 3) (by simp)
  refine wb ec9 ?_
  simp only [List.set] at hcc9
  have x_sc9 := Zsm.tr x_sc7 sc9
  have hl9 : c9.length = c.length + 3 := lc9.trans hl8
  refine wb (v := ()) (by decide) ?_
  obtain ⟨Wc10, hcc10, h0c10, tc10, kc10, xc10, sc10, lc10⟩ := raw_n (T := 68) (e := .inl (0, 100, .inl (fun _ => 0))) Wc9 hcc9 h0c7 ⟨_, rfl, fun _ _ => rgi (by decide) (by decide)⟩
  refine wb (v := c9 ++ [(.inl (0, 100, .inl (fun _ => 0)) : va_E)]) rfl ?_
  have yc10 := Zx.tr yc7 xc10
  have x_sc10 := Zsm.tr x_sc9 sc10
  have hl11 : (c9 ++ [(.inl (0, 100, .inl (fun _ => 0)) : va_E)]).length = c.length + 4 := by rw [lc10, hl9]
  generalize c9 ++ [(.inl (0, 100, .inl (fun _ => 0)) : va_E)] = c10 at Wc10 hcc10 kc10 sc10 x_sc10 hl11  ⊢
  generalize G7 ++ [68] = G10 at Wc10 h0c10 tc10 xc10 yc10 
  obtain ⟨c12, ec12, Wc12, hcc12, sc12, lc12⟩ := raw_p (v := .ref c9.length) Wc10 h0c10 hcc10 (j := 4) (by simp)
  refine wb ec12 ?_
  simp only [List.set] at hcc12
  have x_sc12 := Zsm.tr x_sc10 sc12
  have hl12 : c12.length = c.length + 4 := lc12.trans hl11
  refine wb (v := ()) (by decide) ?_
  obtain ⟨Wc13, hcc13, h0c13, tc13, kc13, xc13, sc13, lc13⟩ := raw_n (T := 69) (e := .inl (0, 100, .inl (fun _ => 0))) Wc12 hcc12 h0c10 ⟨_, rfl, fun _ _ => rgi (by decide) (by decide)⟩
  refine wb (v := c12 ++ [(.inl (0, 100, .inl (fun _ => 0)) : va_E)]) rfl ?_
  have yc13 := Zx.tr yc10 xc13
  have x_sc13 := Zsm.tr x_sc12 sc13
  have hl14 : (c12 ++ [(.inl (0, 100, .inl (fun _ => 0)) : va_E)]).length = c.length + 5 := by rw [lc13, hl12]
  generalize c12 ++ [(.inl (0, 100, .inl (fun _ => 0)) : va_E)] = c13 at Wc13 hcc13 kc13 sc13 x_sc13 hl14  ⊢
  generalize G10 ++ [69] = G13 at Wc13 h0c13 tc13 xc13 yc13 
  obtain ⟨c15, ec15, Wc15, hcc15, sc15, lc15⟩ := raw_p (v := .ref c12.length) Wc13 h0c13 hcc13 (j := 5) (by simp)
  refine wb ec15 ?_
  simp only [List.set] at hcc15
  have x_sc15 := Zsm.tr x_sc13 sc15
  have hl15 : c15.length = c.length + 5 := lc15.trans hl14
  refine wb (v := ()) (by decide) ?_
  obtain ⟨Wc16, hcc16, h0c16, tc16, kc16, xc16, sc16, lc16⟩ := raw_n (T := 70) (e := .inl (0, 100, .inl (fun _ => 0))) Wc15 hcc15 h0c13 ⟨_, rfl, fun _ _ => rgi (by decide) (by decide)⟩
  refine wb (v := c15 ++ [(.inl (0, 100, .inl (fun _ => 0)) : va_E)]) rfl ?_
  have yc16 := Zx.tr yc13 xc16
  have x_sc16 := Zsm.tr x_sc15 sc16
  have hl17 : (c15 ++ [(.inl (0, 100, .inl (fun _ => 0)) : va_E)]).length = c.length + 6 := by rw [lc16, hl15]
  generalize c15 ++ [(.inl (0, 100, .inl (fun _ => 0)) : va_E)] = c16 at Wc16 hcc16 kc16 sc16 x_sc16 hl17  ⊢
  generalize G13 ++ [70] = G16 at Wc16 h0c16 tc16 xc16 yc16 
  obtain ⟨c18, ec18, Wc18, hcc18, sc18, lc18⟩ := raw_p (v := .ref c15.length) Wc16 h0c16 hcc16 (j := 6) (by simp)
  refine wb ec18 ?_
  simp only [List.set] at hcc18
  have x_sc18 := Zsm.tr x_sc16 sc18
  have hl18 : c18.length = c.length + 6 := lc18.trans hl17
  refine wb (v := ()) (by decide) ?_
  obtain ⟨Wc19, hcc19, h0c19, tc19, kc19, xc19, sc19, lc19⟩ := raw_n (T := 71) (e := .inl (0, 100, .inl (fun _ => 0))) Wc18 hcc18 h0c16 ⟨_, rfl, fun _ _ => rgi (by decide) (by decide)⟩
  refine wb (v := c18 ++ [(.inl (0, 100, .inl (fun _ => 0)) : va_E)]) rfl ?_
  have yc19 := Zx.tr yc16 xc19
  have x_sc19 := Zsm.tr x_sc18 sc19
  have hl20 : (c18 ++ [(.inl (0, 100, .inl (fun _ => 0)) : va_E)]).length = c.length + 7 := by rw [lc19, hl18]
  generalize c18 ++ [(.inl (0, 100, .inl (fun _ => 0)) : va_E)] = c19 at Wc19 hcc19 kc19 sc19 x_sc19 hl20  ⊢
  generalize G16 ++ [71] = G19 at Wc19 h0c19 tc19 xc19 yc19 
  obtain ⟨c21, ec21, Wc21, hcc21, sc21, lc21⟩ := raw_p (v := .ref c18.length) Wc19 h0c19 hcc19 (j := 7) (by simp)
  refine wb ec21 ?_
  simp only [List.set] at hcc21
  have x_sc21 := Zsm.tr x_sc19 sc21
  have hl21 : c21.length = c.length + 7 := lc21.trans hl20
  refine wb (v := ()) (by decide) ?_
  obtain ⟨Wc22, hcc22, h0c22, tc22, kc22, xc22, sc22, lc22⟩ := raw_n (T := 72) (e := .inl (0, 3328, .inl (fun _ => 0))) Wc21 hcc21 h0c19 ⟨_, rfl, fun _ _ => trivial⟩
  refine wb (v := c21 ++ [(.inl (0, 3328, .inl (fun _ => 0)) : va_E)]) rfl ?_
  have yc22 := Zx.tr yc19 xc22
  have x_sc22 := Zsm.tr x_sc21 sc22
  have hl23 : (c21 ++ [(.inl (0, 3328, .inl (fun _ => 0)) : va_E)]).length = c.length + 8 := by rw [lc22, hl21]
  generalize c21 ++ [(.inl (0, 3328, .inl (fun _ => 0)) : va_E)] = c22 at Wc22 hcc22 kc22 sc22 x_sc22 hl23  ⊢
  generalize G19 ++ [72] = G22 at Wc22 h0c22 tc22 xc22 yc22 
  obtain ⟨c24, ec24, Wc24, hcc24, sc24, lc24⟩ := raw_p (v := .ref c21.length) Wc22 h0c22 hcc22 (j := 9) (by simp)
  refine wb ec24 ?_
  simp only [List.set] at hcc24
  have x_sc24 := Zsm.tr x_sc22 sc24
  have hl24 : c24.length = c.length + 8 := lc24.trans hl23
  obtain ⟨c25, ec25, Wc25, hcc25, sc25, lc25⟩ := raw_p (v := .int 1) Wc24 h0c22 hcc24 (j := 10) (by simp)
  refine wb ec25 ?_
  simp only [List.set] at hcc25
  have x_sc25 := Zsm.tr x_sc24 sc25
  have hl25 : c25.length = c.length + 8 := lc25.trans hl24
  refine wb (v := ()) (by decide) ?_
  obtain ⟨Wc26, hcc26, h0c26, tc26, kc26, xc26, sc26, lc26⟩ := raw_n (T := 73) (e := .inl (1, 1500, .inl (fun _ => 0))) Wc25 hcc25 h0c22 ⟨_, rfl, fun _ _ => trivial⟩
  refine wb (v := c25 ++ [(.inl (1, 1500, .inl (fun _ => 0)) : va_E)]) rfl ?_
  have yc26 := Zx.tr yc22 xc26
  have x_sc26 := Zsm.tr x_sc25 sc26
  have hl27 : (c25 ++ [(.inl (1, 1500, .inl (fun _ => 0)) : va_E)]).length = c.length + 9 := by rw [lc26, hl25]
  generalize c25 ++ [(.inl (1, 1500, .inl (fun _ => 0)) : va_E)] = c26 at Wc26 hcc26 kc26 sc26 x_sc26 hl27  ⊢
  generalize G22 ++ [73] = G26 at Wc26 h0c26 tc26 xc26 yc26 
  obtain ⟨c28, ec28, Wc28, hcc28, sc28, lc28⟩ := raw_p (v := .ref c25.length) Wc26 h0c26 hcc26 (j := 12) (by simp)
  refine wb ec28 ?_
  simp only [List.set] at hcc28
  have x_sc28 := Zsm.tr x_sc26 sc28
  have hl28 : c28.length = c.length + 9 := lc28.trans hl27
  refine wb (v := ()) (by decide) ?_
  obtain ⟨Wc29, hcc29, h0c29, tc29, kc29, xc29, sc29, lc29⟩ := raw_n (T := 74) (e := .inl (0, 1502, .inl (fun _ => 0))) Wc28 hcc28 h0c26 ⟨_, rfl, fun _ _ => trivial⟩
  refine wb (v := c28 ++ [(.inl (0, 1502, .inl (fun _ => 0)) : va_E)]) rfl ?_
  have yc29 := Zx.tr yc26 xc29
  have x_sc29 := Zsm.tr x_sc28 sc29
  have hl30 : (c28 ++ [(.inl (0, 1502, .inl (fun _ => 0)) : va_E)]).length = c.length + 10 := by rw [lc29, hl28]
  generalize c28 ++ [(.inl (0, 1502, .inl (fun _ => 0)) : va_E)] = c29 at Wc29 hcc29 kc29 sc29 x_sc29 hl30  ⊢
  generalize G26 ++ [74] = G29 at Wc29 h0c29 tc29 xc29 yc29 
  obtain ⟨c31, ec31, Wc31, hcc31, sc31, lc31⟩ := raw_p (v := .ref c28.length) Wc29 h0c29 hcc29 (j := 14) (by simp)
  refine wb ec31 ?_
  simp only [List.set] at hcc31
  have x_sc31 := Zsm.tr x_sc29 sc31
  have hl31 : c31.length = c.length + 10 := lc31.trans hl30
  refine wb (v := ()) (by decide) ?_
  obtain ⟨Wc32, hcc32, h0c32, tc32, kc32, xc32, sc32, lc32⟩ := raw_n (T := 75) (e := .inl (0, 1502, .inl (fun _ => 0))) Wc31 hcc31 h0c29 ⟨_, rfl, fun _ _ => trivial⟩
  refine wb (v := c31 ++ [(.inl (0, 1502, .inl (fun _ => 0)) : va_E)]) rfl ?_
  have yc32 := Zx.tr yc29 xc32
  have x_sc32 := Zsm.tr x_sc31 sc32
  have hl33 : (c31 ++ [(.inl (0, 1502, .inl (fun _ => 0)) : va_E)]).length = c.length + 11 := by rw [lc32, hl31]
  generalize c31 ++ [(.inl (0, 1502, .inl (fun _ => 0)) : va_E)] = c32 at Wc32 hcc32 kc32 sc32 x_sc32 hl33  ⊢
  generalize G29 ++ [75] = G32 at Wc32 h0c32 tc32 xc32 yc32 
  obtain ⟨c34, ec34, Wc34, hcc34, sc34, lc34⟩ := raw_p (v := .ref c31.length) Wc32 h0c32 hcc32 (j := 15) (by simp)
  refine wb ec34 ?_
  simp only [List.set] at hcc34
  have x_sc34 := Zsm.tr x_sc32 sc34
  have hl34 : c34.length = c.length + 11 := lc34.trans hl33
  refine wb (v := ()) (by decide) ?_
  obtain ⟨Wc35, hcc35, h0c35, tc35, kc35, xc35, sc35, lc35⟩ := raw_n (T := 76) (e := .inl (0, 1502, .inl (fun _ => 0))) Wc34 hcc34 h0c32 ⟨_, rfl, fun _ _ => trivial⟩
  refine wb (v := c34 ++ [(.inl (0, 1502, .inl (fun _ => 0)) : va_E)]) rfl ?_
  have yc35 := Zx.tr yc32 xc35
  have x_sc35 := Zsm.tr x_sc34 sc35
  have hl36 : (c34 ++ [(.inl (0, 1502, .inl (fun _ => 0)) : va_E)]).length = c.length + 12 := by rw [lc35, hl34]
  generalize c34 ++ [(.inl (0, 1502, .inl (fun _ => 0)) : va_E)] = c35 at Wc35 hcc35 kc35 sc35 x_sc35 hl36  ⊢
  generalize G32 ++ [76] = G35 at Wc35 h0c35 tc35 xc35 yc35 
  obtain ⟨c37, ec37, Wc37, hcc37, sc37, lc37⟩ := raw_p (v := .ref c34.length) Wc35 h0c35 hcc35 (j := 16) (by simp)
  refine wb ec37 ?_
  simp only [List.set] at hcc37
  have x_sc37 := Zsm.tr x_sc35 sc37
  have hl37 : c37.length = c.length + 12 := lc37.trans hl36
  obtain ⟨c38, ec38, Wc38, hcc38, sc38, lc38⟩ := raw_p (v := .int (-2)) Wc37 h0c35 hcc37 (j := 21) (by simp)
  refine wb ec38 ?_
  simp only [List.set] at hcc38
  have x_sc38 := Zsm.tr x_sc37 sc38
  have hl38 : c38.length = c.length + 12 := lc38.trans hl37
  refine wb (v := ()) (by decide) ?_
  obtain ⟨Wc39, hcc39, h0c39, tc39, kc39, xc39, sc39, lc39⟩ := raw_n (T := 77) (e := .inl (0, 8, .inl (fun _ => 0))) Wc38 hcc38 h0c35 ⟨_, rfl, fun _ _ => rgi (by decide) (by decide)⟩
  refine wb (v := c38 ++ [(.inl (0, 8, .inl (fun _ => 0)) : va_E)]) rfl ?_
  have yc39 := Zx.tr yc35 xc39
  have x_sc39 := Zsm.tr x_sc38 sc39
  have hl40 : (c38 ++ [(.inl (0, 8, .inl (fun _ => 0)) : va_E)]).length = c.length + 13 := by rw [lc39, hl38]
  generalize c38 ++ [(.inl (0, 8, .inl (fun _ => 0)) : va_E)] = c39 at Wc39 hcc39 kc39 sc39 x_sc39 hl40  ⊢
  generalize G35 ++ [77] = G39 at Wc39 h0c39 tc39 xc39 yc39 
  obtain ⟨c41, ec41, Wc41, hcc41, sc41, lc41⟩ := raw_p (v := .ref c38.length) Wc39 h0c39 hcc39 (j := 22) (by simp)
  refine wb ec41 ?_
  simp only [List.set] at hcc41
  have x_sc41 := Zsm.tr x_sc39 sc41
  have hl41 : c41.length = c.length + 13 := lc41.trans hl40
  refine wb (v := ()) (by decide) ?_
  obtain ⟨Wc42, hcc42, h0c42, tc42, kc42, xc42, sc42, lc42⟩ := raw_n (T := 78) (e := .inl (6, 8, .inl (fun _ => 0))) Wc41 hcc41 h0c39 ⟨_, rfl, fun _ _ => rgi (by decide) (by decide)⟩
  refine wb (v := c41 ++ [(.inl (6, 8, .inl (fun _ => 0)) : va_E)]) rfl ?_
  have yc42 := Zx.tr yc39 xc42
  have x_sc42 := Zsm.tr x_sc41 sc42
  have hl43 : (c41 ++ [(.inl (6, 8, .inl (fun _ => 0)) : va_E)]).length = c.length + 14 := by rw [lc42, hl41]
  generalize c41 ++ [(.inl (6, 8, .inl (fun _ => 0)) : va_E)] = c42 at Wc42 hcc42 kc42 sc42 x_sc42 hl43  ⊢
  generalize G39 ++ [78] = G42 at Wc42 h0c42 tc42 xc42 yc42 
  obtain ⟨c44, ec44, Wc44, hcc44, sc44, lc44⟩ := raw_p (v := .ref c41.length) Wc42 h0c42 hcc42 (j := 23) (by simp)
  refine wb ec44 ?_
  simp only [List.set] at hcc44
  have x_sc44 := Zsm.tr x_sc42 sc44
  have hl44 : c44.length = c.length + 14 := lc44.trans hl43
  obtain ⟨c45, ec45, Wc45, hcc45, sc45, lc45⟩ := raw_p (v := .int 8) Wc44 h0c42 hcc44 (j := 24) (by simp)
  refine wb ec45 ?_
  simp only [List.set] at hcc45
  have x_sc45 := Zsm.tr x_sc44 sc45
  have hl45 : c45.length = c.length + 14 := lc45.trans hl44
  refine wb (v := ()) (by decide) ?_
  obtain ⟨Wc46, hcc46, h0c46, tc46, kc46, xc46, sc46, lc46⟩ := raw_n (T := 79) (e := .inl (0, 9, .inl (fun _ => 0))) Wc45 hcc45 h0c42 ⟨_, rfl, fun _ _ => rgi (by decide) (by decide)⟩
  refine wb (v := c45 ++ [(.inl (0, 9, .inl (fun _ => 0)) : va_E)]) rfl ?_
  have yc46 := Zx.tr yc42 xc46
  have x_sc46 := Zsm.tr x_sc45 sc46
  have hl47 : (c45 ++ [(.inl (0, 9, .inl (fun _ => 0)) : va_E)]).length = c.length + 15 := by rw [lc46, hl45]
  generalize c45 ++ [(.inl (0, 9, .inl (fun _ => 0)) : va_E)] = c46 at Wc46 hcc46 kc46 sc46 x_sc46 hl47  ⊢
  generalize G42 ++ [79] = G46 at Wc46 h0c46 tc46 xc46 yc46 
  obtain ⟨c48, ec48, Wc48, hcc48, sc48, lc48⟩ := raw_p (v := .ref c45.length) Wc46 h0c46 hcc46 (j := 26) (by simp)
  refine wb ec48 ?_
  simp only [List.set] at hcc48
  have x_sc48 := Zsm.tr x_sc46 sc48
  have hl48 : c48.length = c.length + 15 := lc48.trans hl47
  refine wb (v := ()) (by decide) ?_
  obtain ⟨Wc49, hcc49, h0c49, tc49, kc49, xc49, sc49, lc49⟩ := raw_n (T := 80) (e := .inl (0, 9, .inl (fun _ => 0))) Wc48 hcc48 h0c46 ⟨_, rfl, fun _ _ => rgi (by decide) (by decide)⟩
  refine wb (v := c48 ++ [(.inl (0, 9, .inl (fun _ => 0)) : va_E)]) rfl ?_
  have yc49 := Zx.tr yc46 xc49
  have x_sc49 := Zsm.tr x_sc48 sc49
  have hl50 : (c48 ++ [(.inl (0, 9, .inl (fun _ => 0)) : va_E)]).length = c.length + 16 := by rw [lc49, hl48]
  generalize c48 ++ [(.inl (0, 9, .inl (fun _ => 0)) : va_E)] = c49 at Wc49 hcc49 kc49 sc49 x_sc49 hl50  ⊢
  generalize G46 ++ [80] = G49 at Wc49 h0c49 tc49 xc49 yc49 
  obtain ⟨c51, ec51, Wc51, hcc51, sc51, lc51⟩ := raw_p (v := .ref c48.length) Wc49 h0c49 hcc49 (j := 27) (by simp)
  refine wb ec51 ?_
  simp only [List.set] at hcc51
  have x_sc51 := Zsm.tr x_sc49 sc51
  have hl51 : c51.length = c.length + 16 := lc51.trans hl50
  refine wb (v := ()) (by decide) ?_
  obtain ⟨Wc52, hcc52, h0c52, tc52, kc52, xc52, sc52, lc52⟩ := raw_n (T := 81) (e := .inl (0, 9, .inl (fun _ => 0))) Wc51 hcc51 h0c49 ⟨_, rfl, fun _ _ => rgi (by decide) (by decide)⟩
  refine wb (v := c51 ++ [(.inl (0, 9, .inl (fun _ => 0)) : va_E)]) rfl ?_
  have yc52 := Zx.tr yc49 xc52
  have x_sc52 := Zsm.tr x_sc51 sc52
  have hl53 : (c51 ++ [(.inl (0, 9, .inl (fun _ => 0)) : va_E)]).length = c.length + 17 := by rw [lc52, hl51]
  generalize c51 ++ [(.inl (0, 9, .inl (fun _ => 0)) : va_E)] = c52 at Wc52 hcc52 kc52 sc52 x_sc52 hl53  ⊢
  generalize G49 ++ [81] = G52 at Wc52 h0c52 tc52 xc52 yc52 
  obtain ⟨c54, ec54, Wc54, hcc54, sc54, lc54⟩ := raw_p (v := .ref c51.length) Wc52 h0c52 hcc52 (j := 28) (by simp)
  refine wb ec54 ?_
  simp only [List.set] at hcc54
  have x_sc54 := Zsm.tr x_sc52 sc54
  have hl54 : c54.length = c.length + 17 := lc54.trans hl53
  refine wb (v := ()) (by decide) ?_
  obtain ⟨Wc55, hcc55, h0c55, tc55, kc55, xc55, sc55, lc55⟩ := raw_n (T := 82) (e := .inl (0, 72, .inl (fun _ => 0))) Wc54 hcc54 h0c52 ⟨_, rfl, fun _ _ => trivial⟩
  refine wb (v := c54 ++ [(.inl (0, 72, .inl (fun _ => 0)) : va_E)]) rfl ?_
  have yc55 := Zx.tr yc52 xc55
  have x_sc55 := Zsm.tr x_sc54 sc55
  have hl56 : (c54 ++ [(.inl (0, 72, .inl (fun _ => 0)) : va_E)]).length = c.length + 18 := by rw [lc55, hl54]
  generalize c54 ++ [(.inl (0, 72, .inl (fun _ => 0)) : va_E)] = c55 at Wc55 hcc55 kc55 sc55 x_sc55 hl56  ⊢
  generalize G52 ++ [82] = G55 at Wc55 h0c55 tc55 xc55 yc55 
  obtain ⟨c57, ec57, Wc57, hcc57, sc57, lc57⟩ := raw_p (v := .ref c54.length) Wc55 h0c55 hcc55 (j := 29) (by simp)
  refine wb ec57 ?_
  simp only [List.set] at hcc57
  have x_sc57 := Zsm.tr x_sc55 sc57
  have hl57 : c57.length = c.length + 18 := lc57.trans hl56
  refine wb (v := ()) (by decide) ?_
  obtain ⟨Wc58, hcc58, h0c58, tc58, kc58, xc58, sc58, lc58⟩ := raw_n (T := 83) (e := .inl (0, 5760, .inl (fun _ => 0))) Wc57 hcc57 h0c55 ⟨_, rfl, fun _ _ => trivial⟩
  refine wb (v := c57 ++ [(.inl (0, 5760, .inl (fun _ => 0)) : va_E)]) rfl ?_
  have yc58 := Zx.tr yc55 xc58
  have x_sc58 := Zsm.tr x_sc57 sc58
  have hl59 : (c57 ++ [(.inl (0, 5760, .inl (fun _ => 0)) : va_E)]).length = c.length + 19 := by rw [lc58, hl57]
  generalize c57 ++ [(.inl (0, 5760, .inl (fun _ => 0)) : va_E)] = c58 at Wc58 hcc58 kc58 sc58 x_sc58 hl59  ⊢
  generalize G55 ++ [83] = G58 at Wc58 h0c58 tc58 xc58 yc58 
  obtain ⟨c60, ec60, Wc60, hcc60, sc60, lc60⟩ := raw_p (v := .ref c57.length) Wc58 h0c58 hcc58 (j := 30) (by simp)
  refine wb ec60 ?_
  simp only [List.set] at hcc60
  have x_sc60 := Zsm.tr x_sc58 sc60
  have hl60 : c60.length = c.length + 19 := lc60.trans hl59
  refine wb (v := ()) (by decide) ?_
  obtain ⟨Wc61, hcc61, h0c61, tc61, kc61, xc61, sc61, lc61⟩ := raw_n (T := 84) (e := .inl (0, 9, .inl (fun _ => 0))) Wc60 hcc60 h0c58 ⟨_, rfl, fun _ _ => rgi (by decide) (by decide)⟩
  refine wb (v := c60 ++ [(.inl (0, 9, .inl (fun _ => 0)) : va_E)]) rfl ?_
  have yc61 := Zx.tr yc58 xc61
  have x_sc61 := Zsm.tr x_sc60 sc61
  have hl62 : (c60 ++ [(.inl (0, 9, .inl (fun _ => 0)) : va_E)]).length = c.length + 20 := by rw [lc61, hl60]
  generalize c60 ++ [(.inl (0, 9, .inl (fun _ => 0)) : va_E)] = c61 at Wc61 hcc61 kc61 sc61 x_sc61 hl62  ⊢
  generalize G58 ++ [84] = G61 at Wc61 h0c61 tc61 xc61 yc61 
  obtain ⟨c63, ec63, Wc63, hcc63, sc63, lc63⟩ := raw_p (v := .ref c60.length) Wc61 h0c61 hcc61 (j := 31) (by simp)
  refine wb ec63 ?_
  simp only [List.set] at hcc63
  have x_sc63 := Zsm.tr x_sc61 sc63
  have hl63 : c63.length = c.length + 20 := lc63.trans hl62
  refine wb (v := ()) (by decide) ?_
  obtain ⟨Wc64, hcc64, h0c64, tc64, kc64, xc64, sc64, lc64⟩ := raw_n (T := 85) (e := .inl (0, 99, .inl (fun _ => 0))) Wc63 hcc63 h0c61 ⟨_, rfl, fun _ _ => trivial⟩
  refine wb (v := c63 ++ [(.inl (0, 99, .inl (fun _ => 0)) : va_E)]) rfl ?_
  have yc64 := Zx.tr yc61 xc64
  have x_sc64 := Zsm.tr x_sc63 sc64
  have hl65 : (c63 ++ [(.inl (0, 99, .inl (fun _ => 0)) : va_E)]).length = c.length + 21 := by rw [lc64, hl63]
  generalize c63 ++ [(.inl (0, 99, .inl (fun _ => 0)) : va_E)] = c64 at Wc64 hcc64 kc64 sc64 x_sc64 hl65  ⊢
  generalize G61 ++ [85] = G64 at Wc64 h0c64 tc64 xc64 yc64 
  obtain ⟨c66, ec66, Wc66, hcc66, sc66, lc66⟩ := raw_p (v := .ref c63.length) Wc64 h0c64 hcc64 (j := 32) (by simp)
  refine wb ec66 ?_
  simp only [List.set] at hcc66
  have x_sc66 := Zsm.tr x_sc64 sc66
  have hl66 : c66.length = c.length + 21 := lc66.trans hl65
  refine wb (v := ()) (by decide) ?_
  obtain ⟨Wc67, hcc67, h0c67, tc67, kc67, xc67, sc67, lc67⟩ := raw_n (T := 86) (e := .inl (0, 99, .inl (fun _ => 0))) Wc66 hcc66 h0c64 ⟨_, rfl, fun _ _ => trivial⟩
  refine wb (v := c66 ++ [(.inl (0, 99, .inl (fun _ => 0)) : va_E)]) rfl ?_
  have yc67 := Zx.tr yc64 xc67
  have x_sc67 := Zsm.tr x_sc66 sc67
  have hl68 : (c66 ++ [(.inl (0, 99, .inl (fun _ => 0)) : va_E)]).length = c.length + 22 := by rw [lc67, hl66]
  generalize c66 ++ [(.inl (0, 99, .inl (fun _ => 0)) : va_E)] = c67 at Wc67 hcc67 kc67 sc67 x_sc67 hl68  ⊢
  generalize G64 ++ [86] = G67 at Wc67 h0c67 tc67 xc67 yc67 
  obtain ⟨c69, ec69, Wc69, hcc69, sc69, lc69⟩ := raw_p (v := .ref c66.length) Wc67 h0c67 hcc67 (j := 33) (by simp)
  refine wb ec69 ?_
  simp only [List.set] at hcc69
  have x_sc69 := Zsm.tr x_sc67 sc69
  have hl69 : c69.length = c.length + 22 := lc69.trans hl68
  refine wb (v := ()) (by decide) ?_
  obtain ⟨Wc70, hcc70, h0c70, tc70, kc70, xc70, sc70, lc70⟩ := raw_n (T := 87) (e := .inl (0, 99, .inl (fun _ => 0))) Wc69 hcc69 h0c67 ⟨_, rfl, fun _ _ => trivial⟩
  refine wb (v := c69 ++ [(.inl (0, 99, .inl (fun _ => 0)) : va_E)]) rfl ?_
  have yc70 := Zx.tr yc67 xc70
  have x_sc70 := Zsm.tr x_sc69 sc70
  have hl71 : (c69 ++ [(.inl (0, 99, .inl (fun _ => 0)) : va_E)]).length = c.length + 23 := by rw [lc70, hl69]
  generalize c69 ++ [(.inl (0, 99, .inl (fun _ => 0)) : va_E)] = c70 at Wc70 hcc70 kc70 sc70 x_sc70 hl71  ⊢
  generalize G67 ++ [87] = G70 at Wc70 h0c70 tc70 xc70 yc70 
  obtain ⟨c72, ec72, Wc72, hcc72, sc72, lc72⟩ := raw_p (v := .ref c69.length) Wc70 h0c70 hcc70 (j := 34) (by simp)
  refine wb ec72 ?_
  simp only [List.set] at hcc72
  have x_sc72 := Zsm.tr x_sc70 sc72
  have hl72 : c72.length = c.length + 23 := lc72.trans hl71
  refine wb (v := ()) (by decide) ?_
  obtain ⟨Wc73, hcc73, h0c73, tc73, kc73, xc73, sc73, lc73⟩ := raw_n (T := 88) (e := .inl (0, 99, .inl (fun _ => 0))) Wc72 hcc72 h0c70 ⟨_, rfl, fun _ _ => rgi (by decide) (by decide)⟩
  refine wb (v := c72 ++ [(.inl (0, 99, .inl (fun _ => 0)) : va_E)]) rfl ?_
  have yc73 := Zx.tr yc70 xc73
  have x_sc73 := Zsm.tr x_sc72 sc73
  have hl74 : (c72 ++ [(.inl (0, 99, .inl (fun _ => 0)) : va_E)]).length = c.length + 24 := by rw [lc73, hl72]
  generalize c72 ++ [(.inl (0, 99, .inl (fun _ => 0)) : va_E)] = c73 at Wc73 hcc73 kc73 sc73 x_sc73 hl74  ⊢
  generalize G70 ++ [88] = G73 at Wc73 h0c73 tc73 xc73 yc73 
  obtain ⟨c75, ec75, Wc75, hcc75, sc75, lc75⟩ := raw_p (v := .ref c72.length) Wc73 h0c73 hcc73 (j := 35) (by simp)
  refine wb ec75 ?_
  simp only [List.set] at hcc75
  have x_sc75 := Zsm.tr x_sc73 sc75
  have hl75 : c75.length = c.length + 24 := lc75.trans hl74
  refine wb (v := ()) (by decide) ?_
  obtain ⟨Wc76, hcc76, h0c76, tc76, kc76, xc76, sc76, lc76⟩ := raw_n (T := 89) (e := .inl (6, 99, .inl (fun _ => 0))) Wc75 hcc75 h0c73 ⟨_, rfl, fun _ _ => rgi (by decide) (by decide)⟩
  refine wb (v := c75 ++ [(.inl (6, 99, .inl (fun _ => 0)) : va_E)]) rfl ?_
  have yc76 := Zx.tr yc73 xc76
  have x_sc76 := Zsm.tr x_sc75 sc76
  have hl77 : (c75 ++ [(.inl (6, 99, .inl (fun _ => 0)) : va_E)]).length = c.length + 25 := by rw [lc76, hl75]
  generalize c75 ++ [(.inl (6, 99, .inl (fun _ => 0)) : va_E)] = c76 at Wc76 hcc76 kc76 sc76 x_sc76 hl77  ⊢
  generalize G73 ++ [89] = G76 at Wc76 h0c76 tc76 xc76 yc76 
  obtain ⟨c78, ec78, Wc78, hcc78, sc78, lc78⟩ := raw_p (v := .ref c75.length) Wc76 h0c76 hcc76 (j := 36) (by simp)
  refine wb ec78 ?_
  simp only [List.set] at hcc78
  have x_sc78 := Zsm.tr x_sc76 sc78
  have hl78 : c78.length = c.length + 25 := lc78.trans hl77
  refine wb (v := ()) (by decide) ?_
  obtain ⟨Wc79, hcc79, h0c79, tc79, kc79, xc79, sc79, lc79⟩ := raw_n (T := 90) (e := .inl (0, 99, .inl (fun _ => 0))) Wc78 hcc78 h0c76 ⟨_, rfl, fun _ _ => trivial⟩
  refine wb (v := c78 ++ [(.inl (0, 99, .inl (fun _ => 0)) : va_E)]) rfl ?_
  have yc79 := Zx.tr yc76 xc79
  have x_sc79 := Zsm.tr x_sc78 sc79
  have hl80 : (c78 ++ [(.inl (0, 99, .inl (fun _ => 0)) : va_E)]).length = c.length + 26 := by rw [lc79, hl78]
  generalize c78 ++ [(.inl (0, 99, .inl (fun _ => 0)) : va_E)] = c79 at Wc79 hcc79 kc79 sc79 x_sc79 hl80  ⊢
  generalize G76 ++ [90] = G79 at Wc79 h0c79 tc79 xc79 yc79 
  obtain ⟨c81, ec81, Wc81, hcc81, sc81, lc81⟩ := raw_p (v := .ref c78.length) Wc79 h0c79 hcc79 (j := 37) (by simp)
  refine wb ec81 ?_
  simp only [List.set] at hcc81
  have x_sc81 := Zsm.tr x_sc79 sc81
  have hl81 : c81.length = c.length + 26 := lc81.trans hl80
  refine wb (v := ()) (by decide) ?_
  obtain ⟨Wc82, hcc82, h0c82, tc82, kc82, xc82, sc82, lc82⟩ := raw_n (T := 91) (e := .inl (0, 99, .inl (fun _ => 0))) Wc81 hcc81 h0c79 ⟨_, rfl, fun _ _ => trivial⟩
  refine wb (v := c81 ++ [(.inl (0, 99, .inl (fun _ => 0)) : va_E)]) rfl ?_
  have yc82 := Zx.tr yc79 xc82
  have x_sc82 := Zsm.tr x_sc81 sc82
  have hl83 : (c81 ++ [(.inl (0, 99, .inl (fun _ => 0)) : va_E)]).length = c.length + 27 := by rw [lc82, hl81]
  generalize c81 ++ [(.inl (0, 99, .inl (fun _ => 0)) : va_E)] = c82 at Wc82 hcc82 kc82 sc82 x_sc82 hl83  ⊢
  generalize G79 ++ [91] = G82 at Wc82 h0c82 tc82 xc82 yc82 
  obtain ⟨c84, ec84, Wc84, hcc84, sc84, lc84⟩ := raw_p (v := .ref c81.length) Wc82 h0c82 hcc82 (j := 38) (by simp)
  refine wb ec84 ?_
  simp only [List.set] at hcc84
  have x_sc84 := Zsm.tr x_sc82 sc84
  have hl84 : c84.length = c.length + 27 := lc84.trans hl83
  refine wb (v := ()) (by decide) ?_
  obtain ⟨Wc85, hcc85, h0c85, tc85, kc85, xc85, sc85, lc85⟩ := raw_n (T := 92) (e := .inl (0, 99, .inl (fun _ => 0))) Wc84 hcc84 h0c82 ⟨_, rfl, fun _ _ => rgi (by decide) (by decide)⟩
  refine wb (v := c84 ++ [(.inl (0, 99, .inl (fun _ => 0)) : va_E)]) rfl ?_
  have yc85 := Zx.tr yc82 xc85
  have x_sc85 := Zsm.tr x_sc84 sc85
  have hl86 : (c84 ++ [(.inl (0, 99, .inl (fun _ => 0)) : va_E)]).length = c.length + 28 := by rw [lc85, hl84]
  generalize c84 ++ [(.inl (0, 99, .inl (fun _ => 0)) : va_E)] = c85 at Wc85 hcc85 kc85 sc85 x_sc85 hl86  ⊢
  generalize G82 ++ [92] = G85 at Wc85 h0c85 tc85 xc85 yc85 
  obtain ⟨c87, ec87, Wc87, hcc87, sc87, lc87⟩ := raw_p (v := .ref c84.length) Wc85 h0c85 hcc85 (j := 39) (by simp)
  refine wb ec87 ?_
  simp only [List.set] at hcc87
  have x_sc87 := Zsm.tr x_sc85 sc87
  have hl87 : c87.length = c.length + 28 := lc87.trans hl86
  refine wb (v := ()) (by decide) ?_
  obtain ⟨Wc88, hcc88, h0c88, tc88, kc88, xc88, sc88, lc88⟩ := raw_n (T := 93) (e := .inl (0, 1584, .inl (fun _ => 0))) Wc87 hcc87 h0c85 ⟨_, rfl, fun _ _ => rgi (by decide) (by decide)⟩
  refine wb (v := c87 ++ [(.inl (0, 1584, .inl (fun _ => 0)) : va_E)]) rfl ?_
  have yc88 := Zx.tr yc85 xc88
  have x_sc88 := Zsm.tr x_sc87 sc88
  have hl89 : (c87 ++ [(.inl (0, 1584, .inl (fun _ => 0)) : va_E)]).length = c.length + 29 := by rw [lc88, hl87]
  generalize c87 ++ [(.inl (0, 1584, .inl (fun _ => 0)) : va_E)] = c88 at Wc88 hcc88 kc88 sc88 x_sc88 hl89  ⊢
  generalize G85 ++ [93] = G88 at Wc88 h0c88 tc88 xc88 yc88 
  obtain ⟨c90, ec90, Wc90, hcc90, sc90, lc90⟩ := raw_p (v := .ref c87.length) Wc88 h0c88 hcc88 (j := 40) (by simp)
  refine wb ec90 ?_
  simp only [List.set] at hcc90
  have x_sc90 := Zsm.tr x_sc88 sc90
  have hl90 : c90.length = c.length + 29 := lc90.trans hl89
  refine wb (v := ()) (by decide) ?_
  obtain ⟨Wc91, hcc91, h0c91, tc91, kc91, xc91, sc91, lc91⟩ := raw_n (T := 94) (e := .inl (6, 1584, .inl (fun _ => 0))) Wc90 hcc90 h0c88 ⟨_, rfl, fun _ _ => rgi (by decide) (by decide)⟩
  refine wb (v := c90 ++ [(.inl (6, 1584, .inl (fun _ => 0)) : va_E)]) rfl ?_
  have yc91 := Zx.tr yc88 xc91
  have x_sc91 := Zsm.tr x_sc90 sc91
  have hl92 : (c90 ++ [(.inl (6, 1584, .inl (fun _ => 0)) : va_E)]).length = c.length + 30 := by rw [lc91, hl90]
  generalize c90 ++ [(.inl (6, 1584, .inl (fun _ => 0)) : va_E)] = c91 at Wc91 hcc91 kc91 sc91 x_sc91 hl92  ⊢
  generalize G88 ++ [94] = G91 at Wc91 h0c91 tc91 xc91 yc91 
  obtain ⟨c93, ec93, Wc93, hcc93, sc93, lc93⟩ := raw_p (v := .ref c90.length) Wc91 h0c91 hcc91 (j := 41) (by simp)
  refine wb ec93 ?_
  simp only [List.set] at hcc93
  have x_sc93 := Zsm.tr x_sc91 sc93
  have hl93 : c93.length = c.length + 30 := lc93.trans hl92
  refine wb (v := ()) (by decide) ?_
  obtain ⟨Wc94, hcc94, h0c94, tc94, kc94, xc94, sc94, lc94⟩ := raw_n (T := 95) (e := .inl (0, 1584, .inl (fun _ => 0))) Wc93 hcc93 h0c91 ⟨_, rfl, fun _ _ => trivial⟩
  refine wb (v := c93 ++ [(.inl (0, 1584, .inl (fun _ => 0)) : va_E)]) rfl ?_
  have yc94 := Zx.tr yc91 xc94
  have x_sc94 := Zsm.tr x_sc93 sc94
  have hl95 : (c93 ++ [(.inl (0, 1584, .inl (fun _ => 0)) : va_E)]).length = c.length + 31 := by rw [lc94, hl93]
  generalize c93 ++ [(.inl (0, 1584, .inl (fun _ => 0)) : va_E)] = c94 at Wc94 hcc94 kc94 sc94 x_sc94 hl95  ⊢
  generalize G91 ++ [95] = G94 at Wc94 h0c94 tc94 xc94 yc94 
  obtain ⟨c96, ec96, Wc96, hcc96, sc96, lc96⟩ := raw_p (v := .ref c93.length) Wc94 h0c94 hcc94 (j := 42) (by simp)
  refine wb ec96 ?_
  simp only [List.set] at hcc96
  have x_sc96 := Zsm.tr x_sc94 sc96
  have hl96 : c96.length = c.length + 31 := lc96.trans hl95
  refine wb (v := ()) (by decide) ?_
  obtain ⟨Wc97, hcc97, h0c97, tc97, kc97, xc97, sc97, lc97⟩ := raw_n (T := 96) (e := .inl (0, 9, .inl (fun _ => 0))) Wc96 hcc96 h0c94 ⟨_, rfl, fun _ _ => rgi (by decide) (by decide)⟩
  refine wb (v := c96 ++ [(.inl (0, 9, .inl (fun _ => 0)) : va_E)]) rfl ?_
  have yc97 := Zx.tr yc94 xc97
  have x_sc97 := Zsm.tr x_sc96 sc97
  have hl98 : (c96 ++ [(.inl (0, 9, .inl (fun _ => 0)) : va_E)]).length = c.length + 32 := by rw [lc97, hl96]
  generalize c96 ++ [(.inl (0, 9, .inl (fun _ => 0)) : va_E)] = c97 at Wc97 hcc97 kc97 sc97 x_sc97 hl98  ⊢
  generalize G94 ++ [96] = G97 at Wc97 h0c97 tc97 xc97 yc97 
  obtain ⟨c99, ec99, Wc99, hcc99, sc99, lc99⟩ := raw_p (v := .ref c96.length) Wc97 h0c97 hcc97 (j := 43) (by simp)
  refine wb ec99 ?_
  simp only [List.set] at hcc99
  have x_sc99 := Zsm.tr x_sc97 sc99
  have hl99 : c99.length = c.length + 32 := lc99.trans hl98
  refine wb (v := ()) (by decide) ?_
  obtain ⟨Wc100, hcc100, h0c100, tc100, kc100, xc100, sc100, lc100⟩ := raw_n (T := 97) (e := .inl (0, 72, .inl (fun _ => 0))) Wc99 hcc99 h0c97 ⟨_, rfl, fun _ _ => trivial⟩
  refine wb (v := c99 ++ [(.inl (0, 72, .inl (fun _ => 0)) : va_E)]) rfl ?_
  have yc100 := Zx.tr yc97 xc100
  have x_sc100 := Zsm.tr x_sc99 sc100
  have hl101 : (c99 ++ [(.inl (0, 72, .inl (fun _ => 0)) : va_E)]).length = c.length + 33 := by rw [lc100, hl99]
  generalize c99 ++ [(.inl (0, 72, .inl (fun _ => 0)) : va_E)] = c100 at Wc100 hcc100 kc100 sc100 x_sc100 hl101  ⊢
  generalize G97 ++ [97] = G100 at Wc100 h0c100 tc100 xc100 yc100 
  obtain ⟨c102, ec102, Wc102, hcc102, sc102, lc102⟩ := raw_p (v := .ref c99.length) Wc100 h0c100 hcc100 (j := 44) (by simp)
  refine wb ec102 ?_
  simp only [List.set] at hcc102
  have x_sc102 := Zsm.tr x_sc100 sc102
  have hl102 : c102.length = c.length + 33 := lc102.trans hl101
  refine wb (v := ()) (by decide) ?_
  obtain ⟨Wc103, hcc103, h0c103, tc103, kc103, xc103, sc103, lc103⟩ := raw_n (T := 98) (e := .inl (0, 72, .inl (fun _ => 0))) Wc102 hcc102 h0c100 ⟨_, rfl, fun _ _ => rgi (by decide) (by decide)⟩
  refine wb (v := c102 ++ [(.inl (0, 72, .inl (fun _ => 0)) : va_E)]) rfl ?_
  have yc103 := Zx.tr yc100 xc103
  have x_sc103 := Zsm.tr x_sc102 sc103
  have hl104 : (c102 ++ [(.inl (0, 72, .inl (fun _ => 0)) : va_E)]).length = c.length + 34 := by rw [lc103, hl102]
  generalize c102 ++ [(.inl (0, 72, .inl (fun _ => 0)) : va_E)] = c103 at Wc103 hcc103 kc103 sc103 x_sc103 hl104  ⊢
  generalize G100 ++ [98] = G103 at Wc103 h0c103 tc103 xc103 yc103 
  obtain ⟨c105, ec105, Wc105, hcc105, sc105, lc105⟩ := raw_p (v := .ref c102.length) Wc103 h0c103 hcc103 (j := 45) (by simp)
  refine wb ec105 ?_
  simp only [List.set] at hcc105
  have x_sc105 := Zsm.tr x_sc103 sc105
  have hl105 : c105.length = c.length + 34 := lc105.trans hl104
  refine wb (v := ()) (by decide) ?_
  obtain ⟨Wc106, hcc106, h0c106, tc106, kc106, xc106, sc106, lc106⟩ := raw_n (T := 99) (e := .inl (0, 9, .inl (fun _ => 0))) Wc105 hcc105 h0c103 ⟨_, rfl, fun _ _ => rgi (by decide) (by decide)⟩
  refine wb (v := c105 ++ [(.inl (0, 9, .inl (fun _ => 0)) : va_E)]) rfl ?_
  have yc106 := Zx.tr yc103 xc106
  have x_sc106 := Zsm.tr x_sc105 sc106
  have hl107 : (c105 ++ [(.inl (0, 9, .inl (fun _ => 0)) : va_E)]).length = c.length + 35 := by rw [lc106, hl105]
  generalize c105 ++ [(.inl (0, 9, .inl (fun _ => 0)) : va_E)] = c106 at Wc106 hcc106 kc106 sc106 x_sc106 hl107  ⊢
  generalize G103 ++ [99] = G106 at Wc106 h0c106 tc106 xc106 yc106 
  obtain ⟨c108, ec108, Wc108, hcc108, sc108, lc108⟩ := raw_p (v := .ref c105.length) Wc106 h0c106 hcc106 (j := 46) (by simp)
  refine wb ec108 ?_
  simp only [List.set] at hcc108
  have x_sc108 := Zsm.tr x_sc106 sc108
  have hl108 : c108.length = c.length + 35 := lc108.trans hl107
  refine wb (v := ()) (by decide) ?_
  obtain ⟨Wc109, hcc109, h0c109, tc109, kc109, xc109, sc109, lc109⟩ := raw_n (T := 100) (e := .inl (0, 9, .inl (fun _ => 0))) Wc108 hcc108 h0c106 ⟨_, rfl, fun _ _ => rgi (by decide) (by decide)⟩
  refine wb (v := c108 ++ [(.inl (0, 9, .inl (fun _ => 0)) : va_E)]) rfl ?_
  have yc109 := Zx.tr yc106 xc109
  have x_sc109 := Zsm.tr x_sc108 sc109
  have hl110 : (c108 ++ [(.inl (0, 9, .inl (fun _ => 0)) : va_E)]).length = c.length + 36 := by rw [lc109, hl108]
  generalize c108 ++ [(.inl (0, 9, .inl (fun _ => 0)) : va_E)] = c109 at Wc109 hcc109 kc109 sc109 x_sc109 hl110  ⊢
  generalize G106 ++ [100] = G109 at Wc109 h0c109 tc109 xc109 yc109 
  obtain ⟨c111, ec111, Wc111, hcc111, sc111, lc111⟩ := raw_p (v := .ref c108.length) Wc109 h0c109 hcc109 (j := 47) (by simp)
  refine wb ec111 ?_
  simp only [List.set] at hcc111
  have x_sc111 := Zsm.tr x_sc109 sc111
  have hl111 : c111.length = c.length + 36 := lc111.trans hl110
  refine wb (v := ()) (by decide) ?_
  obtain ⟨Wc112, hcc112, h0c112, tc112, kc112, xc112, sc112, lc112⟩ := raw_n (T := 101) (e := .inl (0, 9, .inl (fun _ => 0))) Wc111 hcc111 h0c109 ⟨_, rfl, fun _ _ => trivial⟩
  refine wb (v := c111 ++ [(.inl (0, 9, .inl (fun _ => 0)) : va_E)]) rfl ?_
  have yc112 := Zx.tr yc109 xc112
  have x_sc112 := Zsm.tr x_sc111 sc112
  have hl113 : (c111 ++ [(.inl (0, 9, .inl (fun _ => 0)) : va_E)]).length = c.length + 37 := by rw [lc112, hl111]
  generalize c111 ++ [(.inl (0, 9, .inl (fun _ => 0)) : va_E)] = c112 at Wc112 hcc112 kc112 sc112 x_sc112 hl113  ⊢
  generalize G109 ++ [101] = G112 at Wc112 h0c112 tc112 xc112 yc112 
  obtain ⟨c114, ec114, Wc114, hcc114, sc114, lc114⟩ := raw_p (v := .ref c111.length) Wc112 h0c112 hcc112 (j := 48) (by simp)
  refine wb ec114 ?_
  simp only [List.set] at hcc114
  have x_sc114 := Zsm.tr x_sc112 sc114
  have hl114 : c114.length = c.length + 37 := lc114.trans hl113
  refine wb (v := ()) (by decide) ?_
  obtain ⟨Wc115, hcc115, h0c115, tc115, kc115, xc115, sc115, lc115⟩ := raw_n (T := 102) (e := .inl (0, 9, .inl (fun _ => 0))) Wc114 hcc114 h0c112 ⟨_, rfl, fun _ _ => trivial⟩
  refine wb (v := c114 ++ [(.inl (0, 9, .inl (fun _ => 0)) : va_E)]) rfl ?_
  have yc115 := Zx.tr yc112 xc115
  have x_sc115 := Zsm.tr x_sc114 sc115
  have hl116 : (c114 ++ [(.inl (0, 9, .inl (fun _ => 0)) : va_E)]).length = c.length + 38 := by rw [lc115, hl114]
  generalize c114 ++ [(.inl (0, 9, .inl (fun _ => 0)) : va_E)] = c115 at Wc115 hcc115 kc115 sc115 x_sc115 hl116  ⊢
  generalize G112 ++ [102] = G115 at Wc115 h0c115 tc115 xc115 yc115 
  obtain ⟨c117, ec117, Wc117, hcc117, sc117, lc117⟩ := raw_p (v := .ref c114.length) Wc115 h0c115 hcc115 (j := 49) (by simp)
  refine wb ec117 ?_
  simp only [List.set] at hcc117
  have x_sc117 := Zsm.tr x_sc115 sc117
  have hl117 : c117.length = c.length + 38 := lc117.trans hl116
  refine wb (v := ()) (by decide) ?_
  obtain ⟨Wc118, hcc118, h0c118, tc118, kc118, xc118, sc118, lc118⟩ := raw_n (T := 103) (e := .inl (0, 4608, .inl (fun _ => 0))) Wc117 hcc117 h0c115 ⟨_, rfl, fun _ _ => trivial⟩
  refine wb (v := c117 ++ [(.inl (0, 4608, .inl (fun _ => 0)) : va_E)]) rfl ?_
  have yc118 := Zx.tr yc115 xc118
  have x_sc118 := Zsm.tr x_sc117 sc118
  have hl119 : (c117 ++ [(.inl (0, 4608, .inl (fun _ => 0)) : va_E)]).length = c.length + 39 := by rw [lc118, hl117]
  generalize c117 ++ [(.inl (0, 4608, .inl (fun _ => 0)) : va_E)] = c118 at Wc118 hcc118 kc118 sc118 x_sc118 hl119  ⊢
  generalize G115 ++ [103] = G118 at Wc118 h0c118 tc118 xc118 yc118 
  obtain ⟨c120, ec120, Wc120, hcc120, sc120, lc120⟩ := raw_p (v := .ref c117.length) Wc118 h0c118 hcc118 (j := 50) (by simp)
  refine wb ec120 ?_
  simp only [List.set] at hcc120
  have x_sc120 := Zsm.tr x_sc118 sc120
  have hl120 : c120.length = c.length + 39 := lc120.trans hl119
  refine wb (v := ()) (by decide) ?_
  obtain ⟨Wc121, hcc121, h0c121, tc121, kc121, xc121, sc121, lc121⟩ := raw_n (T := 104) (e := .inl (0, 4608, .inl (fun _ => 0))) Wc120 hcc120 h0c118 ⟨_, rfl, fun _ _ => trivial⟩
  refine wb (v := c120 ++ [(.inl (0, 4608, .inl (fun _ => 0)) : va_E)]) rfl ?_
  have yc121 := Zx.tr yc118 xc121
  have x_sc121 := Zsm.tr x_sc120 sc121
  have hl122 : (c120 ++ [(.inl (0, 4608, .inl (fun _ => 0)) : va_E)]).length = c.length + 40 := by rw [lc121, hl120]
  generalize c120 ++ [(.inl (0, 4608, .inl (fun _ => 0)) : va_E)] = c121 at Wc121 hcc121 kc121 sc121 x_sc121 hl122  ⊢
  generalize G118 ++ [104] = G121 at Wc121 h0c121 tc121 xc121 yc121 
  obtain ⟨c123, ec123, Wc123, hcc123, sc123, lc123⟩ := raw_p (v := .ref c120.length) Wc121 h0c121 hcc121 (j := 51) (by simp)
  refine wb ec123 ?_
  simp only [List.set] at hcc123
  have x_sc123 := Zsm.tr x_sc121 sc123
  have hl123 : c123.length = c.length + 40 := lc123.trans hl122
  refine wb (v := ()) (by decide) ?_
  obtain ⟨Wc124, hcc124, h0c124, tc124, kc124, xc124, sc124, lc124⟩ := raw_n (T := 105) (e := .inl (0, 66, .inl (fun _ => 0))) Wc123 hcc123 h0c121 ⟨_, rfl, fun _ _ => (Or.inr (Or.inl ⟨by decide, by decide⟩))⟩
  refine wb (v := c123 ++ [(.inl (0, 66, .inl (fun _ => 0)) : va_E)]) rfl ?_
  have yc124 := Zx.tr yc121 xc124
  have x_sc124 := Zsm.tr x_sc123 sc124
  have hl125 : (c123 ++ [(.inl (0, 66, .inl (fun _ => 0)) : va_E)]).length = c.length + 41 := by rw [lc124, hl123]
  generalize c123 ++ [(.inl (0, 66, .inl (fun _ => 0)) : va_E)] = c124 at Wc124 hcc124 kc124 sc124 x_sc124 hl125  ⊢
  generalize G121 ++ [105] = G124 at Wc124 h0c124 tc124 xc124 yc124 
  obtain ⟨c126, ec126, Wc126, hcc126, sc126, lc126⟩ := raw_p (v := .ref c123.length) Wc124 h0c124 hcc124 (j := 54) (by simp)
  refine wb ec126 ?_
  simp only [List.set] at hcc126
  have x_sc126 := Zsm.tr x_sc124 sc126
  have hl126 : c126.length = c.length + 41 := lc126.trans hl125
  refine wb (v := ()) (by decide) ?_
  obtain ⟨Wc127, hcc127, h0c127, tc127, kc127, xc127, sc127, lc127⟩ := raw_n (T := 106) (e := .inl (0, 66, .inl (fun _ => 0))) Wc126 hcc126 h0c124 ⟨_, rfl, fun _ _ => (Or.inr (Or.inl ⟨by decide, by decide⟩))⟩
  refine wb (v := c126 ++ [(.inl (0, 66, .inl (fun _ => 0)) : va_E)]) rfl ?_
  have yc127 := Zx.tr yc124 xc127
  have x_sc127 := Zsm.tr x_sc126 sc127
  have hl128 : (c126 ++ [(.inl (0, 66, .inl (fun _ => 0)) : va_E)]).length = c.length + 42 := by rw [lc127, hl126]
  generalize c126 ++ [(.inl (0, 66, .inl (fun _ => 0)) : va_E)] = c127 at Wc127 hcc127 kc127 sc127 x_sc127 hl128  ⊢
  generalize G124 ++ [106] = G127 at Wc127 h0c127 tc127 xc127 yc127 
  obtain ⟨c129, ec129, Wc129, hcc129, sc129, lc129⟩ := raw_p (v := .ref c126.length) Wc127 h0c127 hcc127 (j := 55) (by simp)
  refine wb ec129 ?_
  simp only [List.set] at hcc129
  have x_sc129 := Zsm.tr x_sc127 sc129
  have hl129 : c129.length = c.length + 42 := lc129.trans hl128
  refine wb (v := ()) (by decide) ?_
  obtain ⟨Wc130, hcc130, h0c130, tc130, kc130, xc130, sc130, lc130⟩ := raw_n (T := 107) (e := .inl (6, 64, .inl (fun _ => 0))) Wc129 hcc129 h0c127 ⟨_, rfl, fun _ _ => rgi (by decide) (by decide)⟩
  refine wb (v := c129 ++ [(.inl (6, 64, .inl (fun _ => 0)) : va_E)]) rfl ?_
  have yc130 := Zx.tr yc127 xc130
  have x_sc130 := Zsm.tr x_sc129 sc130
  have hl131 : (c129 ++ [(.inl (6, 64, .inl (fun _ => 0)) : va_E)]).length = c.length + 43 := by rw [lc130, hl129]
  generalize c129 ++ [(.inl (6, 64, .inl (fun _ => 0)) : va_E)] = c130 at Wc130 hcc130 kc130 sc130 x_sc130 hl131  ⊢
  generalize G127 ++ [107] = G130 at Wc130 h0c130 tc130 xc130 yc130 
  obtain ⟨c132, ec132, Wc132, hcc132, sc132, lc132⟩ := raw_p (v := .ref c129.length) Wc130 h0c130 hcc130 (j := 58) (by simp)
  refine wb ec132 ?_
  simp only [List.set] at hcc132
  have x_sc132 := Zsm.tr x_sc130 sc132
  have hl132 : c132.length = c.length + 43 := lc132.trans hl131
  refine wb (v := ()) (by decide) ?_
  obtain ⟨Wc133, hcc133, h0c133, tc133, kc133, xc133, sc133, lc133⟩ := raw_n (T := 108) (e := .inl (0, 64, .inl (fun _ => 0))) Wc132 hcc132 h0c130 ⟨_, rfl, fun _ _ => trivial⟩
  refine wb (v := c132 ++ [(.inl (0, 64, .inl (fun _ => 0)) : va_E)]) rfl ?_
  have yc133 := Zx.tr yc130 xc133
  have x_sc133 := Zsm.tr x_sc132 sc133
  have hl134 : (c132 ++ [(.inl (0, 64, .inl (fun _ => 0)) : va_E)]).length = c.length + 44 := by rw [lc133, hl132]
  generalize c132 ++ [(.inl (0, 64, .inl (fun _ => 0)) : va_E)] = c133 at Wc133 hcc133 kc133 sc133 x_sc133 hl134  ⊢
  generalize G130 ++ [108] = G133 at Wc133 h0c133 tc133 xc133 yc133 
  obtain ⟨c135, ec135, Wc135, hcc135, sc135, lc135⟩ := raw_p (v := .ref c132.length) Wc133 h0c133 hcc133 (j := 59) (by simp)
  refine wb ec135 ?_
  simp only [List.set] at hcc135
  have x_sc135 := Zsm.tr x_sc133 sc135
  have hl135 : c135.length = c.length + 44 := lc135.trans hl134
  refine wb (v := ()) (by decide) ?_
  obtain ⟨Wc136, hcc136, h0c136, tc136, kc136, xc136, sc136, lc136⟩ := raw_n (T := 109) (e := .inl (0, 64, .inl (fun _ => 0))) Wc135 hcc135 h0c133 ⟨_, rfl, fun _ _ => trivial⟩
  refine wb (v := c135 ++ [(.inl (0, 64, .inl (fun _ => 0)) : va_E)]) rfl ?_
  have yc136 := Zx.tr yc133 xc136
  have x_sc136 := Zsm.tr x_sc135 sc136
  have hl137 : (c135 ++ [(.inl (0, 64, .inl (fun _ => 0)) : va_E)]).length = c.length + 45 := by rw [lc136, hl135]
  generalize c135 ++ [(.inl (0, 64, .inl (fun _ => 0)) : va_E)] = c136 at Wc136 hcc136 kc136 sc136 x_sc136 hl137  ⊢
  generalize G133 ++ [109] = G136 at Wc136 h0c136 tc136 xc136 yc136 
  obtain ⟨c138, ec138, Wc138, hcc138, sc138, lc138⟩ := raw_p (v := .ref c135.length) Wc136 h0c136 hcc136 (j := 60) (by simp)
  refine wb ec138 ?_
  simp only [List.set] at hcc138
  have x_sc138 := Zsm.tr x_sc136 sc138
  have hl138 : c138.length = c.length + 45 := lc138.trans hl137
  refine wb (v := ()) (by decide) ?_
  obtain ⟨Wc139, hcc139, h0c139, tc139, kc139, xc139, sc139, lc139⟩ := raw_n (T := 110) (e := .inl (6, 64, .inl (fun _ => 0))) Wc138 hcc138 h0c136 ⟨_, rfl, fun _ _ => rgi (by decide) (by decide)⟩
  refine wb (v := c138 ++ [(.inl (6, 64, .inl (fun _ => 0)) : va_E)]) rfl ?_
  have yc139 := Zx.tr yc136 xc139
  have x_sc139 := Zsm.tr x_sc138 sc139
  have hl140 : (c138 ++ [(.inl (6, 64, .inl (fun _ => 0)) : va_E)]).length = c.length + 46 := by rw [lc139, hl138]
  generalize c138 ++ [(.inl (6, 64, .inl (fun _ => 0)) : va_E)] = c139 at Wc139 hcc139 kc139 sc139 x_sc139 hl140  ⊢
  generalize G136 ++ [110] = G139 at Wc139 h0c139 tc139 xc139 yc139 
  obtain ⟨c141, ec141, Wc141, hcc141, sc141, lc141⟩ := raw_p (v := .ref c138.length) Wc139 h0c139 hcc139 (j := 61) (by simp)
  refine wb ec141 ?_
  simp only [List.set] at hcc141
  have x_sc141 := Zsm.tr x_sc139 sc141
  have hl141 : c141.length = c.length + 46 := lc141.trans hl140
  refine wb (v := ()) (by decide) ?_
  obtain ⟨Wc142, hcc142, h0c142, tc142, kc142, xc142, sc142, lc142⟩ := raw_n (T := 111) (e := .inl (0, 64, .inl (fun _ => 0))) Wc141 hcc141 h0c139 ⟨_, rfl, fun _ _ => trivial⟩
  refine wb (v := c141 ++ [(.inl (0, 64, .inl (fun _ => 0)) : va_E)]) rfl ?_
  have yc142 := Zx.tr yc139 xc142
  have x_sc142 := Zsm.tr x_sc141 sc142
  have hl143 : (c141 ++ [(.inl (0, 64, .inl (fun _ => 0)) : va_E)]).length = c.length + 47 := by rw [lc142, hl141]
  generalize c141 ++ [(.inl (0, 64, .inl (fun _ => 0)) : va_E)] = c142 at Wc142 hcc142 kc142 sc142 x_sc142 hl143  ⊢
  generalize G139 ++ [111] = G142 at Wc142 h0c142 tc142 xc142 yc142 
  obtain ⟨c144, ec144, Wc144, hcc144, sc144, lc144⟩ := raw_p (v := .ref c141.length) Wc142 h0c142 hcc142 (j := 62) (by simp)
  refine wb ec144 ?_
  simp only [List.set] at hcc144
  have x_sc144 := Zsm.tr x_sc142 sc144
  have hl144 : c144.length = c.length + 47 := lc144.trans hl143
  refine wb (v := ()) (by decide) ?_
  obtain ⟨Wc145, hcc145, h0c145, tc145, kc145, xc145, sc145, lc145⟩ := raw_n (T := 112) (e := .inl (0, 64, .inl (fun _ => 0))) Wc144 hcc144 h0c142 ⟨_, rfl, fun _ _ => trivial⟩
  refine wb (v := c144 ++ [(.inl (0, 64, .inl (fun _ => 0)) : va_E)]) rfl ?_
  have yc145 := Zx.tr yc142 xc145
  have x_sc145 := Zsm.tr x_sc144 sc145
  have hl146 : (c144 ++ [(.inl (0, 64, .inl (fun _ => 0)) : va_E)]).length = c.length + 48 := by rw [lc145, hl144]
  generalize c144 ++ [(.inl (0, 64, .inl (fun _ => 0)) : va_E)] = c145 at Wc145 hcc145 kc145 sc145 x_sc145 hl146  ⊢
  generalize G142 ++ [112] = G145 at Wc145 h0c145 tc145 xc145 yc145 
  obtain ⟨c147, ec147, Wc147, hcc147, sc147, lc147⟩ := raw_p (v := .ref c144.length) Wc145 h0c145 hcc145 (j := 63) (by simp)
  refine wb ec147 ?_
  simp only [List.set] at hcc147
  have x_sc147 := Zsm.tr x_sc145 sc147
  have hl147 : c147.length = c.length + 48 := lc147.trans hl146
  refine wb (v := ()) (by decide) ?_
  obtain ⟨Wc148, hcc148, h0c148, tc148, kc148, xc148, sc148, lc148⟩ := raw_n (T := 113) (e := .inl (6, 64, .inl (fun _ => 0))) Wc147 hcc147 h0c145 ⟨_, rfl, fun _ _ => rgi (by decide) (by decide)⟩
  refine wb (v := c147 ++ [(.inl (6, 64, .inl (fun _ => 0)) : va_E)]) rfl ?_
  have yc148 := Zx.tr yc145 xc148
  have x_sc148 := Zsm.tr x_sc147 sc148
  have hl149 : (c147 ++ [(.inl (6, 64, .inl (fun _ => 0)) : va_E)]).length = c.length + 49 := by rw [lc148, hl147]
  generalize c147 ++ [(.inl (6, 64, .inl (fun _ => 0)) : va_E)] = c148 at Wc148 hcc148 kc148 sc148 x_sc148 hl149  ⊢
  generalize G145 ++ [113] = G148 at Wc148 h0c148 tc148 xc148 yc148 
  obtain ⟨c150, ec150, Wc150, hcc150, sc150, lc150⟩ := raw_p (v := .ref c147.length) Wc148 h0c148 hcc148 (j := 64) (by simp)
  refine wb ec150 ?_
  simp only [List.set] at hcc150
  have x_sc150 := Zsm.tr x_sc148 sc150
  have hl150 : c150.length = c.length + 49 := lc150.trans hl149
  refine wb (v := ()) (by decide) ?_
  obtain ⟨Wc151, hcc151, h0c151, tc151, kc151, xc151, sc151, lc151⟩ := raw_n (T := 114) (e := .inl (0, 1024, .inl (fun _ => 0))) Wc150 hcc150 h0c148 ⟨_, rfl, fun _ _ => trivial⟩
  refine wb (v := c150 ++ [(.inl (0, 1024, .inl (fun _ => 0)) : va_E)]) rfl ?_
  have yc151 := Zx.tr yc148 xc151
  have x_sc151 := Zsm.tr x_sc150 sc151
  have hl152 : (c150 ++ [(.inl (0, 1024, .inl (fun _ => 0)) : va_E)]).length = c.length + 50 := by rw [lc151, hl150]
  generalize c150 ++ [(.inl (0, 1024, .inl (fun _ => 0)) : va_E)] = c151 at Wc151 hcc151 kc151 sc151 x_sc151 hl152  ⊢
  generalize G148 ++ [114] = G151 at Wc151 h0c151 tc151 xc151 yc151 
  obtain ⟨c153, ec153, Wc153, hcc153, sc153, lc153⟩ := raw_p (v := .ref c150.length) Wc151 h0c151 hcc151 (j := 66) (by simp)
  refine wb ec153 ?_
  simp only [List.set] at hcc153
  have x_sc153 := Zsm.tr x_sc151 sc153
  have hl153 : c153.length = c.length + 50 := lc153.trans hl152
  refine wb (v := ()) (by decide) ?_
  obtain ⟨Wc154, hcc154, h0c154, tc154, kc154, xc154, sc154, lc154⟩ := raw_n (T := 115) (e := .inl (0, 1024, .inl (fun _ => 0))) Wc153 hcc153 h0c151 ⟨_, rfl, fun _ _ => trivial⟩
  refine wb (v := c153 ++ [(.inl (0, 1024, .inl (fun _ => 0)) : va_E)]) rfl ?_
  have yc154 := Zx.tr yc151 xc154
  have x_sc154 := Zsm.tr x_sc153 sc154
  have hl155 : (c153 ++ [(.inl (0, 1024, .inl (fun _ => 0)) : va_E)]).length = c.length + 51 := by rw [lc154, hl153]
  generalize c153 ++ [(.inl (0, 1024, .inl (fun _ => 0)) : va_E)] = c154 at Wc154 hcc154 kc154 sc154 x_sc154 hl155  ⊢
  generalize G151 ++ [115] = G154 at Wc154 h0c154 tc154 xc154 yc154 
  obtain ⟨c156, ec156, Wc156, hcc156, sc156, lc156⟩ := raw_p (v := .ref c153.length) Wc154 h0c154 hcc154 (j := 67) (by simp)
  refine wb ec156 ?_
  simp only [List.set] at hcc156
  have x_sc156 := Zsm.tr x_sc154 sc156
  have hl156 : c156.length = c.length + 51 := lc156.trans hl155
  refine wb (v := ()) (by decide) ?_
  obtain ⟨Wc157, hcc157, h0c157, tc157, kc157, xc157, sc157, lc157⟩ := raw_n (T := 116) (e := .inl (0, 1024, .inl (fun _ => 0))) Wc156 hcc156 h0c154 ⟨_, rfl, fun _ _ => trivial⟩
  refine wb (v := c156 ++ [(.inl (0, 1024, .inl (fun _ => 0)) : va_E)]) rfl ?_
  have yc157 := Zx.tr yc154 xc157
  have x_sc157 := Zsm.tr x_sc156 sc157
  have hl158 : (c156 ++ [(.inl (0, 1024, .inl (fun _ => 0)) : va_E)]).length = c.length + 52 := by rw [lc157, hl156]
  generalize c156 ++ [(.inl (0, 1024, .inl (fun _ => 0)) : va_E)] = c157 at Wc157 hcc157 kc157 sc157 x_sc157 hl158  ⊢
  generalize G154 ++ [116] = G157 at Wc157 h0c157 tc157 xc157 yc157 
  obtain ⟨c159, ec159, Wc159, hcc159, sc159, lc159⟩ := raw_p (v := .ref c156.length) Wc157 h0c157 hcc157 (j := 68) (by simp)
  refine wb ec159 ?_
  simp only [List.set] at hcc159
  have x_sc159 := Zsm.tr x_sc157 sc159
  have hl159 : c159.length = c.length + 52 := lc159.trans hl158
  refine wb (v := ()) (by decide) ?_
  obtain ⟨Wc160, hcc160, h0c160, tc160, kc160, xc160, sc160, lc160⟩ := raw_n (T := 117) (e := .inl (0, 2560, .inl (fun _ => 0))) Wc159 hcc159 h0c157 ⟨_, rfl, fun _ _ => trivial⟩
  refine wb (v := c159 ++ [(.inl (0, 2560, .inl (fun _ => 0)) : va_E)]) rfl ?_
  have yc160 := Zx.tr yc157 xc160
  have x_sc160 := Zsm.tr x_sc159 sc160
  have hl161 : (c159 ++ [(.inl (0, 2560, .inl (fun _ => 0)) : va_E)]).length = c.length + 53 := by rw [lc160, hl159]
  generalize c159 ++ [(.inl (0, 2560, .inl (fun _ => 0)) : va_E)] = c160 at Wc160 hcc160 kc160 sc160 x_sc160 hl161  ⊢
  generalize G157 ++ [117] = G160 at Wc160 h0c160 tc160 xc160 yc160 
  obtain ⟨c162, ec162, Wc162, hcc162, sc162, lc162⟩ := raw_p (v := .ref c159.length) Wc160 h0c160 hcc160 (j := 70) (by simp)
  refine wb ec162 ?_
  simp only [List.set] at hcc162
  have x_sc162 := Zsm.tr x_sc160 sc162
  have hl162 : c162.length = c.length + 53 := lc162.trans hl161
  refine wb (v := ()) (by decide) ?_
  obtain ⟨Wc163, hcc163, h0c163, tc163, kc163, xc163, sc163, lc163⟩ := raw_n (T := 118) (e := .inl (0, 272, .inl (fun _ => 0))) Wc162 hcc162 h0c160 ⟨_, rfl, fun _ _ => rgi (by decide) (by decide)⟩
  refine wb (v := c162 ++ [(.inl (0, 272, .inl (fun _ => 0)) : va_E)]) rfl ?_
  have yc163 := Zx.tr yc160 xc163
  have x_sc163 := Zsm.tr x_sc162 sc163
  have hl164 : (c162 ++ [(.inl (0, 272, .inl (fun _ => 0)) : va_E)]).length = c.length + 54 := by rw [lc163, hl162]
  generalize c162 ++ [(.inl (0, 272, .inl (fun _ => 0)) : va_E)] = c163 at Wc163 hcc163 kc163 sc163 x_sc163 hl164  ⊢
  generalize G160 ++ [118] = G163 at Wc163 h0c163 tc163 xc163 yc163 
  obtain ⟨c165, ec165, Wc165, hcc165, sc165, lc165⟩ := raw_p (v := .ref c162.length) Wc163 h0c163 hcc163 (j := 71) (by simp)
  refine wb ec165 ?_
  simp only [List.set] at hcc165
  have x_sc165 := Zsm.tr x_sc163 sc165
  have hl165 : c165.length = c.length + 54 := lc165.trans hl164
  refine wb (v := ()) (by decide) ?_
  obtain ⟨Wc166, hcc166, h0c166, tc166, kc166, xc166, sc166, lc166⟩ := raw_n (T := 119) (e := .inl (0, 272, .inl (fun _ => 0))) Wc165 hcc165 h0c163 ⟨_, rfl, fun _ _ => rgi (by decide) (by decide)⟩
  refine wb (v := c165 ++ [(.inl (0, 272, .inl (fun _ => 0)) : va_E)]) rfl ?_
  have yc166 := Zx.tr yc163 xc166
  have x_sc166 := Zsm.tr x_sc165 sc166
  have hl167 : (c165 ++ [(.inl (0, 272, .inl (fun _ => 0)) : va_E)]).length = c.length + 55 := by rw [lc166, hl165]
  generalize c165 ++ [(.inl (0, 272, .inl (fun _ => 0)) : va_E)] = c166 at Wc166 hcc166 kc166 sc166 x_sc166 hl167  ⊢
  generalize G163 ++ [119] = G166 at Wc166 h0c166 tc166 xc166 yc166 
  obtain ⟨c168, ec168, Wc168, hcc168, sc168, lc168⟩ := raw_p (v := .ref c165.length) Wc166 h0c166 hcc166 (j := 72) (by simp)
  refine wb ec168 ?_
  simp only [List.set] at hcc168
  have x_sc168 := Zsm.tr x_sc166 sc168
  have hl168 : c168.length = c.length + 55 := lc168.trans hl167
  refine wb (v := ()) (by decide) ?_
  obtain ⟨Wc169, hcc169, h0c169, tc169, kc169, xc169, sc169, lc169⟩ := raw_n (T := 120) (e := .inl (0, 272, .inl (fun _ => 0))) Wc168 hcc168 h0c166 ⟨_, rfl, fun _ _ => trivial⟩
  refine wb (v := c168 ++ [(.inl (0, 272, .inl (fun _ => 0)) : va_E)]) rfl ?_
  have yc169 := Zx.tr yc166 xc169
  have x_sc169 := Zsm.tr x_sc168 sc169
  have hl170 : (c168 ++ [(.inl (0, 272, .inl (fun _ => 0)) : va_E)]).length = c.length + 56 := by rw [lc169, hl168]
  generalize c168 ++ [(.inl (0, 272, .inl (fun _ => 0)) : va_E)] = c169 at Wc169 hcc169 kc169 sc169 x_sc169 hl170  ⊢
  generalize G166 ++ [120] = G169 at Wc169 h0c169 tc169 xc169 yc169 
  obtain ⟨c171, ec171, Wc171, hcc171, sc171, lc171⟩ := raw_p (v := .ref c168.length) Wc169 h0c169 hcc169 (j := 73) (by simp)
  refine wb ec171 ?_
  simp only [List.set] at hcc171
  have x_sc171 := Zsm.tr x_sc169 sc171
  have hl171 : c171.length = c.length + 56 := lc171.trans hl170
  refine wb (v := ()) (by decide) ?_
  obtain ⟨Wc172, hcc172, h0c172, tc172, kc172, xc172, sc172, lc172⟩ := raw_n (T := 121) (e := .inl (0, 8, .inl (fun _ => 0))) Wc171 hcc171 h0c169 ⟨_, rfl, fun _ _ => rgi (by decide) (by decide)⟩
  refine wb (v := c171 ++ [(.inl (0, 8, .inl (fun _ => 0)) : va_E)]) rfl ?_
  have yc172 := Zx.tr yc169 xc172
  have x_sc172 := Zsm.tr x_sc171 sc172
  have hl173 : (c171 ++ [(.inl (0, 8, .inl (fun _ => 0)) : va_E)]).length = c.length + 57 := by rw [lc172, hl171]
  generalize c171 ++ [(.inl (0, 8, .inl (fun _ => 0)) : va_E)] = c172 at Wc172 hcc172 kc172 sc172 x_sc172 hl173  ⊢
  generalize G169 ++ [121] = G172 at Wc172 h0c172 tc172 xc172 yc172 
  obtain ⟨c174, ec174, Wc174, hcc174, sc174, lc174⟩ := raw_p (v := .ref c171.length) Wc172 h0c172 hcc172 (j := 74) (by simp)
  refine wb ec174 ?_
  simp only [List.set] at hcc174
  have x_sc174 := Zsm.tr x_sc172 sc174
  have hl174 : c174.length = c.length + 57 := lc174.trans hl173
  refine wb (v := ()) (by decide) ?_
  obtain ⟨Wc175, hcc175, h0c175, tc175, kc175, xc175, sc175, lc175⟩ := raw_n (T := 122) (e := .inl (0, 8, .inl (fun _ => 0))) Wc174 hcc174 h0c172 ⟨_, rfl, fun _ _ => trivial⟩
  refine wb (v := c174 ++ [(.inl (0, 8, .inl (fun _ => 0)) : va_E)]) rfl ?_
  have yc175 := Zx.tr yc172 xc175
  have x_sc175 := Zsm.tr x_sc174 sc175
  have hl176 : (c174 ++ [(.inl (0, 8, .inl (fun _ => 0)) : va_E)]).length = c.length + 58 := by rw [lc175, hl174]
  generalize c174 ++ [(.inl (0, 8, .inl (fun _ => 0)) : va_E)] = c175 at Wc175 hcc175 kc175 sc175 x_sc175 hl176  ⊢
  generalize G172 ++ [122] = G175 at Wc175 h0c175 tc175 xc175 yc175 
  obtain ⟨c177, ec177, Wc177, hcc177, sc177, lc177⟩ := raw_p (v := .ref c174.length) Wc175 h0c175 hcc175 (j := 75) (by simp)
  refine wb ec177 ?_
  simp only [List.set] at hcc177
  have x_sc177 := Zsm.tr x_sc175 sc177
  have hl177 : c177.length = c.length + 58 := lc177.trans hl176
  refine wb (v := ()) (by decide) ?_
  obtain ⟨Wc178, hcc178, h0c178, tc178, kc178, xc178, sc178, lc178⟩ := raw_n (T := 123) (e := .inl (0, 256, .inl (fun _ => 0))) Wc177 hcc177 h0c175 ⟨_, rfl, fun _ _ => trivial⟩
  refine wb (v := c177 ++ [(.inl (0, 256, .inl (fun _ => 0)) : va_E)]) rfl ?_
  have yc178 := Zx.tr yc175 xc178
  have x_sc178 := Zsm.tr x_sc177 sc178
  have hl179 : (c177 ++ [(.inl (0, 256, .inl (fun _ => 0)) : va_E)]).length = c.length + 59 := by rw [lc178, hl177]
  generalize c177 ++ [(.inl (0, 256, .inl (fun _ => 0)) : va_E)] = c178 at Wc178 hcc178 kc178 sc178 x_sc178 hl179  ⊢
  generalize G175 ++ [123] = G178 at Wc178 h0c178 tc178 xc178 yc178 
  obtain ⟨c180, ec180, Wc180, hcc180, sc180, lc180⟩ := raw_p (v := .ref c177.length) Wc178 h0c178 hcc178 (j := 76) (by simp)
  refine wb ec180 ?_
  simp only [List.set] at hcc180
  have x_sc180 := Zsm.tr x_sc178 sc180
  have hl180 : c180.length = c.length + 59 := lc180.trans hl179
  refine wb (v := ()) (by decide) ?_
  obtain ⟨Wc181, hcc181, h0c181, tc181, kc181, xc181, sc181, lc181⟩ := raw_n (T := 124) (e := .inl (0, 1024, .inl (fun _ => 0))) Wc180 hcc180 h0c178 ⟨_, rfl, fun _ _ => rgi (by decide) (by decide)⟩
  refine wb (v := c180 ++ [(.inl (0, 1024, .inl (fun _ => 0)) : va_E)]) rfl ?_
  have yc181 := Zx.tr yc178 xc181
  have x_sc181 := Zsm.tr x_sc180 sc181
  have hl182 : (c180 ++ [(.inl (0, 1024, .inl (fun _ => 0)) : va_E)]).length = c.length + 60 := by rw [lc181, hl180]
  generalize c180 ++ [(.inl (0, 1024, .inl (fun _ => 0)) : va_E)] = c181 at Wc181 hcc181 kc181 sc181 x_sc181 hl182  ⊢
  generalize G178 ++ [124] = G181 at Wc181 h0c181 tc181 xc181 yc181 
  obtain ⟨c183, ec183, Wc183, hcc183, sc183, lc183⟩ := raw_p (v := .ref c180.length) Wc181 h0c181 hcc181 (j := 77) (by simp)
  refine wb ec183 ?_
  simp only [List.set] at hcc183
  have x_sc183 := Zsm.tr x_sc181 sc183
  have hl183 : c183.length = c.length + 60 := lc183.trans hl182
  refine wb (v := ()) (by decide) ?_
  obtain ⟨Wc184, hcc184, h0c184, tc184, kc184, xc184, sc184, lc184⟩ := raw_n (T := 125) (e := .inl (0, 160000, .inl (fun _ => 0))) Wc183 hcc183 h0c181 ⟨_, rfl, fun _ _ => trivial⟩
  refine wb (v := c183 ++ [(.inl (0, 160000, .inl (fun _ => 0)) : va_E)]) rfl ?_
  have yc184 := Zx.tr yc181 xc184
  have x_sc184 := Zsm.tr x_sc183 sc184
  have hl185 : (c183 ++ [(.inl (0, 160000, .inl (fun _ => 0)) : va_E)]).length = c.length + 61 := by rw [lc184, hl183]
  generalize c183 ++ [(.inl (0, 160000, .inl (fun _ => 0)) : va_E)] = c184 at Wc184 hcc184 kc184 sc184 x_sc184 hl185  ⊢
  generalize G181 ++ [125] = G184 at Wc184 h0c184 tc184 xc184 yc184 
  obtain ⟨c186, ec186, Wc186, hcc186, sc186, lc186⟩ := raw_p (v := .ref c183.length) Wc184 h0c184 hcc184 (j := 78) (by simp)
  refine wb ec186 ?_
  simp only [List.set] at hcc186
  have x_sc186 := Zsm.tr x_sc184 sc186
  have hl186 : c186.length = c.length + 61 := lc186.trans hl185
  refine wb (v := ()) (by decide) ?_
  obtain ⟨Wc187, hcc187, h0c187, tc187, kc187, xc187, sc187, lc187⟩ := raw_n (T := 126) (e := .inl (0, 20000, .inl (fun _ => 0))) Wc186 hcc186 h0c184 ⟨_, rfl, fun _ _ => rgi (by decide) (by decide)⟩
  refine wb (v := c186 ++ [(.inl (0, 20000, .inl (fun _ => 0)) : va_E)]) rfl ?_
  have yc187 := Zx.tr yc184 xc187
  have x_sc187 := Zsm.tr x_sc186 sc187
  have hl188 : (c186 ++ [(.inl (0, 20000, .inl (fun _ => 0)) : va_E)]).length = c.length + 62 := by rw [lc187, hl186]
  generalize c186 ++ [(.inl (0, 20000, .inl (fun _ => 0)) : va_E)] = c187 at Wc187 hcc187 kc187 sc187 x_sc187 hl188  ⊢
  generalize G184 ++ [126] = G187 at Wc187 h0c187 tc187 xc187 yc187 
  obtain ⟨c189, ec189, Wc189, hcc189, sc189, lc189⟩ := raw_p (v := .ref c186.length) Wc187 h0c187 hcc187 (j := 79) (by simp)
  refine wb ec189 ?_
  simp only [List.set] at hcc189
  have x_sc189 := Zsm.tr x_sc187 sc189
  have hl189 : c189.length = c.length + 62 := lc189.trans hl188
  refine wb (v := ()) (by decide) ?_
  obtain ⟨Wc190, hcc190, h0c190, tc190, kc190, xc190, sc190, lc190⟩ := raw_n (T := 127) (e := .inl (0, 20000, .inl (fun _ => 0))) Wc189 hcc189 h0c187 ⟨_, rfl, fun _ _ => rgi (by decide) (by decide)⟩
  refine wb (v := c189 ++ [(.inl (0, 20000, .inl (fun _ => 0)) : va_E)]) rfl ?_
  have yc190 := Zx.tr yc187 xc190
  have x_sc190 := Zsm.tr x_sc189 sc190
  have hl191 : (c189 ++ [(.inl (0, 20000, .inl (fun _ => 0)) : va_E)]).length = c.length + 63 := by rw [lc190, hl189]
  generalize c189 ++ [(.inl (0, 20000, .inl (fun _ => 0)) : va_E)] = c190 at Wc190 hcc190 kc190 sc190 x_sc190 hl191  ⊢
  generalize G187 ++ [127] = G190 at Wc190 h0c190 tc190 xc190 yc190 
  obtain ⟨c192, ec192, Wc192, hcc192, sc192, lc192⟩ := raw_p (v := .ref c189.length) Wc190 h0c190 hcc190 (j := 80) (by simp)
  refine wb ec192 ?_
  simp only [List.set] at hcc192
  have x_sc192 := Zsm.tr x_sc190 sc192
  have hl192 : c192.length = c.length + 63 := lc192.trans hl191
  refine wb (v := ()) (by decide) ?_
  obtain ⟨Wc193, hcc193, h0c193, tc193, kc193, xc193, sc193, lc193⟩ := raw_n (T := 128) (e := .inl (0, 640000, .inl (fun _ => 0))) Wc192 hcc192 h0c190 ⟨_, rfl, fun _ _ => trivial⟩
  refine wb (v := c192 ++ [(.inl (0, 640000, .inl (fun _ => 0)) : va_E)]) rfl ?_
  have yc193 := Zx.tr yc190 xc193
  have x_sc193 := Zsm.tr x_sc192 sc193
  have hl194 : (c192 ++ [(.inl (0, 640000, .inl (fun _ => 0)) : va_E)]).length = c.length + 64 := by rw [lc193, hl192]
  generalize c192 ++ [(.inl (0, 640000, .inl (fun _ => 0)) : va_E)] = c193 at Wc193 hcc193 kc193 sc193 x_sc193 hl194  ⊢
  generalize G190 ++ [128] = G193 at Wc193 h0c193 tc193 xc193 yc193 
  obtain ⟨c195, ec195, Wc195, hcc195, sc195, lc195⟩ := raw_p (v := .ref c192.length) Wc193 h0c193 hcc193 (j := 82) (by simp)
  refine wb ec195 ?_
  simp only [List.set] at hcc195
  have x_sc195 := Zsm.tr x_sc193 sc195
  have hl195 : c195.length = c.length + 64 := lc195.trans hl194
  refine wb (v := ()) (by decide) ?_
  obtain ⟨Wc196, hcc196, h0c196, tc196, kc196, xc196, sc196, lc196⟩ := raw_n (T := 129) (e := .inl (0, 4, .inl (fun _ => 0))) Wc195 hcc195 h0c193 ⟨_, rfl, fun _ _ => rgi (by decide) (by decide)⟩
  refine wb (v := c195 ++ [(.inl (0, 4, .inl (fun _ => 0)) : va_E)]) rfl ?_
  have yc196 := Zx.tr yc193 xc196
  have x_sc196 := Zsm.tr x_sc195 sc196
  have hl197 : (c195 ++ [(.inl (0, 4, .inl (fun _ => 0)) : va_E)]).length = c.length + 65 := by rw [lc196, hl195]
  generalize c195 ++ [(.inl (0, 4, .inl (fun _ => 0)) : va_E)] = c196 at Wc196 hcc196 kc196 sc196 x_sc196 hl197  ⊢
  generalize G193 ++ [129] = G196 at Wc196 h0c196 tc196 xc196 yc196 
  obtain ⟨c198, ec198, Wc198, hcc198, sc198, lc198⟩ := raw_p (v := .ref c195.length) Wc196 h0c196 hcc196 (j := 83) (by simp)
  refine wb ec198 ?_
  simp only [List.set] at hcc198
  have x_sc198 := Zsm.tr x_sc196 sc198
  have hl198 : c198.length = c.length + 65 := lc198.trans hl197
  refine wb (v := ()) (by decide) ?_
  obtain ⟨Wc199, hcc199, h0c199, tc199, kc199, xc199, sc199, lc199⟩ := raw_n (T := 130) (e := .inl (0, 4, .inl (fun _ => 0))) Wc198 hcc198 h0c196 ⟨_, rfl, fun _ _ => rgi (by decide) (by decide)⟩
  refine wb (v := c198 ++ [(.inl (0, 4, .inl (fun _ => 0)) : va_E)]) rfl ?_
  have yc199 := Zx.tr yc196 xc199
  have x_sc199 := Zsm.tr x_sc198 sc199
  have hl200 : (c198 ++ [(.inl (0, 4, .inl (fun _ => 0)) : va_E)]).length = c.length + 66 := by rw [lc199, hl198]
  generalize c198 ++ [(.inl (0, 4, .inl (fun _ => 0)) : va_E)] = c199 at Wc199 hcc199 kc199 sc199 x_sc199 hl200  ⊢
  generalize G196 ++ [130] = G199 at Wc199 h0c199 tc199 xc199 yc199 
  obtain ⟨c201, ec201, Wc201, hcc201, sc201, lc201⟩ := raw_p (v := .ref c198.length) Wc199 h0c199 hcc199 (j := 84) (by simp)
  refine wb ec201 ?_
  simp only [List.set] at hcc201
  have x_sc201 := Zsm.tr x_sc199 sc201
  have hl201 : c201.length = c.length + 66 := lc201.trans hl200
  refine wb (v := ()) (by decide) ?_
  obtain ⟨Wc202, hcc202, h0c202, tc202, kc202, xc202, sc202, lc202⟩ := raw_n (T := 131) (e := .inl (6, 4, .inl (fun _ => 0))) Wc201 hcc201 h0c199 ⟨_, rfl, fun _ _ => rgi (by decide) (by decide)⟩
  refine wb (v := c201 ++ [(.inl (6, 4, .inl (fun _ => 0)) : va_E)]) rfl ?_
  have yc202 := Zx.tr yc199 xc202
  have x_sc202 := Zsm.tr x_sc201 sc202
  have hl203 : (c201 ++ [(.inl (6, 4, .inl (fun _ => 0)) : va_E)]).length = c.length + 67 := by rw [lc202, hl201]
  generalize c201 ++ [(.inl (6, 4, .inl (fun _ => 0)) : va_E)] = c202 at Wc202 hcc202 kc202 sc202 x_sc202 hl203  ⊢
  generalize G199 ++ [131] = G202 at Wc202 h0c202 tc202 xc202 yc202 
  obtain ⟨c204, ec204, Wc204, hcc204, sc204, lc204⟩ := raw_p (v := .ref c201.length) Wc202 h0c202 hcc202 (j := 85) (by simp)
  refine wb ec204 ?_
  simp only [List.set] at hcc204
  have x_sc204 := Zsm.tr x_sc202 sc204
  have hl204 : c204.length = c.length + 67 := lc204.trans hl203
  refine wb (v := ()) (by decide) ?_
  obtain ⟨Wc205, hcc205, h0c205, tc205, kc205, xc205, sc205, lc205⟩ := raw_n (T := 132) (e := .inl (0, 8, .inl (fun _ => 0))) Wc204 hcc204 h0c202 ⟨_, rfl, fun _ _ => rgi (by decide) (by decide)⟩
  refine wb (v := c204 ++ [(.inl (0, 8, .inl (fun _ => 0)) : va_E)]) rfl ?_
  have yc205 := Zx.tr yc202 xc205
  have x_sc205 := Zsm.tr x_sc204 sc205
  have hl206 : (c204 ++ [(.inl (0, 8, .inl (fun _ => 0)) : va_E)]).length = c.length + 68 := by rw [lc205, hl204]
  generalize c204 ++ [(.inl (0, 8, .inl (fun _ => 0)) : va_E)] = c205 at Wc205 hcc205 kc205 sc205 x_sc205 hl206  ⊢
  generalize G202 ++ [132] = G205 at Wc205 h0c205 tc205 xc205 yc205 
  obtain ⟨c207, ec207, Wc207, hcc207, sc207, lc207⟩ := raw_p (v := .ref c204.length) Wc205 h0c205 hcc205 (j := 86) (by simp)
  refine wb ec207 ?_
  simp only [List.set] at hcc207
  have x_sc207 := Zsm.tr x_sc205 sc207
  have hl207 : c207.length = c.length + 68 := lc207.trans hl206
  refine wb (v := ()) (by decide) ?_
  obtain ⟨Wc208, hcc208, h0c208, tc208, kc208, xc208, sc208, lc208⟩ := raw_n (T := 133) (e := .inl (0, 160000, .inl (fun _ => 0))) Wc207 hcc207 h0c205 ⟨_, rfl, fun _ _ => trivial⟩
  refine wb (v := c207 ++ [(.inl (0, 160000, .inl (fun _ => 0)) : va_E)]) rfl ?_
  have yc208 := Zx.tr yc205 xc208
  have x_sc208 := Zsm.tr x_sc207 sc208
  have hl209 : (c207 ++ [(.inl (0, 160000, .inl (fun _ => 0)) : va_E)]).length = c.length + 69 := by rw [lc208, hl207]
  generalize c207 ++ [(.inl (0, 160000, .inl (fun _ => 0)) : va_E)] = c208 at Wc208 hcc208 kc208 sc208 x_sc208 hl209  ⊢
  generalize G205 ++ [133] = G208 at Wc208 h0c208 tc208 xc208 yc208 
  obtain ⟨c210, ec210, Wc210, hcc210, sc210, lc210⟩ := raw_p (v := .ref c207.length) Wc208 h0c208 hcc208 (j := 88) (by simp)
  refine wb ec210 ?_
  simp only [List.set] at hcc210
  have x_sc210 := Zsm.tr x_sc208 sc210
  have hl210 : c210.length = c.length + 69 := lc210.trans hl209
  refine wb (v := ()) (by decide) ?_
  obtain ⟨Wc211, hcc211, h0c211, tc211, kc211, xc211, sc211, lc211⟩ := raw_n (T := 134) (e := .inl (6, 99, .inl (fun _ => 0))) Wc210 hcc210 h0c208 ⟨_, rfl, fun _ _ => rgi (by decide) (by decide)⟩
  refine wb (v := c210 ++ [(.inl (6, 99, .inl (fun _ => 0)) : va_E)]) rfl ?_
  have yc211 := Zx.tr yc208 xc211
  have x_sc211 := Zsm.tr x_sc210 sc211
  have hl212 : (c210 ++ [(.inl (6, 99, .inl (fun _ => 0)) : va_E)]).length = c.length + 70 := by rw [lc211, hl210]
  generalize c210 ++ [(.inl (6, 99, .inl (fun _ => 0)) : va_E)] = c211 at Wc211 hcc211 kc211 sc211 x_sc211 hl212  ⊢
  generalize G208 ++ [134] = G211 at Wc211 h0c211 tc211 xc211 yc211 
  obtain ⟨c213, ec213, Wc213, hcc213, sc213, lc213⟩ := raw_p (v := .ref c210.length) Wc211 h0c211 hcc211 (j := 89) (by simp)
  refine wb ec213 ?_
  simp only [List.set] at hcc213
  have x_sc213 := Zsm.tr x_sc211 sc213
  have hl213 : c213.length = c.length + 70 := lc213.trans hl212
  have S214 := sc213
  have t215 := Zx.get (Zx.rf) h0c211 tc211 (by decide)
  have X216 := xc211
  have S217 := Zsm.tr sc211 S214
  have S218 := Zsm.tr sc210 S217
  have t219 := Zx.get (X216) h0c208 tc208 (by decide)
  have X220 := Zx.tr xc208 (X216)
  have S221 := Zsm.tr sc208 S218
  have S222 := Zsm.tr sc207 S221
  have t223 := Zx.get (X220) h0c205 tc205 (by decide)
  have X224 := Zx.tr xc205 (X220)
  have S225 := Zsm.tr sc205 S222
  have S226 := Zsm.tr sc204 S225
  have t227 := Zx.get (X224) h0c202 tc202 (by decide)
  have X228 := Zx.tr xc202 (X224)
  have S229 := Zsm.tr sc202 S226
  have S230 := Zsm.tr sc201 S229
  have t231 := Zx.get (X228) h0c199 tc199 (by decide)
  have X232 := Zx.tr xc199 (X228)
  have S233 := Zsm.tr sc199 S230
  have S234 := Zsm.tr sc198 S233
  have t235 := Zx.get (X232) h0c196 tc196 (by decide)
  have X236 := Zx.tr xc196 (X232)
  have S237 := Zsm.tr sc196 S234
  have S238 := Zsm.tr sc195 S237
  have t239 := Zx.get (X236) h0c193 tc193 (by decide)
  have X240 := Zx.tr xc193 (X236)
  have S241 := Zsm.tr sc193 S238
  have S242 := Zsm.tr sc192 S241
  have t243 := Zx.get (X240) h0c190 tc190 (by decide)
  have X244 := Zx.tr xc190 (X240)
  have S245 := Zsm.tr sc190 S242
  have S246 := Zsm.tr sc189 S245
  have t247 := Zx.get (X244) h0c187 tc187 (by decide)
  have X248 := Zx.tr xc187 (X244)
  have S249 := Zsm.tr sc187 S246
  have S250 := Zsm.tr sc186 S249
  have t251 := Zx.get (X248) h0c184 tc184 (by decide)
  have X252 := Zx.tr xc184 (X248)
  have S253 := Zsm.tr sc184 S250
  have S254 := Zsm.tr sc183 S253
  have t255 := Zx.get (X252) h0c181 tc181 (by decide)
  have X256 := Zx.tr xc181 (X252)
  have S257 := Zsm.tr sc181 S254
  have S258 := Zsm.tr sc180 S257
  have t259 := Zx.get (X256) h0c178 tc178 (by decide)
  have X260 := Zx.tr xc178 (X256)
  have S261 := Zsm.tr sc178 S258
  have S262 := Zsm.tr sc177 S261
  have t263 := Zx.get (X260) h0c175 tc175 (by decide)
  have X264 := Zx.tr xc175 (X260)
  have S265 := Zsm.tr sc175 S262
  have S266 := Zsm.tr sc174 S265
  have t267 := Zx.get (X264) h0c172 tc172 (by decide)
  have X268 := Zx.tr xc172 (X264)
  have S269 := Zsm.tr sc172 S266
  have S270 := Zsm.tr sc171 S269
  have t271 := Zx.get (X268) h0c169 tc169 (by decide)
  have X272 := Zx.tr xc169 (X268)
  have S273 := Zsm.tr sc169 S270
  have S274 := Zsm.tr sc168 S273
  have t275 := Zx.get (X272) h0c166 tc166 (by decide)
  have X276 := Zx.tr xc166 (X272)
  have S277 := Zsm.tr sc166 S274
  have S278 := Zsm.tr sc165 S277
  have t279 := Zx.get (X276) h0c163 tc163 (by decide)
  have X280 := Zx.tr xc163 (X276)
  have S281 := Zsm.tr sc163 S278
  have S282 := Zsm.tr sc162 S281
  have t283 := Zx.get (X280) h0c160 tc160 (by decide)
  have X284 := Zx.tr xc160 (X280)
  have S285 := Zsm.tr sc160 S282
  have S286 := Zsm.tr sc159 S285
  have t287 := Zx.get (X284) h0c157 tc157 (by decide)
  have X288 := Zx.tr xc157 (X284)
  have S289 := Zsm.tr sc157 S286
  have S290 := Zsm.tr sc156 S289
  have t291 := Zx.get (X288) h0c154 tc154 (by decide)
  have X292 := Zx.tr xc154 (X288)
  have S293 := Zsm.tr sc154 S290
  have S294 := Zsm.tr sc153 S293
  have t295 := Zx.get (X292) h0c151 tc151 (by decide)
  have X296 := Zx.tr xc151 (X292)
  have S297 := Zsm.tr sc151 S294
  have S298 := Zsm.tr sc150 S297
  have t299 := Zx.get (X296) h0c148 tc148 (by decide)
  have X300 := Zx.tr xc148 (X296)
  have S301 := Zsm.tr sc148 S298
  have S302 := Zsm.tr sc147 S301
  have t303 := Zx.get (X300) h0c145 tc145 (by decide)
  have X304 := Zx.tr xc145 (X300)
  have S305 := Zsm.tr sc145 S302
  have S306 := Zsm.tr sc144 S305
  have t307 := Zx.get (X304) h0c142 tc142 (by decide)
  have X308 := Zx.tr xc142 (X304)
  have S309 := Zsm.tr sc142 S306
  have S310 := Zsm.tr sc141 S309
  have t311 := Zx.get (X308) h0c139 tc139 (by decide)
  have X312 := Zx.tr xc139 (X308)
  have S313 := Zsm.tr sc139 S310
  have S314 := Zsm.tr sc138 S313
  have t315 := Zx.get (X312) h0c136 tc136 (by decide)
  have X316 := Zx.tr xc136 (X312)
  have S317 := Zsm.tr sc136 S314
  have S318 := Zsm.tr sc135 S317
  have t319 := Zx.get (X316) h0c133 tc133 (by decide)
  have X320 := Zx.tr xc133 (X316)
  have S321 := Zsm.tr sc133 S318
  have S322 := Zsm.tr sc132 S321
  have t323 := Zx.get (X320) h0c130 tc130 (by decide)
  have X324 := Zx.tr xc130 (X320)
  have S325 := Zsm.tr sc130 S322
  have S326 := Zsm.tr sc129 S325
  have t327 := Zx.get (X324) h0c127 tc127 (by decide)
  have X328 := Zx.tr xc127 (X324)
  have S329 := Zsm.tr sc127 S326
  have S330 := Zsm.tr sc126 S329
  have t331 := Zx.get (X328) h0c124 tc124 (by decide)
  have X332 := Zx.tr xc124 (X328)
  have S333 := Zsm.tr sc124 S330
  have S334 := Zsm.tr sc123 S333
  have t335 := Zx.get (X332) h0c121 tc121 (by decide)
  have X336 := Zx.tr xc121 (X332)
  have S337 := Zsm.tr sc121 S334
  have S338 := Zsm.tr sc120 S337
  have t339 := Zx.get (X336) h0c118 tc118 (by decide)
  have X340 := Zx.tr xc118 (X336)
  have S341 := Zsm.tr sc118 S338
  have S342 := Zsm.tr sc117 S341
  have t343 := Zx.get (X340) h0c115 tc115 (by decide)
  have X344 := Zx.tr xc115 (X340)
  have S345 := Zsm.tr sc115 S342
  have S346 := Zsm.tr sc114 S345
  have t347 := Zx.get (X344) h0c112 tc112 (by decide)
  have X348 := Zx.tr xc112 (X344)
  have S349 := Zsm.tr sc112 S346
  have S350 := Zsm.tr sc111 S349
  have t351 := Zx.get (X348) h0c109 tc109 (by decide)
  have X352 := Zx.tr xc109 (X348)
  have S353 := Zsm.tr sc109 S350
  have S354 := Zsm.tr sc108 S353
  have t355 := Zx.get (X352) h0c106 tc106 (by decide)
  have X356 := Zx.tr xc106 (X352)
  have S357 := Zsm.tr sc106 S354
  have S358 := Zsm.tr sc105 S357
  have t359 := Zx.get (X356) h0c103 tc103 (by decide)
  have X360 := Zx.tr xc103 (X356)
  have S361 := Zsm.tr sc103 S358
  have S362 := Zsm.tr sc102 S361
  have t363 := Zx.get (X360) h0c100 tc100 (by decide)
  have X364 := Zx.tr xc100 (X360)
  have S365 := Zsm.tr sc100 S362
  have S366 := Zsm.tr sc99 S365
  have t367 := Zx.get (X364) h0c97 tc97 (by decide)
  have X368 := Zx.tr xc97 (X364)
  have S369 := Zsm.tr sc97 S366
  have S370 := Zsm.tr sc96 S369
  have t371 := Zx.get (X368) h0c94 tc94 (by decide)
  have X372 := Zx.tr xc94 (X368)
  have S373 := Zsm.tr sc94 S370
  have S374 := Zsm.tr sc93 S373
  have t375 := Zx.get (X372) h0c91 tc91 (by decide)
  have X376 := Zx.tr xc91 (X372)
  have S377 := Zsm.tr sc91 S374
  have S378 := Zsm.tr sc90 S377
  have t379 := Zx.get (X376) h0c88 tc88 (by decide)
  have X380 := Zx.tr xc88 (X376)
  have S381 := Zsm.tr sc88 S378
  have S382 := Zsm.tr sc87 S381
  have t383 := Zx.get (X380) h0c85 tc85 (by decide)
  have X384 := Zx.tr xc85 (X380)
  have S385 := Zsm.tr sc85 S382
  have S386 := Zsm.tr sc84 S385
  have t387 := Zx.get (X384) h0c82 tc82 (by decide)
  have X388 := Zx.tr xc82 (X384)
  have S389 := Zsm.tr sc82 S386
  have S390 := Zsm.tr sc81 S389
  have t391 := Zx.get (X388) h0c79 tc79 (by decide)
  have X392 := Zx.tr xc79 (X388)
  have S393 := Zsm.tr sc79 S390
  have S394 := Zsm.tr sc78 S393
  have t395 := Zx.get (X392) h0c76 tc76 (by decide)
  have X396 := Zx.tr xc76 (X392)
  have S397 := Zsm.tr sc76 S394
  have S398 := Zsm.tr sc75 S397
  have t399 := Zx.get (X396) h0c73 tc73 (by decide)
  have X400 := Zx.tr xc73 (X396)
  have S401 := Zsm.tr sc73 S398
  have S402 := Zsm.tr sc72 S401
  have t403 := Zx.get (X400) h0c70 tc70 (by decide)
  have X404 := Zx.tr xc70 (X400)
  have S405 := Zsm.tr sc70 S402
  have S406 := Zsm.tr sc69 S405
  have t407 := Zx.get (X404) h0c67 tc67 (by decide)
  have X408 := Zx.tr xc67 (X404)
  have S409 := Zsm.tr sc67 S406
  have S410 := Zsm.tr sc66 S409
  have t411 := Zx.get (X408) h0c64 tc64 (by decide)
  have X412 := Zx.tr xc64 (X408)
  have S413 := Zsm.tr sc64 S410
  have S414 := Zsm.tr sc63 S413
  have t415 := Zx.get (X412) h0c61 tc61 (by decide)
  have X416 := Zx.tr xc61 (X412)
  have S417 := Zsm.tr sc61 S414
  have S418 := Zsm.tr sc60 S417
  have t419 := Zx.get (X416) h0c58 tc58 (by decide)
  have X420 := Zx.tr xc58 (X416)
  have S421 := Zsm.tr sc58 S418
  have S422 := Zsm.tr sc57 S421
  have t423 := Zx.get (X420) h0c55 tc55 (by decide)
  have X424 := Zx.tr xc55 (X420)
  have S425 := Zsm.tr sc55 S422
  have S426 := Zsm.tr sc54 S425
  have t427 := Zx.get (X424) h0c52 tc52 (by decide)
  have X428 := Zx.tr xc52 (X424)
  have S429 := Zsm.tr sc52 S426
  have S430 := Zsm.tr sc51 S429
  have t431 := Zx.get (X428) h0c49 tc49 (by decide)
  have X432 := Zx.tr xc49 (X428)
  have S433 := Zsm.tr sc49 S430
  have S434 := Zsm.tr sc48 S433
  have t435 := Zx.get (X432) h0c46 tc46 (by decide)
  have X436 := Zx.tr xc46 (X432)
  have S437 := Zsm.tr sc46 S434
  have S438 := Zsm.tr sc45 S437
  have S439 := Zsm.tr sc44 S438
  have t440 := Zx.get (X436) h0c42 tc42 (by decide)
  have k441 := (Zsm.tr Zsm.rf S439).2 (c41.length) (List.getElem?_eq_some_iff.mp kc42).1 (pl_ne tc42 h0c42 (by decide)) |>.trans kc42
  have X442 := Zx.tr xc42 (X436)
  have S443 := Zsm.tr sc42 S439
  have S444 := Zsm.tr sc41 S443
  have t445 := Zx.get (X442) h0c39 tc39 (by decide)
  have X446 := Zx.tr xc39 (X442)
  have S447 := Zsm.tr sc39 S444
  have S448 := Zsm.tr sc38 S447
  have S449 := Zsm.tr sc37 S448
  have t450 := Zx.get (X446) h0c35 tc35 (by decide)
  have X451 := Zx.tr xc35 (X446)
  have S452 := Zsm.tr sc35 S449
  have S453 := Zsm.tr sc34 S452
  have t454 := Zx.get (X451) h0c32 tc32 (by decide)
  have k455 := (Zsm.tr Zsm.rf S453).2 (c31.length) (List.getElem?_eq_some_iff.mp kc32).1 (pl_ne tc32 h0c32 (by decide)) |>.trans kc32
  have X456 := Zx.tr xc32 (X451)
  have S457 := Zsm.tr sc32 S453
  have S458 := Zsm.tr sc31 S457
  have t459 := Zx.get (X456) h0c29 tc29 (by decide)
  have k460 := (Zsm.tr Zsm.rf S458).2 (c28.length) (List.getElem?_eq_some_iff.mp kc29).1 (pl_ne tc29 h0c29 (by decide)) |>.trans kc29
  have X461 := Zx.tr xc29 (X456)
  have S462 := Zsm.tr sc29 S458
  have S463 := Zsm.tr sc28 S462
  have t464 := Zx.get (X461) h0c26 tc26 (by decide)
  have X465 := Zx.tr xc26 (X461)
  have S466 := Zsm.tr sc26 S463
  have S467 := Zsm.tr sc25 S466
  have S468 := Zsm.tr sc24 S467
  have t469 := Zx.get (X465) h0c22 tc22 (by decide)
  have X470 := Zx.tr xc22 (X465)
  have S471 := Zsm.tr sc22 S468
  have S472 := Zsm.tr sc21 S471
  have t473 := Zx.get (X470) h0c19 tc19 (by decide)
  have X474 := Zx.tr xc19 (X470)
  have S475 := Zsm.tr sc19 S472
  have S476 := Zsm.tr sc18 S475
  have t477 := Zx.get (X474) h0c16 tc16 (by decide)
  have X478 := Zx.tr xc16 (X474)
  have S479 := Zsm.tr sc16 S476
  have S480 := Zsm.tr sc15 S479
  have t481 := Zx.get (X478) h0c13 tc13 (by decide)
  have X482 := Zx.tr xc13 (X478)
  have S483 := Zsm.tr sc13 S480
  have S484 := Zsm.tr sc12 S483
  have t485 := Zx.get (X482) h0c10 tc10 (by decide)
  have X486 := Zx.tr xc10 (X482)
  have S487 := Zsm.tr sc10 S484
  have S488 := Zsm.tr sc9 S487
  have t489 := Zx.get (X486) h0c7 tc7 (by decide)
  have k490 := (Zsm.tr Zsm.rf S488).2 (c6.length) (List.getElem?_eq_some_iff.mp kc7).1 (pl_ne tc7 h0c7 (by decide)) |>.trans kc7
  have X491 := Zx.tr xc7 (X486)
  have S492 := Zsm.tr sc7 S488
  have S493 := Zsm.tr sc6 S492
  have t494 := Zx.get (X491) h0c4 tc4 (by decide)
  have k495 := (Zsm.tr Zsm.rf S493).2 (c3.length) (List.getElem?_eq_some_iff.mp kc4).1 (pl_ne tc4 h0c4 (by decide)) |>.trans kc4
  have X496 := Zx.tr xc4 (X491)
  have S497 := Zsm.tr sc4 S493
  have S498 := Zsm.tr sc3 S497
  have t499 := Zx.get (X496) h0c1 tc1 (by decide)
  have k500 := (Zsm.tr Zsm.rf S498).2 (c.length) (List.getElem?_eq_some_iff.mp kc1).1 (pl_ne tc1 h0c1 (by decide)) |>.trans kc1
  have X501 := Zx.tr xc1 (X496)
  have S502 := Zsm.tr sc1 S498
  obtain ⟨Wz, tz, xz⟩ := wt_seal (T := 64) Wc213 h0c211 hcc213 rfl (Zvs.cons (Zcv.mi (rgi (by decide) (by decide))) (Zvs.cons (Zcv.mr (T := 65) (set_get h0c211 t499 (by decide)) (by decide)) (Zvs.cons (Zcv.mr (T := 66) (set_get h0c211 t494 (by decide)) (by decide)) (Zvs.cons (Zcv.mr (T := 67) (set_get h0c211 t489 (by decide)) (by decide)) (Zvs.cons (Zcv.mr (T := 68) (set_get h0c211 t485 (by decide)) (by decide)) (Zvs.cons (Zcv.mr (T := 69) (set_get h0c211 t481 (by decide)) (by decide)) (Zvs.cons (Zcv.mr (T := 70) (set_get h0c211 t477 (by decide)) (by decide)) (Zvs.cons (Zcv.mr (T := 71) (set_get h0c211 t473 (by decide)) (by decide)) (Zvs.cons (Zcv.mi (rgi (by decide) (by decide))) (Zvs.cons (Zcv.mr (T := 72) (set_get h0c211 t469 (by decide)) (by decide)) (Zvs.cons (Zcv.mi (rgi (by decide) (by decide))) (Zvs.cons (Zcv.mi (rgi (by decide) (by decide))) (Zvs.cons (Zcv.mr (T := 73) (set_get h0c211 t464 (by decide)) (by decide)) (Zvs.cons (Zcv.mi (rgi (by decide) (by decide))) (Zvs.cons (Zcv.mr (T := 74) (set_get h0c211 t459 (by decide)) (by decide)) (Zvs.cons (Zcv.mr (T := 75) (set_get h0c211 t454 (by decide)) (by decide)) (Zvs.cons (Zcv.mr (T := 76) (set_get h0c211 t450 (by decide)) (by decide)) (Zvs.cons (Zcv.mi (rgi (by decide) (by decide))) (Zvs.cons (Zcv.mi (rgi (by decide) (by decide))) (Zvs.cons (Zcv.mi (rgi (by decide) (by decide))) (Zvs.cons (Zcv.mi trivial) (Zvs.cons (Zcv.mi trivial) (Zvs.cons (Zcv.mr (T := 77) (set_get h0c211 t445 (by decide)) (by decide)) (Zvs.cons (Zcv.mr (T := 78) (set_get h0c211 t440 (by decide)) (by decide)) (Zvs.cons (Zcv.mi (rgi (by decide) (by decide))) (Zvs.cons (Zcv.mi (rgi (by decide) (by decide))) (Zvs.cons (Zcv.mr (T := 79) (set_get h0c211 t435 (by decide)) (by decide)) (Zvs.cons (Zcv.mr (T := 80) (set_get h0c211 t431 (by decide)) (by decide)) (Zvs.cons (Zcv.mr (T := 81) (set_get h0c211 t427 (by decide)) (by decide)) (Zvs.cons (Zcv.mr (T := 82) (set_get h0c211 t423 (by decide)) (by decide)) (Zvs.cons (Zcv.mr (T := 83) (set_get h0c211 t419 (by decide)) (by decide)) (Zvs.cons (Zcv.mr (T := 84) (set_get h0c211 t415 (by decide)) (by decide)) (Zvs.cons (Zcv.mr (T := 85) (set_get h0c211 t411 (by decide)) (by decide)) (Zvs.cons (Zcv.mr (T := 86) (set_get h0c211 t407 (by decide)) (by decide)) (Zvs.cons (Zcv.mr (T := 87) (set_get h0c211 t403 (by decide)) (by decide)) (Zvs.cons (Zcv.mr (T := 88) (set_get h0c211 t399 (by decide)) (by decide)) (Zvs.cons (Zcv.mr (T := 89) (set_get h0c211 t395 (by decide)) (by decide)) (Zvs.cons (Zcv.mr (T := 90) (set_get h0c211 t391 (by decide)) (by decide)) (Zvs.cons (Zcv.mr (T := 91) (set_get h0c211 t387 (by decide)) (by decide)) (Zvs.cons (Zcv.mr (T := 92) (set_get h0c211 t383 (by decide)) (by decide)) (Zvs.cons (Zcv.mr (T := 93) (set_get h0c211 t379 (by decide)) (by decide)) (Zvs.cons (Zcv.mr (T := 94) (set_get h0c211 t375 (by decide)) (by decide)) (Zvs.cons (Zcv.mr (T := 95) (set_get h0c211 t371 (by decide)) (by decide)) (Zvs.cons (Zcv.mr (T := 96) (set_get h0c211 t367 (by decide)) (by decide)) (Zvs.cons (Zcv.mr (T := 97) (set_get h0c211 t363 (by decide)) (by decide)) (Zvs.cons (Zcv.mr (T := 98) (set_get h0c211 t359 (by decide)) (by decide)) (Zvs.cons (Zcv.mr (T := 99) (set_get h0c211 t355 (by decide)) (by decide)) (Zvs.cons (Zcv.mr (T := 100) (set_get h0c211 t351 (by decide)) (by decide)) (Zvs.cons (Zcv.mr (T := 101) (set_get h0c211 t347 (by decide)) (by decide)) (Zvs.cons (Zcv.mr (T := 102) (set_get h0c211 t343 (by decide)) (by decide)) (Zvs.cons (Zcv.mr (T := 103) (set_get h0c211 t339 (by decide)) (by decide)) (Zvs.cons (Zcv.mr (T := 104) (set_get h0c211 t335 (by decide)) (by decide)) (Zvs.cons (Zcv.mi (rgi (by decide) (by decide))) (Zvs.cons (Zcv.mi (rgi (by decide) (by decide))) (Zvs.cons (Zcv.mr (T := 105) (set_get h0c211 t331 (by decide)) (by decide)) (Zvs.cons (Zcv.mr (T := 106) (set_get h0c211 t327 (by decide)) (by decide)) (Zvs.cons (Zcv.mi (rgi (by decide) (by decide))) (Zvs.cons (Zcv.mi (rgi (by decide) (by decide))) (Zvs.cons (Zcv.mr (T := 107) (set_get h0c211 t323 (by decide)) (by decide)) (Zvs.cons (Zcv.mr (T := 108) (set_get h0c211 t319 (by decide)) (by decide)) (Zvs.cons (Zcv.mr (T := 109) (set_get h0c211 t315 (by decide)) (by decide)) (Zvs.cons (Zcv.mr (T := 110) (set_get h0c211 t311 (by decide)) (by decide)) (Zvs.cons (Zcv.mr (T := 111) (set_get h0c211 t307 (by decide)) (by decide)) (Zvs.cons (Zcv.mr (T := 112) (set_get h0c211 t303 (by decide)) (by decide)) (Zvs.cons (Zcv.mr (T := 113) (set_get h0c211 t299 (by decide)) (by decide)) (Zvs.cons (Zcv.mi (rgi (by decide) (by decide))) (Zvs.cons (Zcv.mr (T := 114) (set_get h0c211 t295 (by decide)) (by decide)) (Zvs.cons (Zcv.mr (T := 115) (set_get h0c211 t291 (by decide)) (by decide)) (Zvs.cons (Zcv.mr (T := 116) (set_get h0c211 t287 (by decide)) (by decide)) (Zvs.cons (Zcv.mi (rgi (by decide) (by decide))) (Zvs.cons (Zcv.mr (T := 117) (set_get h0c211 t283 (by decide)) (by decide)) (Zvs.cons (Zcv.mr (T := 118) (set_get h0c211 t279 (by decide)) (by decide)) (Zvs.cons (Zcv.mr (T := 119) (set_get h0c211 t275 (by decide)) (by decide)) (Zvs.cons (Zcv.mr (T := 120) (set_get h0c211 t271 (by decide)) (by decide)) (Zvs.cons (Zcv.mr (T := 121) (set_get h0c211 t267 (by decide)) (by decide)) (Zvs.cons (Zcv.mr (T := 122) (set_get h0c211 t263 (by decide)) (by decide)) (Zvs.cons (Zcv.mr (T := 123) (set_get h0c211 t259 (by decide)) (by decide)) (Zvs.cons (Zcv.mr (T := 124) (set_get h0c211 t255 (by decide)) (by decide)) (Zvs.cons (Zcv.mr (T := 125) (set_get h0c211 t251 (by decide)) (by decide)) (Zvs.cons (Zcv.mr (T := 126) (set_get h0c211 t247 (by decide)) (by decide)) (Zvs.cons (Zcv.mr (T := 127) (set_get h0c211 t243 (by decide)) (by decide)) (Zvs.cons (Zcv.mi (rgi (by decide) (by decide))) (Zvs.cons (Zcv.mr (T := 128) (set_get h0c211 t239 (by decide)) (by decide)) (Zvs.cons (Zcv.mr (T := 129) (set_get h0c211 t235 (by decide)) (by decide)) (Zvs.cons (Zcv.mr (T := 130) (set_get h0c211 t231 (by decide)) (by decide)) (Zvs.cons (Zcv.mr (T := 131) (set_get h0c211 t227 (by decide)) (by decide)) (Zvs.cons (Zcv.mr (T := 132) (set_get h0c211 t223 (by decide)) (by decide)) (Zvs.cons (Zcv.mi (rgi (by decide) (by decide))) (Zvs.cons (Zcv.mr (T := 133) (set_get h0c211 t219 (by decide)) (by decide)) (Zvs.cons (Zcv.mr (T := 134) (set_get h0c211 t215 (by decide)) (by decide)) Zvs.nil))))))))))))))))))))))))))))))))))))))))))))))))))))))))))))))))))))))))))))))))))))))))))
  obtain ⟨q, eb, Wq, Fq, Sq, lq, hs⟩ := k_slots hn (K := 70) (N := 1039190) Wz tz (raw_g (k := c38.length) hcc213 (j := 22) rfl)
  unfold f_Mo_init_602
  refine wb eb ?_
  refine wb (v := ()) (if_pos ⟨rfl, Nat.le_refl _⟩) ?_
  have ge9 : c.length ≤ c38.length := by omega
  exact ⟨q, rfl, _, Wq, Zx.tr yc211 xz, tz, Zsm.inn x_sc213 Sq ge9, lq.trans hl213, GtW_0 Wz tz Fq hs (raw_g (k := c41.length) hcc213 (j := 23) rfl) k441 (raw_i hcc213 (j := 24) rfl), TkN_fr (TkN_0 (raw_g (k := c28.length) hcc213 (j := 14) rfl) k460 (raw_g (k := c31.length) hcc213 (j := 15) rfl) k455) Fq tz Wz (by decide), AcN_fr (AcN_0 (raw_g (k := c6.length) hcc213 (j := 3) rfl) k490) Fq tz Wz (by decide), (Zfr.gi Fq tz (by decide)).trans (raw_i hcc213 (j := 8) rfl), (Zfr.gi Fq tz (by decide)).trans (raw_i hcc213 (j := 13) rfl), (Zfr.gi Fq tz (by decide)).trans (raw_i hcc213 (j := 0) rfl), (vaf_fr Fq tz (gf_64_1 Wz tz) (by decide) (by decide)).trans (vaf_c (raw_g (k := c.length) hcc213 (j := 1) rfl) k500), (vaf_fr Fq tz (gf_64_2 Wz tz) (by decide) (by decide)).trans (vaf_c (raw_g (k := c3.length) hcc213 (j := 2) rfl) k495), (vaf_fr Fq tz (gf_64_3 Wz tz) (by decide) (by decide)).trans (vaf_c (raw_g (k := c6.length) hcc213 (j := 3) rfl) k490)⟩

set_option maxRecDepth 100000 in
set_option maxHeartbeats 8000000 in
theorem k_PQ_init_h {nf : Nat} (hn : 8589934592 ≤ nf) {G : List Nat} {c : Zc} (W : Zwt zty G c) {a0  : Nat} (h0 : G[a0]? = some 0) (hc : c[a0]? = some (.inr (11, [.null, .null, .null, .null, .null, .null, .null, .null, .null, .null, .int 0])))  : ∃ q, f_PQ_init nf 876 42052 a0  c = some q ∧ ∃ G', Zwt zty G' q ∧ Zx G G' a0 ∧ G'[a0]? = some 14 ∧ Zsm c q a0 ∧ q.length = c.length + 876 ∧ PQw G' q a0 ∧ zgi q a0 11 10 = some 0 ∧ ∃ gp ka kb, zgr q a0 11 1 = some gp ∧ G'[gp]? = some 1 ∧ zgr q gp 0 0 = some ka ∧ q[ka]? = some (.inl (0, 16, .inl (fun _ => 0))) ∧ zgr q gp 0 1 = some kb ∧ q[kb]? = some (.inl (0, 64, .inl (fun _ => 0))) ∧ zgi q gp 0 7 = some 0 ∧ ∃ kl fl, zgr q gp 0 4 = some kl ∧ q[kl]? = some (.inl (0, 100, .inl fl)) ∧ (∀ i : Nat, i < 100 → fl i = -1) ∧ zgi q gp 0 8 = some 0 := by
  unfold f_PQ_init
  have hl0 : c.length = c.length + 0 := rfl
  refine wb (v := ()) (by decide) ?_
  obtain ⟨Wc1, hcc1, h0c1, tc1, kc1, xc1, sc1, lc1⟩ := raw_n (T := 42) (e := .inl (1, 1500, .inl (fun _ => 0))) W hc h0 ⟨_, rfl, fun _ _ => trivial⟩
  refine wb (v := c ++ [(.inl (1, 1500, .inl (fun _ => 0)) : va_E)]) rfl ?_
  have yc1 := Zx.tr Zx.rf xc1
  have x_sc1 := Zsm.tr Zsm.rf sc1
  have hl2 : (c ++ [(.inl (1, 1500, .inl (fun _ => 0)) : va_E)]).length = c.length + 1 := by rw [lc1, hl0]
  generalize c ++ [(.inl (1, 1500, .inl (fun _ => 0)) : va_E)] = c1 at Wc1 hcc1 kc1 sc1 x_sc1 hl2  ⊢
  generalize G ++ [42] = G1 at Wc1 h0c1 tc1 xc1 yc1 
  obtain ⟨c3, ec3, Wc3, hcc3, sc3, lc3⟩ := raw_p (v := .ref c.length) Wc1 h0c1 hcc1 (j := 0) (by simp)
  refine wb ec3 ?_
  simp only [List.set] at hcc3
  have x_sc3 := Zsm.tr x_sc1 sc3
  have hl3 : c3.length = c.length + 1 := lc3.trans hl2
  refine wb (v := ()) (by decide) ?_
  obtain ⟨Wc4, hcc4, h0c4, tc4, kc4, xc4, sc4, lc4⟩ := raw_n (T := 0) (e := .inr (0, [.null, .null, .null, .null, .null, .null, .null, .int 0, .int 0, .int 0])) Wc3 hcc3 h0c1 (True.intro : True)
  refine wb (v := c3 ++ [(.inr (0, [.null, .null, .null, .null, .null, .null, .null, .int 0, .int 0, .int 0]) : va_E)]) rfl ?_
  have t5 := Zx.get xc4 h0c1 tc1 (by decide)
  have yc4 := Zx.tr yc1 xc4
  have x_sc4 := Zsm.tr x_sc3 sc4
  have hl6 : (c3 ++ [(.inr (0, [.null, .null, .null, .null, .null, .null, .null, .int 0, .int 0, .int 0]) : va_E)]).length = c.length + 2 := by rw [lc4, hl3]
  generalize c3 ++ [(.inr (0, [.null, .null, .null, .null, .null, .null, .null, .int 0, .int 0, .int 0]) : va_E)] = c4 at Wc4 hcc4 kc4 sc4 x_sc4 hl6  ⊢
  generalize G1 ++ [0] = G4 at Wc4 h0c4 tc4 xc4 yc4 t5
  refine wb (v := ()) (by decide) ?_
  obtain ⟨q6, eq6, G7, Wq6, xq6, tq6, sq6, lq6, gaq6, gbq6, egq6, tgaq6, cgaq6, ehq6, tgbq6, cgbq6, enq6, glq6, flq6, eiq6, tglq6, cglq6, hfq6, emq6⟩ := k_Graph_init_h hn Wc4 tc4 kc4 
  refine wb eq6 ?_
  have neq6 : a0 ≠ c3.length := Nat.ne_of_lt (List.getElem?_eq_some_iff.mp hcc3).1
  have hcq6 := (sq6.2 a0 (List.getElem?_eq_some_iff.mp hcc4).1 neq6).trans hcc4
  have h0q6 := xq6 a0 0 h0c4 neq6
  have geq6 : c.length ≤ c3.length := by omega
  have t8 := Zx.get xq6 tc4 t5 (by decide)
  have yq6 := Zx.inn yc4 xq6 (by rw [W.1]; exact geq6)
  have x_sq6 := Zsm.inn x_sc4 sq6 geq6
  have hl9 : q6.length = c.length + 9 := by rw [lq6, hl6]
  obtain ⟨vsg, hgr⟩ : ∃ vs, q6[c3.length]? = some (.inr (0, vs)) := by
    obtain ⟨e, g1, g2⟩ := Wq6.2 _ _ tq6
    obtain ⟨vs2, rfl, _⟩ := g2
    exact ⟨vs2, g1⟩
  have ega := egq6
  have egb := ehq6
  have egn := enq6
  unfold zgr zgv at ega egb; rw [hgr] at ega egb
  unfold zgi zgv at egn; rw [hgr] at egn
  have egl := eiq6
  have egm := emq6
  unfold zgr zgv at egl; rw [hgr] at egl
  unfold zgi zgv at egm; rw [hgr] at egm
  obtain ⟨c8, ec8, Wc8, hcc8, sc8, lc8⟩ := raw_p (v := .ref c3.length) Wq6 h0q6 hcq6 (j := 1) (by simp)
  refine wb ec8 ?_
  simp only [List.set] at hcc8
  have x_sc8 := Zsm.tr x_sq6 sc8
  have k10 := (sc8.2 (c3.length) (List.getElem?_eq_some_iff.mp hgr).1 (pl_ne tq6 h0q6 (by decide))).trans hgr
  have k11 := (sc8.2 (gaq6) (List.getElem?_eq_some_iff.mp cgaq6).1 (pl_ne tgaq6 h0q6 (by decide))).trans cgaq6
  have k12 := (sc8.2 (gbq6) (List.getElem?_eq_some_iff.mp cgbq6).1 (pl_ne tgbq6 h0q6 (by decide))).trans cgbq6
  have k13 := (sc8.2 (glq6) (List.getElem?_eq_some_iff.mp cglq6).1 (pl_ne tglq6 h0q6 (by decide))).trans cglq6
  have hl14 : c8.length = c.length + 9 := lc8.trans hl9
  refine wb (v := ()) (by decide) ?_
  obtain ⟨Wc9, hcc9, h0c9, tc9, kc9, xc9, sc9, lc9⟩ := raw_n (T := 0) (e := .inr (2, [.int 0, .int 0, .int 0, .int 0, .null, .int 0, .null, .null, .int 0, .null, .null, .null, .int 0, .null, .int 0, .int 0, .null, .null, .int 0, .int 0, .int 0])) Wc8 hcc8 h0q6 (True.intro : True)
  refine wb (v := c8 ++ [(.inr (2, [.int 0, .int 0, .int 0, .int 0, .null, .int 0, .null, .null, .int 0, .null, .null, .null, .int 0, .null, .int 0, .int 0, .null, .null, .int 0, .int 0, .int 0]) : va_E)]) rfl ?_
  have k16 := (sc9.2 (c3.length) (List.getElem?_eq_some_iff.mp k10).1 (pl_ne tq6 h0q6 (by decide))).trans k10
  have k17 := (sc9.2 (gaq6) (List.getElem?_eq_some_iff.mp k11).1 (pl_ne tgaq6 h0q6 (by decide))).trans k11
  have k18 := (sc9.2 (gbq6) (List.getElem?_eq_some_iff.mp k12).1 (pl_ne tgbq6 h0q6 (by decide))).trans k12
  have k19 := (sc9.2 (glq6) (List.getElem?_eq_some_iff.mp k13).1 (pl_ne tglq6 h0q6 (by decide))).trans k13
  have t20 := Zx.get xc9 h0q6 t8 (by decide)
  have t21 := Zx.get xc9 h0q6 tq6 (by decide)
  have t22 := Zx.get xc9 h0q6 tgaq6 (by decide)
  have t23 := Zx.get xc9 h0q6 tgbq6 (by decide)
  have t24 := Zx.get xc9 h0q6 tglq6 (by decide)
  have yc9 := Zx.tr yq6 xc9
  have x_sc9 := Zsm.tr x_sc8 sc9
  have hl25 : (c8 ++ [(.inr (2, [.int 0, .int 0, .int 0, .int 0, .null, .int 0, .null, .null, .int 0, .null, .null, .null, .int 0, .null, .int 0, .int 0, .null, .null, .int 0, .int 0, .int 0]) : va_E)]).length = c.length + 10 := by rw [lc9, hl14]
  generalize c8 ++ [(.inr (2, [.int 0, .int 0, .int 0, .int 0, .null, .int 0, .null, .null, .int 0, .null, .null, .null, .int 0, .null, .int 0, .int 0, .null, .null, .int 0, .int 0, .int 0]) : va_E)] = c9 at Wc9 hcc9 kc9 sc9 x_sc9 hl25 k16 k17 k18 k19 ⊢
  generalize G7 ++ [0] = G15 at Wc9 h0c9 tc9 xc9 yc9 t20 t21 t22 t23 t24
  refine wb (v := ()) (by decide) ?_
  obtain ⟨q11, eq11, G26, Wq11, xq11, tq11, sq11, lq11⟩ := k_Text_init hn Wc9 tc9 kc9 
  refine wb eq11 ?_
  have neq11 : a0 ≠ c8.length := Nat.ne_of_lt (List.getElem?_eq_some_iff.mp hcc8).1
  have hcq11 := (sq11.2 a0 (List.getElem?_eq_some_iff.mp hcc9).1 neq11).trans hcc9
  have h0q11 := xq11 a0 0 h0c9 neq11
  have geq11 : c.length ≤ c8.length := by omega
  have k27 := (sq11.2 (c3.length) (List.getElem?_eq_some_iff.mp k16).1 (pl_ne t21 tc9 (by decide))).trans k16
  have k28 := (sq11.2 (gaq6) (List.getElem?_eq_some_iff.mp k17).1 (pl_ne t22 tc9 (by decide))).trans k17
  have k29 := (sq11.2 (gbq6) (List.getElem?_eq_some_iff.mp k18).1 (pl_ne t23 tc9 (by decide))).trans k18
  have k30 := (sq11.2 (glq6) (List.getElem?_eq_some_iff.mp k19).1 (pl_ne t24 tc9 (by decide))).trans k19
  have t31 := Zx.get xq11 tc9 t20 (by decide)
  have t32 := Zx.get xq11 tc9 t21 (by decide)
  have t33 := Zx.get xq11 tc9 t22 (by decide)
  have t34 := Zx.get xq11 tc9 t23 (by decide)
  have t35 := Zx.get xq11 tc9 t24 (by decide)
  have yq11 := Zx.inn yc9 xq11 (by rw [W.1]; exact geq11)
  have x_sq11 := Zsm.inn x_sc9 sq11 geq11
  have hl36 : q11.length = c.length + 99 := by rw [lq11, hl25]
  obtain ⟨c13, ec13, Wc13, hcc13, sc13, lc13⟩ := raw_p (v := .ref c8.length) Wq11 h0q11 hcq11 (j := 2) (by simp)
  refine wb ec13 ?_
  simp only [List.set] at hcc13
  have x_sc13 := Zsm.tr x_sq11 sc13
  have k37 := (sc13.2 (c3.length) (List.getElem?_eq_some_iff.mp k27).1 (pl_ne t32 h0q11 (by decide))).trans k27
  have k38 := (sc13.2 (gaq6) (List.getElem?_eq_some_iff.mp k28).1 (pl_ne t33 h0q11 (by decide))).trans k28
  have k39 := (sc13.2 (gbq6) (List.getElem?_eq_some_iff.mp k29).1 (pl_ne t34 h0q11 (by decide))).trans k29
  have k40 := (sc13.2 (glq6) (List.getElem?_eq_some_iff.mp k30).1 (pl_ne t35 h0q11 (by decide))).trans k30
  have hl41 : c13.length = c.length + 99 := lc13.trans hl36
  refine wb (v := ()) (by decide) ?_
  obtain ⟨Wc14, hcc14, h0c14, tc14, kc14, xc14, sc14, lc14⟩ := raw_n (T := 0) (e := .inr (5, [.int 0, .null, .null, .null, .null, .null, .int 0, .int 0, .int 0, .int 0, .int 0, .int 0, .int 0, .int 0, .int 0, .int 0, .int 0, .int 0, .int 0, .int 0])) Wc13 hcc13 h0q11 (True.intro : True)
  refine wb (v := c13 ++ [(.inr (5, [.int 0, .null, .null, .null, .null, .null, .int 0, .int 0, .int 0, .int 0, .int 0, .int 0, .int 0, .int 0, .int 0, .int 0, .int 0, .int 0, .int 0, .int 0]) : va_E)]) rfl ?_
  have k43 := (sc14.2 (c3.length) (List.getElem?_eq_some_iff.mp k37).1 (pl_ne t32 h0q11 (by decide))).trans k37
  have k44 := (sc14.2 (gaq6) (List.getElem?_eq_some_iff.mp k38).1 (pl_ne t33 h0q11 (by decide))).trans k38
  have k45 := (sc14.2 (gbq6) (List.getElem?_eq_some_iff.mp k39).1 (pl_ne t34 h0q11 (by decide))).trans k39
  have k46 := (sc14.2 (glq6) (List.getElem?_eq_some_iff.mp k40).1 (pl_ne t35 h0q11 (by decide))).trans k40
  have t47 := Zx.get xc14 h0q11 t31 (by decide)
  have t48 := Zx.get xc14 h0q11 t32 (by decide)
  have t49 := Zx.get xc14 h0q11 t33 (by decide)
  have t50 := Zx.get xc14 h0q11 t34 (by decide)
  have t51 := Zx.get xc14 h0q11 t35 (by decide)
  have t52 := Zx.get xc14 h0q11 tq11 (by decide)
  have yc14 := Zx.tr yq11 xc14
  have x_sc14 := Zsm.tr x_sc13 sc14
  have hl53 : (c13 ++ [(.inr (5, [.int 0, .null, .null, .null, .null, .null, .int 0, .int 0, .int 0, .int 0, .int 0, .int 0, .int 0, .int 0, .int 0, .int 0, .int 0, .int 0, .int 0, .int 0]) : va_E)]).length = c.length + 100 := by rw [lc14, hl41]
  generalize c13 ++ [(.inr (5, [.int 0, .null, .null, .null, .null, .null, .int 0, .int 0, .int 0, .int 0, .int 0, .int 0, .int 0, .int 0, .int 0, .int 0, .int 0, .int 0, .int 0, .int 0]) : va_E)] = c14 at Wc14 hcc14 kc14 sc14 x_sc14 hl53 k43 k44 k45 k46 ⊢
  generalize G26 ++ [0] = G42 at Wc14 h0c14 tc14 xc14 yc14 t47 t48 t49 t50 t51 t52
  refine wb (raw_g (k := c8.length) hcc14 (j := 2) rfl) ?_
  refine wb (v := ()) (by decide) ?_
  obtain ⟨q17, eq17, G54, Wq17, xq17, tq17, sq17, lq17⟩ := k_Reader_init hn Wc14 tc14 kc14 t52
  refine wb eq17 ?_
  have neq17 : a0 ≠ c13.length := Nat.ne_of_lt (List.getElem?_eq_some_iff.mp hcc13).1
  have hcq17 := (sq17.2 a0 (List.getElem?_eq_some_iff.mp hcc14).1 neq17).trans hcc14
  have h0q17 := xq17 a0 0 h0c14 neq17
  have geq17 : c.length ≤ c13.length := by omega
  have k55 := (sq17.2 (c3.length) (List.getElem?_eq_some_iff.mp k43).1 (pl_ne t48 tc14 (by decide))).trans k43
  have k56 := (sq17.2 (gaq6) (List.getElem?_eq_some_iff.mp k44).1 (pl_ne t49 tc14 (by decide))).trans k44
  have k57 := (sq17.2 (gbq6) (List.getElem?_eq_some_iff.mp k45).1 (pl_ne t50 tc14 (by decide))).trans k45
  have k58 := (sq17.2 (glq6) (List.getElem?_eq_some_iff.mp k46).1 (pl_ne t51 tc14 (by decide))).trans k46
  have t59 := Zx.get xq17 tc14 t47 (by decide)
  have t60 := Zx.get xq17 tc14 t48 (by decide)
  have t61 := Zx.get xq17 tc14 t49 (by decide)
  have t62 := Zx.get xq17 tc14 t50 (by decide)
  have t63 := Zx.get xq17 tc14 t51 (by decide)
  have t64 := Zx.get xq17 tc14 t52 (by decide)
  have yq17 := Zx.inn yc14 xq17 (by rw [W.1]; exact geq17)
  have x_sq17 := Zsm.inn x_sc14 sq17 geq17
  have hl65 : q17.length = c.length + 110 := by rw [lq17, hl53]
  obtain ⟨c19, ec19, Wc19, hcc19, sc19, lc19⟩ := raw_p (v := .ref c13.length) Wq17 h0q17 hcq17 (j := 3) (by simp)
  refine wb ec19 ?_
  simp only [List.set] at hcc19
  have x_sc19 := Zsm.tr x_sq17 sc19
  have k66 := (sc19.2 (c3.length) (List.getElem?_eq_some_iff.mp k55).1 (pl_ne t60 h0q17 (by decide))).trans k55
  have k67 := (sc19.2 (gaq6) (List.getElem?_eq_some_iff.mp k56).1 (pl_ne t61 h0q17 (by decide))).trans k56
  have k68 := (sc19.2 (gbq6) (List.getElem?_eq_some_iff.mp k57).1 (pl_ne t62 h0q17 (by decide))).trans k57
  have k69 := (sc19.2 (glq6) (List.getElem?_eq_some_iff.mp k58).1 (pl_ne t63 h0q17 (by decide))).trans k58
  have hl70 : c19.length = c.length + 110 := lc19.trans hl65
  refine wb (v := ()) (by decide) ?_
  obtain ⟨Wc20, hcc20, h0c20, tc20, kc20, xc20, sc20, lc20⟩ := raw_n (T := 0) (e := .inr (7, [.null, .null, .null, .null, .null, .null, .null, .null, .null])) Wc19 hcc19 h0q17 (True.intro : True)
  refine wb (v := c19 ++ [(.inr (7, [.null, .null, .null, .null, .null, .null, .null, .null, .null]) : va_E)]) rfl ?_
  have k72 := (sc20.2 (c3.length) (List.getElem?_eq_some_iff.mp k66).1 (pl_ne t60 h0q17 (by decide))).trans k66
  have k73 := (sc20.2 (gaq6) (List.getElem?_eq_some_iff.mp k67).1 (pl_ne t61 h0q17 (by decide))).trans k67
  have k74 := (sc20.2 (gbq6) (List.getElem?_eq_some_iff.mp k68).1 (pl_ne t62 h0q17 (by decide))).trans k68
  have k75 := (sc20.2 (glq6) (List.getElem?_eq_some_iff.mp k69).1 (pl_ne t63 h0q17 (by decide))).trans k69
  have t76 := Zx.get xc20 h0q17 t59 (by decide)
  have t77 := Zx.get xc20 h0q17 t60 (by decide)
  have t78 := Zx.get xc20 h0q17 t61 (by decide)
  have t79 := Zx.get xc20 h0q17 t62 (by decide)
  have t80 := Zx.get xc20 h0q17 t63 (by decide)
  have t81 := Zx.get xc20 h0q17 t64 (by decide)
  have t82 := Zx.get xc20 h0q17 tq17 (by decide)
  have yc20 := Zx.tr yq17 xc20
  have x_sc20 := Zsm.tr x_sc19 sc20
  have hl83 : (c19 ++ [(.inr (7, [.null, .null, .null, .null, .null, .null, .null, .null, .null]) : va_E)]).length = c.length + 111 := by rw [lc20, hl70]
  generalize c19 ++ [(.inr (7, [.null, .null, .null, .null, .null, .null, .null, .null, .null]) : va_E)] = c20 at Wc20 hcc20 kc20 sc20 x_sc20 hl83 k72 k73 k74 k75 ⊢
  generalize G54 ++ [0] = G71 at Wc20 h0c20 tc20 xc20 yc20 t76 t77 t78 t79 t80 t81 t82
  refine wb (raw_g (k := c3.length) hcc20 (j := 1) rfl) ?_
  refine wb (raw_g (k := c8.length) hcc20 (j := 2) rfl) ?_
  refine wb (v := ()) (by decide) ?_
  obtain ⟨q24, eq24, G84, Wq24, xq24, tq24, sq24, lq24⟩ := k_Finder_init hn Wc20 tc20 kc20 t77 t81
  refine wb eq24 ?_
  have neq24 : a0 ≠ c19.length := Nat.ne_of_lt (List.getElem?_eq_some_iff.mp hcc19).1
  have hcq24 := (sq24.2 a0 (List.getElem?_eq_some_iff.mp hcc20).1 neq24).trans hcc20
  have h0q24 := xq24 a0 0 h0c20 neq24
  have geq24 : c.length ≤ c19.length := by omega
  have k85 := (sq24.2 (c3.length) (List.getElem?_eq_some_iff.mp k72).1 (pl_ne t77 tc20 (by decide))).trans k72
  have k86 := (sq24.2 (gaq6) (List.getElem?_eq_some_iff.mp k73).1 (pl_ne t78 tc20 (by decide))).trans k73
  have k87 := (sq24.2 (gbq6) (List.getElem?_eq_some_iff.mp k74).1 (pl_ne t79 tc20 (by decide))).trans k74
  have k88 := (sq24.2 (glq6) (List.getElem?_eq_some_iff.mp k75).1 (pl_ne t80 tc20 (by decide))).trans k75
  have t89 := Zx.get xq24 tc20 t76 (by decide)
  have t90 := Zx.get xq24 tc20 t77 (by decide)
  have t91 := Zx.get xq24 tc20 t78 (by decide)
  have t92 := Zx.get xq24 tc20 t79 (by decide)
  have t93 := Zx.get xq24 tc20 t80 (by decide)
  have t94 := Zx.get xq24 tc20 t81 (by decide)
  have t95 := Zx.get xq24 tc20 t82 (by decide)
  have yq24 := Zx.inn yc20 xq24 (by rw [W.1]; exact geq24)
  have x_sq24 := Zsm.inn x_sc20 sq24 geq24
  have hl96 : q24.length = c.length + 124 := by rw [lq24, hl83]
  obtain ⟨c26, ec26, Wc26, hcc26, sc26, lc26⟩ := raw_p (v := .ref c19.length) Wq24 h0q24 hcq24 (j := 4) (by simp)
  refine wb ec26 ?_
  simp only [List.set] at hcc26
  have x_sc26 := Zsm.tr x_sq24 sc26
  have k97 := (sc26.2 (c3.length) (List.getElem?_eq_some_iff.mp k85).1 (pl_ne t90 h0q24 (by decide))).trans k85
  have k98 := (sc26.2 (gaq6) (List.getElem?_eq_some_iff.mp k86).1 (pl_ne t91 h0q24 (by decide))).trans k86
  have k99 := (sc26.2 (gbq6) (List.getElem?_eq_some_iff.mp k87).1 (pl_ne t92 h0q24 (by decide))).trans k87
  have k100 := (sc26.2 (glq6) (List.getElem?_eq_some_iff.mp k88).1 (pl_ne t93 h0q24 (by decide))).trans k88
  have hl101 : c26.length = c.length + 124 := lc26.trans hl96
  refine wb (v := ()) (by decide) ?_
  obtain ⟨Wc27, hcc27, h0c27, tc27, kc27, xc27, sc27, lc27⟩ := raw_n (T := 0) (e := .inr (8, [.null, .null, .null, .null, .int 0, .int 0])) Wc26 hcc26 h0q24 (True.intro : True)
  refine wb (v := c26 ++ [(.inr (8, [.null, .null, .null, .null, .int 0, .int 0]) : va_E)]) rfl ?_
  have k103 := (sc27.2 (c3.length) (List.getElem?_eq_some_iff.mp k97).1 (pl_ne t90 h0q24 (by decide))).trans k97
  have k104 := (sc27.2 (gaq6) (List.getElem?_eq_some_iff.mp k98).1 (pl_ne t91 h0q24 (by decide))).trans k98
  have k105 := (sc27.2 (gbq6) (List.getElem?_eq_some_iff.mp k99).1 (pl_ne t92 h0q24 (by decide))).trans k99
  have k106 := (sc27.2 (glq6) (List.getElem?_eq_some_iff.mp k100).1 (pl_ne t93 h0q24 (by decide))).trans k100
  have t107 := Zx.get xc27 h0q24 t89 (by decide)
  have t108 := Zx.get xc27 h0q24 t90 (by decide)
  have t109 := Zx.get xc27 h0q24 t91 (by decide)
  have t110 := Zx.get xc27 h0q24 t92 (by decide)
  have t111 := Zx.get xc27 h0q24 t93 (by decide)
  have t112 := Zx.get xc27 h0q24 t94 (by decide)
  have t113 := Zx.get xc27 h0q24 t95 (by decide)
  have t114 := Zx.get xc27 h0q24 tq24 (by decide)
  have yc27 := Zx.tr yq24 xc27
  have x_sc27 := Zsm.tr x_sc26 sc27
  have hl115 : (c26 ++ [(.inr (8, [.null, .null, .null, .null, .int 0, .int 0]) : va_E)]).length = c.length + 125 := by rw [lc27, hl101]
  generalize c26 ++ [(.inr (8, [.null, .null, .null, .null, .int 0, .int 0]) : va_E)] = c27 at Wc27 hcc27 kc27 sc27 x_sc27 hl115 k103 k104 k105 k106 ⊢
  generalize G84 ++ [0] = G102 at Wc27 h0c27 tc27 xc27 yc27 t107 t108 t109 t110 t111 t112 t113 t114
  refine wb (raw_g (k := c3.length) hcc27 (j := 1) rfl) ?_
  refine wb (raw_g (k := c19.length) hcc27 (j := 4) rfl) ?_
  refine wb (v := ()) (by decide) ?_
  obtain ⟨q31, eq31, G116, Wq31, xq31, tq31, sq31, lq31⟩ := k_RuleBook_init hn Wc27 tc27 kc27 t108 t114
  refine wb eq31 ?_
  have neq31 : a0 ≠ c26.length := Nat.ne_of_lt (List.getElem?_eq_some_iff.mp hcc26).1
  have hcq31 := (sq31.2 a0 (List.getElem?_eq_some_iff.mp hcc27).1 neq31).trans hcc27
  have h0q31 := xq31 a0 0 h0c27 neq31
  have geq31 : c.length ≤ c26.length := by omega
  have k117 := (sq31.2 (c3.length) (List.getElem?_eq_some_iff.mp k103).1 (pl_ne t108 tc27 (by decide))).trans k103
  have k118 := (sq31.2 (gaq6) (List.getElem?_eq_some_iff.mp k104).1 (pl_ne t109 tc27 (by decide))).trans k104
  have k119 := (sq31.2 (gbq6) (List.getElem?_eq_some_iff.mp k105).1 (pl_ne t110 tc27 (by decide))).trans k105
  have k120 := (sq31.2 (glq6) (List.getElem?_eq_some_iff.mp k106).1 (pl_ne t111 tc27 (by decide))).trans k106
  have t121 := Zx.get xq31 tc27 t107 (by decide)
  have t122 := Zx.get xq31 tc27 t108 (by decide)
  have t123 := Zx.get xq31 tc27 t109 (by decide)
  have t124 := Zx.get xq31 tc27 t110 (by decide)
  have t125 := Zx.get xq31 tc27 t111 (by decide)
  have t126 := Zx.get xq31 tc27 t112 (by decide)
  have t127 := Zx.get xq31 tc27 t113 (by decide)
  have t128 := Zx.get xq31 tc27 t114 (by decide)
  have yq31 := Zx.inn yc27 xq31 (by rw [W.1]; exact geq31)
  have x_sq31 := Zsm.inn x_sc27 sq31 geq31
  have hl129 : q31.length = c.length + 487 := by rw [lq31, hl115]
  obtain ⟨c33, ec33, Wc33, hcc33, sc33, lc33⟩ := raw_p (v := .ref c26.length) Wq31 h0q31 hcq31 (j := 5) (by simp)
  refine wb ec33 ?_
  simp only [List.set] at hcc33
  have x_sc33 := Zsm.tr x_sq31 sc33
  have k130 := (sc33.2 (c3.length) (List.getElem?_eq_some_iff.mp k117).1 (pl_ne t122 h0q31 (by decide))).trans k117
  have k131 := (sc33.2 (gaq6) (List.getElem?_eq_some_iff.mp k118).1 (pl_ne t123 h0q31 (by decide))).trans k118
  have k132 := (sc33.2 (gbq6) (List.getElem?_eq_some_iff.mp k119).1 (pl_ne t124 h0q31 (by decide))).trans k119
  have k133 := (sc33.2 (glq6) (List.getElem?_eq_some_iff.mp k120).1 (pl_ne t125 h0q31 (by decide))).trans k120
  have hl134 : c33.length = c.length + 487 := lc33.trans hl129
  refine wb (v := ()) (by decide) ?_
  obtain ⟨Wc34, hcc34, h0c34, tc34, kc34, xc34, sc34, lc34⟩ := raw_n (T := 0) (e := .inr (10, [.null, .null, .null, .null])) Wc33 hcc33 h0q31 (True.intro : True)
  refine wb (v := c33 ++ [(.inr (10, [.null, .null, .null, .null]) : va_E)]) rfl ?_
  have k136 := (sc34.2 (c3.length) (List.getElem?_eq_some_iff.mp k130).1 (pl_ne t122 h0q31 (by decide))).trans k130
  have k137 := (sc34.2 (gaq6) (List.getElem?_eq_some_iff.mp k131).1 (pl_ne t123 h0q31 (by decide))).trans k131
  have k138 := (sc34.2 (gbq6) (List.getElem?_eq_some_iff.mp k132).1 (pl_ne t124 h0q31 (by decide))).trans k132
  have k139 := (sc34.2 (glq6) (List.getElem?_eq_some_iff.mp k133).1 (pl_ne t125 h0q31 (by decide))).trans k133
  have t140 := Zx.get xc34 h0q31 t121 (by decide)
  have t141 := Zx.get xc34 h0q31 t122 (by decide)
  have t142 := Zx.get xc34 h0q31 t123 (by decide)
  have t143 := Zx.get xc34 h0q31 t124 (by decide)
  have t144 := Zx.get xc34 h0q31 t125 (by decide)
  have t145 := Zx.get xc34 h0q31 t126 (by decide)
  have t146 := Zx.get xc34 h0q31 t127 (by decide)
  have t147 := Zx.get xc34 h0q31 t128 (by decide)
  have t148 := Zx.get xc34 h0q31 tq31 (by decide)
  have yc34 := Zx.tr yq31 xc34
  have x_sc34 := Zsm.tr x_sc33 sc34
  have hl149 : (c33 ++ [(.inr (10, [.null, .null, .null, .null]) : va_E)]).length = c.length + 488 := by rw [lc34, hl134]
  generalize c33 ++ [(.inr (10, [.null, .null, .null, .null]) : va_E)] = c34 at Wc34 hcc34 kc34 sc34 x_sc34 hl149 k136 k137 k138 k139 ⊢
  generalize G116 ++ [0] = G135 at Wc34 h0c34 tc34 xc34 yc34 t140 t141 t142 t143 t144 t145 t146 t147 t148
  refine wb (raw_g (k := c19.length) hcc34 (j := 4) rfl) ?_
  refine wb (v := ()) (by decide) ?_
  obtain ⟨q37, eq37, G150, Wq37, xq37, tq37, sq37, lq37, rpq37, fpq37, clq37, odq37, otq37, cmq37, omq37, onq37, erq37, trq37, Rq37, efq37, tfq37, Sq37⟩ := k_Collector_init hn Wc34 tc34 kc34 t147
  refine wb eq37 ?_
  have neq37 : a0 ≠ c33.length := Nat.ne_of_lt (List.getElem?_eq_some_iff.mp hcc33).1
  have hcq37 := (sq37.2 a0 (List.getElem?_eq_some_iff.mp hcc34).1 neq37).trans hcc34
  have h0q37 := xq37 a0 0 h0c34 neq37
  have geq37 : c.length ≤ c33.length := by omega
  have k151 := (sq37.2 (c3.length) (List.getElem?_eq_some_iff.mp k136).1 (pl_ne t141 tc34 (by decide))).trans k136
  have k152 := (sq37.2 (gaq6) (List.getElem?_eq_some_iff.mp k137).1 (pl_ne t142 tc34 (by decide))).trans k137
  have k153 := (sq37.2 (gbq6) (List.getElem?_eq_some_iff.mp k138).1 (pl_ne t143 tc34 (by decide))).trans k138
  have k154 := (sq37.2 (glq6) (List.getElem?_eq_some_iff.mp k139).1 (pl_ne t144 tc34 (by decide))).trans k139
  have t155 := Zx.get xq37 tc34 t140 (by decide)
  have t156 := Zx.get xq37 tc34 t141 (by decide)
  have t157 := Zx.get xq37 tc34 t142 (by decide)
  have t158 := Zx.get xq37 tc34 t143 (by decide)
  have t159 := Zx.get xq37 tc34 t144 (by decide)
  have t160 := Zx.get xq37 tc34 t145 (by decide)
  have t161 := Zx.get xq37 tc34 t146 (by decide)
  have t162 := Zx.get xq37 tc34 t147 (by decide)
  have t163 := Zx.get xq37 tc34 t148 (by decide)
  have yq37 := Zx.inn yc34 xq37 (by rw [W.1]; exact geq37)
  have x_sq37 := Zsm.inn x_sc34 sq37 geq37
  have hl164 : q37.length = c.length + 497 := by rw [lq37, hl149]
  obtain ⟨vsco, hco⟩ : ∃ vs, q37[c33.length]? = some (.inr (10, vs)) := by
    obtain ⟨e, g1, g2⟩ := Wq37.2 _ _ tq37
    obtain ⟨vs2, rfl, _⟩ := g2
    exact ⟨vs2, g1⟩
  have ercell := erq37
  have efcell := efq37
  unfold zgr zgv at ercell efcell; rw [hco] at ercell efcell
  obtain ⟨c39, ec39, Wc39, hcc39, sc39, lc39⟩ := raw_p (v := .ref c33.length) Wq37 h0q37 hcq37 (j := 6) (by simp)
  refine wb ec39 ?_
  simp only [List.set] at hcc39
  have x_sc39 := Zsm.tr x_sq37 sc39
  have k165 := (sc39.2 (c3.length) (List.getElem?_eq_some_iff.mp k151).1 (pl_ne t156 h0q37 (by decide))).trans k151
  have k166 := (sc39.2 (gaq6) (List.getElem?_eq_some_iff.mp k152).1 (pl_ne t157 h0q37 (by decide))).trans k152
  have k167 := (sc39.2 (gbq6) (List.getElem?_eq_some_iff.mp k153).1 (pl_ne t158 h0q37 (by decide))).trans k153
  have k168 := (sc39.2 (glq6) (List.getElem?_eq_some_iff.mp k154).1 (pl_ne t159 h0q37 (by decide))).trans k154
  have k169 := (sc39.2 (c33.length) (List.getElem?_eq_some_iff.mp hco).1 (pl_ne tq37 h0q37 (by decide))).trans hco
  have R170 := Zro.sm Rq37 Wq37 trq37 (by decide) sc39 Zx.rf h0q37
  have R171 := Zro.sm Sq37 Wq37 tfq37 (by decide) sc39 Zx.rf h0q37
  have hl172 : c39.length = c.length + 497 := lc39.trans hl164
  refine wb (v := ()) (by decide) ?_
  obtain ⟨Wc40, hcc40, h0c40, tc40, kc40, xc40, sc40, lc40⟩ := raw_n (T := 0) (e := .inl (4, 4, .inr (.inr (.inr (.inr (fun _ => none)))))) Wc39 hcc39 h0q37 (True.intro : True)
  refine wb (v := c39 ++ [(.inl (4, 4, .inr (.inr (.inr (.inr (fun _ => none))))) : va_E)]) rfl ?_
  have k174 := (sc40.2 (c3.length) (List.getElem?_eq_some_iff.mp k165).1 (pl_ne t156 h0q37 (by decide))).trans k165
  have k175 := (sc40.2 (gaq6) (List.getElem?_eq_some_iff.mp k166).1 (pl_ne t157 h0q37 (by decide))).trans k166
  have k176 := (sc40.2 (gbq6) (List.getElem?_eq_some_iff.mp k167).1 (pl_ne t158 h0q37 (by decide))).trans k167
  have k177 := (sc40.2 (glq6) (List.getElem?_eq_some_iff.mp k168).1 (pl_ne t159 h0q37 (by decide))).trans k168
  have k178 := (sc40.2 (c33.length) (List.getElem?_eq_some_iff.mp k169).1 (pl_ne tq37 h0q37 (by decide))).trans k169
  have R179 := Zro.sm R170 Wc39 trq37 (by decide) sc40 xc40 h0q37
  have R180 := Zro.sm R171 Wc39 tfq37 (by decide) sc40 xc40 h0q37
  have t181 := Zx.get xc40 h0q37 t155 (by decide)
  have t182 := Zx.get xc40 h0q37 t156 (by decide)
  have t183 := Zx.get xc40 h0q37 t157 (by decide)
  have t184 := Zx.get xc40 h0q37 t158 (by decide)
  have t185 := Zx.get xc40 h0q37 t159 (by decide)
  have t186 := Zx.get xc40 h0q37 t160 (by decide)
  have t187 := Zx.get xc40 h0q37 t161 (by decide)
  have t188 := Zx.get xc40 h0q37 t162 (by decide)
  have t189 := Zx.get xc40 h0q37 t163 (by decide)
  have t190 := Zx.get xc40 h0q37 tq37 (by decide)
  have t191 := Zx.get xc40 h0q37 trq37 (by decide)
  have t192 := Zx.get xc40 h0q37 tfq37 (by decide)
  have yc40 := Zx.tr yq37 xc40
  have x_sc40 := Zsm.tr x_sc39 sc40
  have hl193 : (c39 ++ [(.inl (4, 4, .inr (.inr (.inr (.inr (fun _ => none))))) : va_E)]).length = c.length + 498 := by rw [lc40, hl172]
  generalize c39 ++ [(.inl (4, 4, .inr (.inr (.inr (.inr (fun _ => none))))) : va_E)] = c40 at Wc40 hcc40 kc40 sc40 x_sc40 hl193 k174 k175 k176 k177 k178 R179 R180 ⊢
  generalize G150 ++ [0] = G173 at Wc40 h0c40 tc40 xc40 yc40 t181 t182 t183 t184 t185 t186 t187 t188 t189 t190 t191 t192 R179 R180
  have nac40 : a0 ≠ c39.length := Nat.ne_of_lt (List.getElem?_eq_some_iff.mp hcc39).1
  obtain ⟨c42, ec42, Wc42, hcc42, sc42, lc42⟩ := raw_p (v := .ref c39.length) Wc40 h0c40 hcc40 (j := 7) (by simp)
  refine wb ec42 ?_
  simp only [List.set] at hcc42
  have x_sc42 := Zsm.tr x_sc40 sc42
  have k194 := (sc42.2 (c3.length) (List.getElem?_eq_some_iff.mp k174).1 (pl_ne t182 h0c40 (by decide))).trans k174
  have k195 := (sc42.2 (gaq6) (List.getElem?_eq_some_iff.mp k175).1 (pl_ne t183 h0c40 (by decide))).trans k175
  have k196 := (sc42.2 (gbq6) (List.getElem?_eq_some_iff.mp k176).1 (pl_ne t184 h0c40 (by decide))).trans k176
  have k197 := (sc42.2 (glq6) (List.getElem?_eq_some_iff.mp k177).1 (pl_ne t185 h0c40 (by decide))).trans k177
  have k198 := (sc42.2 (c33.length) (List.getElem?_eq_some_iff.mp k178).1 (pl_ne t190 h0c40 (by decide))).trans k178
  have R199 := Zro.sm R179 Wc40 t191 (by decide) sc42 Zx.rf h0c40
  have R200 := Zro.sm R180 Wc40 t192 (by decide) sc42 Zx.rf h0c40
  have ka201 := (sc42.2 (c39.length) (List.getElem?_eq_some_iff.mp kc40).1 (Ne.symm nac40)).trans kc40
  have hl202 : c42.length = c.length + 498 := lc42.trans hl193
  refine wb (v := ()) (by decide) ?_
  obtain ⟨Wc43, hcc43, h0c43, tc43, kc43, xc43, sc43, lc43⟩ := raw_n (T := 0) (e := .inl (5, 4, .inr (.inr (.inr (.inr (fun _ => none)))))) Wc42 hcc42 h0c40 (True.intro : True)
  refine wb (v := c42 ++ [(.inl (5, 4, .inr (.inr (.inr (.inr (fun _ => none))))) : va_E)]) rfl ?_
  have k204 := (sc43.2 (c3.length) (List.getElem?_eq_some_iff.mp k194).1 (pl_ne t182 h0c40 (by decide))).trans k194
  have k205 := (sc43.2 (gaq6) (List.getElem?_eq_some_iff.mp k195).1 (pl_ne t183 h0c40 (by decide))).trans k195
  have k206 := (sc43.2 (gbq6) (List.getElem?_eq_some_iff.mp k196).1 (pl_ne t184 h0c40 (by decide))).trans k196
  have k207 := (sc43.2 (glq6) (List.getElem?_eq_some_iff.mp k197).1 (pl_ne t185 h0c40 (by decide))).trans k197
  have k208 := (sc43.2 (c33.length) (List.getElem?_eq_some_iff.mp k198).1 (pl_ne t190 h0c40 (by decide))).trans k198
  have R209 := Zro.sm R199 Wc42 t191 (by decide) sc43 xc43 h0c40
  have R210 := Zro.sm R200 Wc42 t192 (by decide) sc43 xc43 h0c40
  have ka211 := (sc43.2 (c39.length) (List.getElem?_eq_some_iff.mp ka201).1 (Ne.symm nac40)).trans ka201
  have ta212 := xc43 (c39.length) 0 tc40 (Ne.symm nac40)
  have t213 := Zx.get xc43 h0c40 t181 (by decide)
  have t214 := Zx.get xc43 h0c40 t182 (by decide)
  have t215 := Zx.get xc43 h0c40 t183 (by decide)
  have t216 := Zx.get xc43 h0c40 t184 (by decide)
  have t217 := Zx.get xc43 h0c40 t185 (by decide)
  have t218 := Zx.get xc43 h0c40 t186 (by decide)
  have t219 := Zx.get xc43 h0c40 t187 (by decide)
  have t220 := Zx.get xc43 h0c40 t188 (by decide)
  have t221 := Zx.get xc43 h0c40 t189 (by decide)
  have t222 := Zx.get xc43 h0c40 t190 (by decide)
  have t223 := Zx.get xc43 h0c40 t191 (by decide)
  have t224 := Zx.get xc43 h0c40 t192 (by decide)
  have yc43 := Zx.tr yc40 xc43
  have x_sc43 := Zsm.tr x_sc42 sc43
  have hl225 : (c42 ++ [(.inl (5, 4, .inr (.inr (.inr (.inr (fun _ => none))))) : va_E)]).length = c.length + 499 := by rw [lc43, hl202]
  generalize c42 ++ [(.inl (5, 4, .inr (.inr (.inr (.inr (fun _ => none))))) : va_E)] = c43 at Wc43 hcc43 kc43 sc43 x_sc43 hl225 k204 k205 k206 k207 k208 R209 R210 ka211 ⊢
  generalize G173 ++ [0] = G203 at Wc43 h0c43 tc43 xc43 yc43 t213 t214 t215 t216 t217 t218 t219 t220 t221 t222 t223 t224 R209 R210 ta212
  have nac43 : a0 ≠ c42.length := Nat.ne_of_lt (List.getElem?_eq_some_iff.mp hcc42).1
  obtain ⟨c45, ec45, Wc45, hcc45, sc45, lc45⟩ := raw_p (v := .ref c42.length) Wc43 h0c43 hcc43 (j := 8) (by simp)
  refine wb ec45 ?_
  simp only [List.set] at hcc45
  have x_sc45 := Zsm.tr x_sc43 sc45
  have k226 := (sc45.2 (c3.length) (List.getElem?_eq_some_iff.mp k204).1 (pl_ne t214 h0c43 (by decide))).trans k204
  have k227 := (sc45.2 (gaq6) (List.getElem?_eq_some_iff.mp k205).1 (pl_ne t215 h0c43 (by decide))).trans k205
  have k228 := (sc45.2 (gbq6) (List.getElem?_eq_some_iff.mp k206).1 (pl_ne t216 h0c43 (by decide))).trans k206
  have k229 := (sc45.2 (glq6) (List.getElem?_eq_some_iff.mp k207).1 (pl_ne t217 h0c43 (by decide))).trans k207
  have k230 := (sc45.2 (c33.length) (List.getElem?_eq_some_iff.mp k208).1 (pl_ne t222 h0c43 (by decide))).trans k208
  have R231 := Zro.sm R209 Wc43 t223 (by decide) sc45 Zx.rf h0c43
  have R232 := Zro.sm R210 Wc43 t224 (by decide) sc45 Zx.rf h0c43
  have ka233 := (sc45.2 (c39.length) (List.getElem?_eq_some_iff.mp ka211).1 (Ne.symm nac40)).trans ka211
  have ka234 := (sc45.2 (c42.length) (List.getElem?_eq_some_iff.mp kc43).1 (Ne.symm nac43)).trans kc43
  have hl235 : c45.length = c.length + 499 := lc45.trans hl225
  refine wb (v := ()) (by decide) ?_
  obtain ⟨Wc46, hcc46, h0c46, tc46, kc46, xc46, sc46, lc46⟩ := raw_n (T := 62) (e := .inl (0, 4, .inl (fun _ => 0))) Wc45 hcc45 h0c43 ⟨_, rfl, fun _ _ => trivial⟩
  refine wb (v := c45 ++ [(.inl (0, 4, .inl (fun _ => 0)) : va_E)]) rfl ?_
  have k237 := (sc46.2 (c3.length) (List.getElem?_eq_some_iff.mp k226).1 (pl_ne t214 h0c43 (by decide))).trans k226
  have k238 := (sc46.2 (gaq6) (List.getElem?_eq_some_iff.mp k227).1 (pl_ne t215 h0c43 (by decide))).trans k227
  have k239 := (sc46.2 (gbq6) (List.getElem?_eq_some_iff.mp k228).1 (pl_ne t216 h0c43 (by decide))).trans k228
  have k240 := (sc46.2 (glq6) (List.getElem?_eq_some_iff.mp k229).1 (pl_ne t217 h0c43 (by decide))).trans k229
  have k241 := (sc46.2 (c33.length) (List.getElem?_eq_some_iff.mp k230).1 (pl_ne t222 h0c43 (by decide))).trans k230
  have R242 := Zro.sm R231 Wc45 t223 (by decide) sc46 xc46 h0c43
  have R243 := Zro.sm R232 Wc45 t224 (by decide) sc46 xc46 h0c43
  have ka244 := (sc46.2 (c39.length) (List.getElem?_eq_some_iff.mp ka233).1 (Ne.symm nac40)).trans ka233
  have ta245 := xc46 (c39.length) 0 ta212 (Ne.symm nac40)
  have ka246 := (sc46.2 (c42.length) (List.getElem?_eq_some_iff.mp ka234).1 (Ne.symm nac43)).trans ka234
  have ta247 := xc46 (c42.length) 0 tc43 (Ne.symm nac43)
  have t248 := Zx.get xc46 h0c43 t213 (by decide)
  have t249 := Zx.get xc46 h0c43 t214 (by decide)
  have t250 := Zx.get xc46 h0c43 t215 (by decide)
  have t251 := Zx.get xc46 h0c43 t216 (by decide)
  have t252 := Zx.get xc46 h0c43 t217 (by decide)
  have t253 := Zx.get xc46 h0c43 t218 (by decide)
  have t254 := Zx.get xc46 h0c43 t219 (by decide)
  have t255 := Zx.get xc46 h0c43 t220 (by decide)
  have t256 := Zx.get xc46 h0c43 t221 (by decide)
  have t257 := Zx.get xc46 h0c43 t222 (by decide)
  have t258 := Zx.get xc46 h0c43 t223 (by decide)
  have t259 := Zx.get xc46 h0c43 t224 (by decide)
  have yc46 := Zx.tr yc43 xc46
  have x_sc46 := Zsm.tr x_sc45 sc46
  have hl260 : (c45 ++ [(.inl (0, 4, .inl (fun _ => 0)) : va_E)]).length = c.length + 500 := by rw [lc46, hl235]
  generalize c45 ++ [(.inl (0, 4, .inl (fun _ => 0)) : va_E)] = c46 at Wc46 hcc46 kc46 sc46 x_sc46 hl260 k237 k238 k239 k240 k241 R242 R243 ka244 ka246 ⊢
  generalize G203 ++ [62] = G236 at Wc46 h0c46 tc46 xc46 yc46 t248 t249 t250 t251 t252 t253 t254 t255 t256 t257 t258 t259 R242 R243 ta245 ta247
  obtain ⟨c48, ec48, Wc48, hcc48, sc48, lc48⟩ := raw_p (v := .ref c45.length) Wc46 h0c46 hcc46 (j := 9) (by simp)
  refine wb ec48 ?_
  simp only [List.set] at hcc48
  have x_sc48 := Zsm.tr x_sc46 sc48
  have k261 := (sc48.2 (c3.length) (List.getElem?_eq_some_iff.mp k237).1 (pl_ne t249 h0c46 (by decide))).trans k237
  have k262 := (sc48.2 (gaq6) (List.getElem?_eq_some_iff.mp k238).1 (pl_ne t250 h0c46 (by decide))).trans k238
  have k263 := (sc48.2 (gbq6) (List.getElem?_eq_some_iff.mp k239).1 (pl_ne t251 h0c46 (by decide))).trans k239
  have k264 := (sc48.2 (glq6) (List.getElem?_eq_some_iff.mp k240).1 (pl_ne t252 h0c46 (by decide))).trans k240
  have k265 := (sc48.2 (c33.length) (List.getElem?_eq_some_iff.mp k241).1 (pl_ne t257 h0c46 (by decide))).trans k241
  have R266 := Zro.sm R242 Wc46 t258 (by decide) sc48 Zx.rf h0c46
  have R267 := Zro.sm R243 Wc46 t259 (by decide) sc48 Zx.rf h0c46
  have ka268 := (sc48.2 (c39.length) (List.getElem?_eq_some_iff.mp ka244).1 (Ne.symm nac40)).trans ka244
  have ka269 := (sc48.2 (c42.length) (List.getElem?_eq_some_iff.mp ka246).1 (Ne.symm nac43)).trans ka246
  have hl270 : c48.length = c.length + 500 := lc48.trans hl260
  obtain ⟨c49, ec49, Wc49, hcc49, sc49, lc49⟩ := raw_p (v := .int 0) Wc48 h0c46 hcc48 (j := 10) (by simp)
  refine wb ec49 ?_
  simp only [List.set] at hcc49
  have x_sc49 := Zsm.tr x_sc48 sc49
  have k271 := (sc49.2 (c3.length) (List.getElem?_eq_some_iff.mp k261).1 (pl_ne t249 h0c46 (by decide))).trans k261
  have k272 := (sc49.2 (gaq6) (List.getElem?_eq_some_iff.mp k262).1 (pl_ne t250 h0c46 (by decide))).trans k262
  have k273 := (sc49.2 (gbq6) (List.getElem?_eq_some_iff.mp k263).1 (pl_ne t251 h0c46 (by decide))).trans k263
  have k274 := (sc49.2 (glq6) (List.getElem?_eq_some_iff.mp k264).1 (pl_ne t252 h0c46 (by decide))).trans k264
  have k275 := (sc49.2 (c33.length) (List.getElem?_eq_some_iff.mp k265).1 (pl_ne t257 h0c46 (by decide))).trans k265
  have R276 := Zro.sm R266 Wc48 t258 (by decide) sc49 Zx.rf h0c46
  have R277 := Zro.sm R267 Wc48 t259 (by decide) sc49 Zx.rf h0c46
  have ka278 := (sc49.2 (c39.length) (List.getElem?_eq_some_iff.mp ka268).1 (Ne.symm nac40)).trans ka268
  have ka279 := (sc49.2 (c42.length) (List.getElem?_eq_some_iff.mp ka269).1 (Ne.symm nac43)).trans ka269
  have hl280 : c49.length = c.length + 500 := lc49.trans hl270
  obtain ⟨q, eb, Gq, fq, gq, Wq, Xq, Aq, Bq, Pq, Rq, Dq, Sq, lq⟩ := k_pqs hn Wc49 h0c46 hcc49 rfl rfl rfl ta245 ka278 nac40 ta247 ka279 nac43 (by omega) tc46
  unfold f_PQ_init_133
  refine wb eb ?_
  refine wb (v := ()) (if_pos ⟨rfl, Nat.le_refl _⟩) ?_
  have hl9 : q.length = c.length + 876 := by rw [lq, hl280]
  have gA : c.length ≤ c39.length := by omega
  have gB : c.length ≤ c42.length := by omega
  have gT : c.length ≤ c45.length := by omega
  have er9 : zgr c49 (c33.length) 10 1 = some rpq37 := by unfold zgr zgv; rw [k275]; exact ercell
  have ef9 : zgr c49 (c33.length) 10 2 = some fpq37 := by unfold zgr zgv; rw [k275]; exact efcell
  obtain ⟨G9, W9, X9, t9, w9, z9, y9⟩ := k_PQ_end Wc49 h0c46 hcc49 t248 t249 t253 t254 t255 t256 t257 ta245 ta247 tc46 nac40 nac43 (by omega) t258 t259 R276 R277 er9 ef9 Wq Xq Aq Bq Pq Rq Dq Sq
  have ss := x_sc49
  have hg9 := (Sq (c3.length) (wt_lt Wc49 t249) (pl_ne t249 ta245 (by decide)) (pl_ne t249 ta247 (by decide)) (pl_ne t249 tc46 (by decide))).trans k271
  have ha9 := (Sq (gaq6) (wt_lt Wc49 t250) (pl_ne t250 ta245 (by decide)) (pl_ne t250 ta247 (by decide)) (pl_ne t250 tc46 (by decide))).trans k272
  have hb9 := (Sq (gbq6) (wt_lt Wc49 t251) (pl_ne t251 ta245 (by decide)) (pl_ne t251 ta247 (by decide)) (pl_ne t251 tc46 (by decide))).trans k273
  have hl99 := (Sq (glq6) (wt_lt Wc49 t252) (pl_ne t252 ta245 (by decide)) (pl_ne t252 ta247 (by decide)) (pl_ne t252 tc46 (by decide))).trans k274
  have q0 : q[a0]? = some (.inr (11, [.ref c.length, .ref c3.length, .ref c8.length, .ref c13.length, .ref c19.length, .ref c26.length, .ref c33.length, .ref c39.length, .ref c42.length, .ref c45.length, .int 0])) := y9.trans hcc49
  exact ⟨q, rfl, G9, W9, (fun k T h hk => X9 k T (yc46 k T h hk) hk (by have := wt_lt W h; omega) (by have := wt_lt W h; omega)), t9, ⟨by omega, fun k hk ha => (Sq k (by have := ss.1; omega) (by omega) (by omega) (by omega)).trans (ss.2 k hk ha)⟩, hl9, w9, z9, c3.length, gaq6, gbq6, raw_g q0 (j := 1) rfl, X9 _ _ t249 (pl_ne t249 h0c46 (by decide)) (pl_ne t249 ta245 (by decide)) (pl_ne t249 ta247 (by decide)), (by unfold zgr zgv; rw [hg9]; exact ega), ha9, (by unfold zgr zgv; rw [hg9]; exact egb), hb9, (by unfold zgi zgv; rw [hg9]; exact egn), glq6, flq6, (by unfold zgr zgv; rw [hg9]; exact egl), hl99, hfq6, (by unfold zgi zgv; rw [hg9]; exact egm)⟩

end ZzT
