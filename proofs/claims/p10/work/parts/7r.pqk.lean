section ZzT
set_option maxRecDepth 100000 in
set_option maxHeartbeats 8000000 in
theorem k_PQ_init {nf : Nat} (hn : 8589934592 ≤ nf) {G : List Nat} {c : Zc} (W : Zwt zty G c) {a0  : Nat} (h0 : G[a0]? = some 0) (hc : c[a0]? = some (.inr (11, [.null, .null, .null, .null, .null, .null, .null, .null, .null, .null, .int 0])))  : ∃ q, f_PQ_init nf 876 42052 a0  c = some q ∧ ∃ G', Zwt zty G' q ∧ Zx G G' a0 ∧ G'[a0]? = some 14 ∧ Zsm c q a0 ∧ q.length = c.length + 876 ∧ PQw G' q a0 ∧ zgi q a0 11 10 = some 0 := by
  unfold f_PQ_init
  have hl0 : c.length = c.length + 0 := rfl
  refine wb (v := ()) (by decide) ?_
  obtain ⟨Wc1, hcc1, h0c1, tc1, kc1, xc1, sc1, lc1⟩ := raw_n (T := 42) (e := .inl (1, 1500, .inl (fun _ => 0))) W hc h0 ⟨_, rfl, fun _ _ => trivial⟩
  refine wb (v := c ++ [(.inl (1, 1500, .inl (fun _ => 0)) : va_E)]) rfl ?_
  have yc1 := Zx.tr Zx.rf xc1
  have x_sc1 := Zsm.tr Zsm.rf sc1
  have hl2 : (c ++ [(.inl (1, 1500, .inl (fun _ => 0)) : va_E)]).length = c.length + 1 := by rw [lc1, hl0]
  generalize c ++ [(.inl (1, 1500, .inl (fun _ => 0)) : va_E)] = c1 at Wc1 hcc1 kc1 sc1 x_sc1 hl2  ⊢
  generalize G ++ [42] = G1 at Wc1 h0c1 tc1 xc1 yc1 
  obtain ⟨c3, ec3, Wc3, hcc3, sc3, lc3⟩ := raw_p (v := .ref c.length) Wc1 h0c1 hcc1 (j := 0) (by simp)
  refine wb ec3 ?_
  simp only [List.set] at hcc3
  have x_sc3 := Zsm.tr x_sc1 sc3
  have hl3 : c3.length = c.length + 1 := lc3.trans hl2
  refine wb (v := ()) (by decide) ?_
  obtain ⟨Wc4, hcc4, h0c4, tc4, kc4, xc4, sc4, lc4⟩ := raw_n (T := 0) (e := .inr (0, [.null, .null, .null, .null, .null, .null, .null, .int 0, .int 0, .int 0])) Wc3 hcc3 h0c1 (True.intro : True)
  refine wb (v := c3 ++ [(.inr (0, [.null, .null, .null, .null, .null, .null, .null, .int 0, .int 0, .int 0]) : va_E)]) rfl ?_
  have t5 := Zx.get xc4 h0c1 tc1 (by decide)
  have yc4 := Zx.tr yc1 xc4
  have x_sc4 := Zsm.tr x_sc3 sc4
  have hl6 : (c3 ++ [(.inr (0, [.null, .null, .null, .null, .null, .null, .null, .int 0, .int 0, .int 0]) : va_E)]).length = c.length + 2 := by rw [lc4, hl3]
  generalize c3 ++ [(.inr (0, [.null, .null, .null, .null, .null, .null, .null, .int 0, .int 0, .int 0]) : va_E)] = c4 at Wc4 hcc4 kc4 sc4 x_sc4 hl6  ⊢
  generalize G1 ++ [0] = G4 at Wc4 h0c4 tc4 xc4 yc4 t5
  refine wb (v := ()) (by decide) ?_
  obtain ⟨q6, eq6, G7, Wq6, xq6, tq6, sq6, lq6⟩ := k_Graph_init hn Wc4 tc4 kc4 
  refine wb eq6 ?_
  have neq6 : a0 ≠ c3.length := Nat.ne_of_lt (List.getElem?_eq_some_iff.mp hcc3).1
  have hcq6 := (sq6.2 a0 (List.getElem?_eq_some_iff.mp hcc4).1 neq6).trans hcc4
  have h0q6 := xq6 a0 0 h0c4 neq6
  have geq6 : c.length ≤ c3.length := by omega
  have t8 := Zx.get xq6 tc4 t5 (by decide)
  have yq6 := Zx.inn yc4 xq6 (by rw [W.1]; exact geq6)
  have x_sq6 := Zsm.inn x_sc4 sq6 geq6
  have hl9 : q6.length = c.length + 9 := by rw [lq6, hl6]
  obtain ⟨c8, ec8, Wc8, hcc8, sc8, lc8⟩ := raw_p (v := .ref c3.length) Wq6 h0q6 hcq6 (j := 1) (by simp)
  refine wb ec8 ?_
  simp only [List.set] at hcc8
  have x_sc8 := Zsm.tr x_sq6 sc8
  have hl10 : c8.length = c.length + 9 := lc8.trans hl9
  refine wb (v := ()) (by decide) ?_
  obtain ⟨Wc9, hcc9, h0c9, tc9, kc9, xc9, sc9, lc9⟩ := raw_n (T := 0) (e := .inr (2, [.int 0, .int 0, .int 0, .int 0, .null, .int 0, .null, .null, .int 0, .null, .null, .null, .int 0, .null, .int 0, .int 0, .null, .null, .int 0, .int 0, .int 0])) Wc8 hcc8 h0q6 (True.intro : True)
  refine wb (v := c8 ++ [(.inr (2, [.int 0, .int 0, .int 0, .int 0, .null, .int 0, .null, .null, .int 0, .null, .null, .null, .int 0, .null, .int 0, .int 0, .null, .null, .int 0, .int 0, .int 0]) : va_E)]) rfl ?_
  have t12 := Zx.get xc9 h0q6 t8 (by decide)
  have t13 := Zx.get xc9 h0q6 tq6 (by decide)
  have yc9 := Zx.tr yq6 xc9
  have x_sc9 := Zsm.tr x_sc8 sc9
  have hl14 : (c8 ++ [(.inr (2, [.int 0, .int 0, .int 0, .int 0, .null, .int 0, .null, .null, .int 0, .null, .null, .null, .int 0, .null, .int 0, .int 0, .null, .null, .int 0, .int 0, .int 0]) : va_E)]).length = c.length + 10 := by rw [lc9, hl10]
  generalize c8 ++ [(.inr (2, [.int 0, .int 0, .int 0, .int 0, .null, .int 0, .null, .null, .int 0, .null, .null, .null, .int 0, .null, .int 0, .int 0, .null, .null, .int 0, .int 0, .int 0]) : va_E)] = c9 at Wc9 hcc9 kc9 sc9 x_sc9 hl14  ⊢
  generalize G7 ++ [0] = G11 at Wc9 h0c9 tc9 xc9 yc9 t12 t13
  refine wb (v := ()) (by decide) ?_
  obtain ⟨q11, eq11, G15, Wq11, xq11, tq11, sq11, lq11⟩ := k_Text_init hn Wc9 tc9 kc9 
  refine wb eq11 ?_
  have neq11 : a0 ≠ c8.length := Nat.ne_of_lt (List.getElem?_eq_some_iff.mp hcc8).1
  have hcq11 := (sq11.2 a0 (List.getElem?_eq_some_iff.mp hcc9).1 neq11).trans hcc9
  have h0q11 := xq11 a0 0 h0c9 neq11
  have geq11 : c.length ≤ c8.length := by omega
  have t16 := Zx.get xq11 tc9 t12 (by decide)
  have t17 := Zx.get xq11 tc9 t13 (by decide)
  have yq11 := Zx.inn yc9 xq11 (by rw [W.1]; exact geq11)
  have x_sq11 := Zsm.inn x_sc9 sq11 geq11
  have hl18 : q11.length = c.length + 99 := by rw [lq11, hl14]
  obtain ⟨c13, ec13, Wc13, hcc13, sc13, lc13⟩ := raw_p (v := .ref c8.length) Wq11 h0q11 hcq11 (j := 2) (by simp)
  refine wb ec13 ?_
  simp only [List.set] at hcc13
  have x_sc13 := Zsm.tr x_sq11 sc13
  have hl19 : c13.length = c.length + 99 := lc13.trans hl18
  refine wb (v := ()) (by decide) ?_
  obtain ⟨Wc14, hcc14, h0c14, tc14, kc14, xc14, sc14, lc14⟩ := raw_n (T := 0) (e := .inr (5, [.int 0, .null, .null, .null, .null, .null, .int 0, .int 0, .int 0, .int 0, .int 0, .int 0, .int 0, .int 0, .int 0, .int 0, .int 0, .int 0, .int 0, .int 0])) Wc13 hcc13 h0q11 (True.intro : True)
  refine wb (v := c13 ++ [(.inr (5, [.int 0, .null, .null, .null, .null, .null, .int 0, .int 0, .int 0, .int 0, .int 0, .int 0, .int 0, .int 0, .int 0, .int 0, .int 0, .int 0, .int 0, .int 0]) : va_E)]) rfl ?_
  have t21 := Zx.get xc14 h0q11 t16 (by decide)
  have t22 := Zx.get xc14 h0q11 t17 (by decide)
  have t23 := Zx.get xc14 h0q11 tq11 (by decide)
  have yc14 := Zx.tr yq11 xc14
  have x_sc14 := Zsm.tr x_sc13 sc14
  have hl24 : (c13 ++ [(.inr (5, [.int 0, .null, .null, .null, .null, .null, .int 0, .int 0, .int 0, .int 0, .int 0, .int 0, .int 0, .int 0, .int 0, .int 0, .int 0, .int 0, .int 0, .int 0]) : va_E)]).length = c.length + 100 := by rw [lc14, hl19]
  generalize c13 ++ [(.inr (5, [.int 0, .null, .null, .null, .null, .null, .int 0, .int 0, .int 0, .int 0, .int 0, .int 0, .int 0, .int 0, .int 0, .int 0, .int 0, .int 0, .int 0, .int 0]) : va_E)] = c14 at Wc14 hcc14 kc14 sc14 x_sc14 hl24  ⊢
  generalize G15 ++ [0] = G20 at Wc14 h0c14 tc14 xc14 yc14 t21 t22 t23
  refine wb (raw_g (k := c8.length) hcc14 (j := 2) rfl) ?_
  refine wb (v := ()) (by decide) ?_
  obtain ⟨q17, eq17, G25, Wq17, xq17, tq17, sq17, lq17⟩ := k_Reader_init hn Wc14 tc14 kc14 t23
  refine wb eq17 ?_
  have neq17 : a0 ≠ c13.length := Nat.ne_of_lt (List.getElem?_eq_some_iff.mp hcc13).1
  have hcq17 := (sq17.2 a0 (List.getElem?_eq_some_iff.mp hcc14).1 neq17).trans hcc14
  have h0q17 := xq17 a0 0 h0c14 neq17
  have geq17 : c.length ≤ c13.length := by omega
  have t26 := Zx.get xq17 tc14 t21 (by decide)
  have t27 := Zx.get xq17 tc14 t22 (by decide)
  have t28 := Zx.get xq17 tc14 t23 (by decide)
  have yq17 := Zx.inn yc14 xq17 (by rw [W.1]; exact geq17)
  have x_sq17 := Zsm.inn x_sc14 sq17 geq17
  have hl29 : q17.length = c.length + 110 := by rw [lq17, hl24]
  obtain ⟨c19, ec19, Wc19, hcc19, sc19, lc19⟩ := raw_p (v := .ref c13.length) Wq17 h0q17 hcq17 (j := 3) (by simp)
  refine wb ec19 ?_
  simp only [List.set] at hcc19
  have x_sc19 := Zsm.tr x_sq17 sc19
  have hl30 : c19.length = c.length + 110 := lc19.trans hl29
  refine wb (v := ()) (by decide) ?_
  obtain ⟨Wc20, hcc20, h0c20, tc20, kc20, xc20, sc20, lc20⟩ := raw_n (T := 0) (e := .inr (7, [.null, .null, .null, .null, .null, .null, .null, .null, .null])) Wc19 hcc19 h0q17 (True.intro : True)
  refine wb (v := c19 ++ [(.inr (7, [.null, .null, .null, .null, .null, .null, .null, .null, .null]) : va_E)]) rfl ?_
  have t32 := Zx.get xc20 h0q17 t26 (by decide)
  have t33 := Zx.get xc20 h0q17 t27 (by decide)
  have t34 := Zx.get xc20 h0q17 t28 (by decide)
  have t35 := Zx.get xc20 h0q17 tq17 (by decide)
  have yc20 := Zx.tr yq17 xc20
  have x_sc20 := Zsm.tr x_sc19 sc20
  have hl36 : (c19 ++ [(.inr (7, [.null, .null, .null, .null, .null, .null, .null, .null, .null]) : va_E)]).length = c.length + 111 := by rw [lc20, hl30]
  generalize c19 ++ [(.inr (7, [.null, .null, .null, .null, .null, .null, .null, .null, .null]) : va_E)] = c20 at Wc20 hcc20 kc20 sc20 x_sc20 hl36  ⊢
  generalize G25 ++ [0] = G31 at Wc20 h0c20 tc20 xc20 yc20 t32 t33 t34 t35
  refine wb (raw_g (k := c3.length) hcc20 (j := 1) rfl) ?_
  refine wb (raw_g (k := c8.length) hcc20 (j := 2) rfl) ?_
  refine wb (v := ()) (by decide) ?_
  obtain ⟨q24, eq24, G37, Wq24, xq24, tq24, sq24, lq24⟩ := k_Finder_init hn Wc20 tc20 kc20 t33 t34
  refine wb eq24 ?_
  have neq24 : a0 ≠ c19.length := Nat.ne_of_lt (List.getElem?_eq_some_iff.mp hcc19).1
  have hcq24 := (sq24.2 a0 (List.getElem?_eq_some_iff.mp hcc20).1 neq24).trans hcc20
  have h0q24 := xq24 a0 0 h0c20 neq24
  have geq24 : c.length ≤ c19.length := by omega
  have t38 := Zx.get xq24 tc20 t32 (by decide)
  have t39 := Zx.get xq24 tc20 t33 (by decide)
  have t40 := Zx.get xq24 tc20 t34 (by decide)
  have t41 := Zx.get xq24 tc20 t35 (by decide)
  have yq24 := Zx.inn yc20 xq24 (by rw [W.1]; exact geq24)
  have x_sq24 := Zsm.inn x_sc20 sq24 geq24
  have hl42 : q24.length = c.length + 124 := by rw [lq24, hl36]
  obtain ⟨c26, ec26, Wc26, hcc26, sc26, lc26⟩ := raw_p (v := .ref c19.length) Wq24 h0q24 hcq24 (j := 4) (by simp)
  refine wb ec26 ?_
  simp only [List.set] at hcc26
  have x_sc26 := Zsm.tr x_sq24 sc26
  have hl43 : c26.length = c.length + 124 := lc26.trans hl42
  refine wb (v := ()) (by decide) ?_
  obtain ⟨Wc27, hcc27, h0c27, tc27, kc27, xc27, sc27, lc27⟩ := raw_n (T := 0) (e := .inr (8, [.null, .null, .null, .null, .int 0, .int 0])) Wc26 hcc26 h0q24 (True.intro : True)
  refine wb (v := c26 ++ [(.inr (8, [.null, .null, .null, .null, .int 0, .int 0]) : va_E)]) rfl ?_
  have t45 := Zx.get xc27 h0q24 t38 (by decide)
  have t46 := Zx.get xc27 h0q24 t39 (by decide)
  have t47 := Zx.get xc27 h0q24 t40 (by decide)
  have t48 := Zx.get xc27 h0q24 t41 (by decide)
  have t49 := Zx.get xc27 h0q24 tq24 (by decide)
  have yc27 := Zx.tr yq24 xc27
  have x_sc27 := Zsm.tr x_sc26 sc27
  have hl50 : (c26 ++ [(.inr (8, [.null, .null, .null, .null, .int 0, .int 0]) : va_E)]).length = c.length + 125 := by rw [lc27, hl43]
  generalize c26 ++ [(.inr (8, [.null, .null, .null, .null, .int 0, .int 0]) : va_E)] = c27 at Wc27 hcc27 kc27 sc27 x_sc27 hl50  ⊢
  generalize G37 ++ [0] = G44 at Wc27 h0c27 tc27 xc27 yc27 t45 t46 t47 t48 t49
  refine wb (raw_g (k := c3.length) hcc27 (j := 1) rfl) ?_
  refine wb (raw_g (k := c19.length) hcc27 (j := 4) rfl) ?_
  refine wb (v := ()) (by decide) ?_
  obtain ⟨q31, eq31, G51, Wq31, xq31, tq31, sq31, lq31⟩ := k_RuleBook_init hn Wc27 tc27 kc27 t46 t49
  refine wb eq31 ?_
  have neq31 : a0 ≠ c26.length := Nat.ne_of_lt (List.getElem?_eq_some_iff.mp hcc26).1
  have hcq31 := (sq31.2 a0 (List.getElem?_eq_some_iff.mp hcc27).1 neq31).trans hcc27
  have h0q31 := xq31 a0 0 h0c27 neq31
  have geq31 : c.length ≤ c26.length := by omega
  have t52 := Zx.get xq31 tc27 t45 (by decide)
  have t53 := Zx.get xq31 tc27 t46 (by decide)
  have t54 := Zx.get xq31 tc27 t47 (by decide)
  have t55 := Zx.get xq31 tc27 t48 (by decide)
  have t56 := Zx.get xq31 tc27 t49 (by decide)
  have yq31 := Zx.inn yc27 xq31 (by rw [W.1]; exact geq31)
  have x_sq31 := Zsm.inn x_sc27 sq31 geq31
  have hl57 : q31.length = c.length + 487 := by rw [lq31, hl50]
  obtain ⟨c33, ec33, Wc33, hcc33, sc33, lc33⟩ := raw_p (v := .ref c26.length) Wq31 h0q31 hcq31 (j := 5) (by simp)
  refine wb ec33 ?_
  simp only [List.set] at hcc33
  have x_sc33 := Zsm.tr x_sq31 sc33
  have hl58 : c33.length = c.length + 487 := lc33.trans hl57
  refine wb (v := ()) (by decide) ?_
  obtain ⟨Wc34, hcc34, h0c34, tc34, kc34, xc34, sc34, lc34⟩ := raw_n (T := 0) (e := .inr (10, [.null, .null, .null, .null])) Wc33 hcc33 h0q31 (True.intro : True)
  refine wb (v := c33 ++ [(.inr (10, [.null, .null, .null, .null]) : va_E)]) rfl ?_
  have t60 := Zx.get xc34 h0q31 t52 (by decide)
  have t61 := Zx.get xc34 h0q31 t53 (by decide)
  have t62 := Zx.get xc34 h0q31 t54 (by decide)
  have t63 := Zx.get xc34 h0q31 t55 (by decide)
  have t64 := Zx.get xc34 h0q31 t56 (by decide)
  have t65 := Zx.get xc34 h0q31 tq31 (by decide)
  have yc34 := Zx.tr yq31 xc34
  have x_sc34 := Zsm.tr x_sc33 sc34
  have hl66 : (c33 ++ [(.inr (10, [.null, .null, .null, .null]) : va_E)]).length = c.length + 488 := by rw [lc34, hl58]
  generalize c33 ++ [(.inr (10, [.null, .null, .null, .null]) : va_E)] = c34 at Wc34 hcc34 kc34 sc34 x_sc34 hl66  ⊢
  generalize G51 ++ [0] = G59 at Wc34 h0c34 tc34 xc34 yc34 t60 t61 t62 t63 t64 t65
  refine wb (raw_g (k := c19.length) hcc34 (j := 4) rfl) ?_
  refine wb (v := ()) (by decide) ?_
  obtain ⟨q37, eq37, G67, Wq37, xq37, tq37, sq37, lq37, rpq37, fpq37, clq37, odq37, otq37, cmq37, omq37, onq37, erq37, trq37, Rq37, efq37, tfq37, Sq37⟩ := k_Collector_init hn Wc34 tc34 kc34 t64
  refine wb eq37 ?_
  have neq37 : a0 ≠ c33.length := Nat.ne_of_lt (List.getElem?_eq_some_iff.mp hcc33).1
  have hcq37 := (sq37.2 a0 (List.getElem?_eq_some_iff.mp hcc34).1 neq37).trans hcc34
  have h0q37 := xq37 a0 0 h0c34 neq37
  have geq37 : c.length ≤ c33.length := by omega
  have t68 := Zx.get xq37 tc34 t60 (by decide)
  have t69 := Zx.get xq37 tc34 t61 (by decide)
  have t70 := Zx.get xq37 tc34 t62 (by decide)
  have t71 := Zx.get xq37 tc34 t63 (by decide)
  have t72 := Zx.get xq37 tc34 t64 (by decide)
  have t73 := Zx.get xq37 tc34 t65 (by decide)
  have yq37 := Zx.inn yc34 xq37 (by rw [W.1]; exact geq37)
  have x_sq37 := Zsm.inn x_sc34 sq37 geq37
  have hl74 : q37.length = c.length + 497 := by rw [lq37, hl66]
  obtain ⟨vsco, hco⟩ : ∃ vs, q37[c33.length]? = some (.inr (10, vs)) := by
    obtain ⟨e, g1, g2⟩ := Wq37.2 _ _ tq37
    obtain ⟨vs2, rfl, _⟩ := g2
    exact ⟨vs2, g1⟩
  have ercell := erq37
  have efcell := efq37
  unfold zgr zgv at ercell efcell; rw [hco] at ercell efcell
  obtain ⟨c39, ec39, Wc39, hcc39, sc39, lc39⟩ := raw_p (v := .ref c33.length) Wq37 h0q37 hcq37 (j := 6) (by simp)
  refine wb ec39 ?_
  simp only [List.set] at hcc39
  have x_sc39 := Zsm.tr x_sq37 sc39
  have k75 := (sc39.2 (c33.length) (List.getElem?_eq_some_iff.mp hco).1 (pl_ne tq37 h0q37 (by decide))).trans hco
  have R76 := Zro.sm Rq37 Wq37 trq37 (by decide) sc39 Zx.rf h0q37
  have R77 := Zro.sm Sq37 Wq37 tfq37 (by decide) sc39 Zx.rf h0q37
  have hl78 : c39.length = c.length + 497 := lc39.trans hl74
  refine wb (v := ()) (by decide) ?_
  obtain ⟨Wc40, hcc40, h0c40, tc40, kc40, xc40, sc40, lc40⟩ := raw_n (T := 0) (e := .inl (4, 4, .inr (.inr (.inr (.inr (fun _ => none)))))) Wc39 hcc39 h0q37 (True.intro : True)
  refine wb (v := c39 ++ [(.inl (4, 4, .inr (.inr (.inr (.inr (fun _ => none))))) : va_E)]) rfl ?_
  have k80 := (sc40.2 (c33.length) (List.getElem?_eq_some_iff.mp k75).1 (pl_ne tq37 h0q37 (by decide))).trans k75
  have R81 := Zro.sm R76 Wc39 trq37 (by decide) sc40 xc40 h0q37
  have R82 := Zro.sm R77 Wc39 tfq37 (by decide) sc40 xc40 h0q37
  have t83 := Zx.get xc40 h0q37 t68 (by decide)
  have t84 := Zx.get xc40 h0q37 t69 (by decide)
  have t85 := Zx.get xc40 h0q37 t70 (by decide)
  have t86 := Zx.get xc40 h0q37 t71 (by decide)
  have t87 := Zx.get xc40 h0q37 t72 (by decide)
  have t88 := Zx.get xc40 h0q37 t73 (by decide)
  have t89 := Zx.get xc40 h0q37 tq37 (by decide)
  have t90 := Zx.get xc40 h0q37 trq37 (by decide)
  have t91 := Zx.get xc40 h0q37 tfq37 (by decide)
  have yc40 := Zx.tr yq37 xc40
  have x_sc40 := Zsm.tr x_sc39 sc40
  have hl92 : (c39 ++ [(.inl (4, 4, .inr (.inr (.inr (.inr (fun _ => none))))) : va_E)]).length = c.length + 498 := by rw [lc40, hl78]
  generalize c39 ++ [(.inl (4, 4, .inr (.inr (.inr (.inr (fun _ => none))))) : va_E)] = c40 at Wc40 hcc40 kc40 sc40 x_sc40 hl92 k80 R81 R82 ⊢
  generalize G67 ++ [0] = G79 at Wc40 h0c40 tc40 xc40 yc40 t83 t84 t85 t86 t87 t88 t89 t90 t91 R81 R82
  have nac40 : a0 ≠ c39.length := Nat.ne_of_lt (List.getElem?_eq_some_iff.mp hcc39).1
  obtain ⟨c42, ec42, Wc42, hcc42, sc42, lc42⟩ := raw_p (v := .ref c39.length) Wc40 h0c40 hcc40 (j := 7) (by simp)
  refine wb ec42 ?_
  simp only [List.set] at hcc42
  have x_sc42 := Zsm.tr x_sc40 sc42
  have k93 := (sc42.2 (c33.length) (List.getElem?_eq_some_iff.mp k80).1 (pl_ne t89 h0c40 (by decide))).trans k80
  have R94 := Zro.sm R81 Wc40 t90 (by decide) sc42 Zx.rf h0c40
  have R95 := Zro.sm R82 Wc40 t91 (by decide) sc42 Zx.rf h0c40
  have ka96 := (sc42.2 (c39.length) (List.getElem?_eq_some_iff.mp kc40).1 (Ne.symm nac40)).trans kc40
  have hl97 : c42.length = c.length + 498 := lc42.trans hl92
  refine wb (v := ()) (by decide) ?_
  obtain ⟨Wc43, hcc43, h0c43, tc43, kc43, xc43, sc43, lc43⟩ := raw_n (T := 0) (e := .inl (5, 4, .inr (.inr (.inr (.inr (fun _ => none)))))) Wc42 hcc42 h0c40 (True.intro : True)
  refine wb (v := c42 ++ [(.inl (5, 4, .inr (.inr (.inr (.inr (fun _ => none))))) : va_E)]) rfl ?_
  have k99 := (sc43.2 (c33.length) (List.getElem?_eq_some_iff.mp k93).1 (pl_ne t89 h0c40 (by decide))).trans k93
  have R100 := Zro.sm R94 Wc42 t90 (by decide) sc43 xc43 h0c40
  have R101 := Zro.sm R95 Wc42 t91 (by decide) sc43 xc43 h0c40
  have ka102 := (sc43.2 (c39.length) (List.getElem?_eq_some_iff.mp ka96).1 (Ne.symm nac40)).trans ka96
  have ta103 := xc43 (c39.length) 0 tc40 (Ne.symm nac40)
  have t104 := Zx.get xc43 h0c40 t83 (by decide)
  have t105 := Zx.get xc43 h0c40 t84 (by decide)
  have t106 := Zx.get xc43 h0c40 t85 (by decide)
  have t107 := Zx.get xc43 h0c40 t86 (by decide)
  have t108 := Zx.get xc43 h0c40 t87 (by decide)
  have t109 := Zx.get xc43 h0c40 t88 (by decide)
  have t110 := Zx.get xc43 h0c40 t89 (by decide)
  have t111 := Zx.get xc43 h0c40 t90 (by decide)
  have t112 := Zx.get xc43 h0c40 t91 (by decide)
  have yc43 := Zx.tr yc40 xc43
  have x_sc43 := Zsm.tr x_sc42 sc43
  have hl113 : (c42 ++ [(.inl (5, 4, .inr (.inr (.inr (.inr (fun _ => none))))) : va_E)]).length = c.length + 499 := by rw [lc43, hl97]
  generalize c42 ++ [(.inl (5, 4, .inr (.inr (.inr (.inr (fun _ => none))))) : va_E)] = c43 at Wc43 hcc43 kc43 sc43 x_sc43 hl113 k99 R100 R101 ka102 ⊢
  generalize G79 ++ [0] = G98 at Wc43 h0c43 tc43 xc43 yc43 t104 t105 t106 t107 t108 t109 t110 t111 t112 R100 R101 ta103
  have nac43 : a0 ≠ c42.length := Nat.ne_of_lt (List.getElem?_eq_some_iff.mp hcc42).1
  obtain ⟨c45, ec45, Wc45, hcc45, sc45, lc45⟩ := raw_p (v := .ref c42.length) Wc43 h0c43 hcc43 (j := 8) (by simp)
  refine wb ec45 ?_
  simp only [List.set] at hcc45
  have x_sc45 := Zsm.tr x_sc43 sc45
  have k114 := (sc45.2 (c33.length) (List.getElem?_eq_some_iff.mp k99).1 (pl_ne t110 h0c43 (by decide))).trans k99
  have R115 := Zro.sm R100 Wc43 t111 (by decide) sc45 Zx.rf h0c43
  have R116 := Zro.sm R101 Wc43 t112 (by decide) sc45 Zx.rf h0c43
  have ka117 := (sc45.2 (c39.length) (List.getElem?_eq_some_iff.mp ka102).1 (Ne.symm nac40)).trans ka102
  have ka118 := (sc45.2 (c42.length) (List.getElem?_eq_some_iff.mp kc43).1 (Ne.symm nac43)).trans kc43
  have hl119 : c45.length = c.length + 499 := lc45.trans hl113
  refine wb (v := ()) (by decide) ?_
  obtain ⟨Wc46, hcc46, h0c46, tc46, kc46, xc46, sc46, lc46⟩ := raw_n (T := 62) (e := .inl (0, 4, .inl (fun _ => 0))) Wc45 hcc45 h0c43 ⟨_, rfl, fun _ _ => trivial⟩
  refine wb (v := c45 ++ [(.inl (0, 4, .inl (fun _ => 0)) : va_E)]) rfl ?_
  have k121 := (sc46.2 (c33.length) (List.getElem?_eq_some_iff.mp k114).1 (pl_ne t110 h0c43 (by decide))).trans k114
  have R122 := Zro.sm R115 Wc45 t111 (by decide) sc46 xc46 h0c43
  have R123 := Zro.sm R116 Wc45 t112 (by decide) sc46 xc46 h0c43
  have ka124 := (sc46.2 (c39.length) (List.getElem?_eq_some_iff.mp ka117).1 (Ne.symm nac40)).trans ka117
  have ta125 := xc46 (c39.length) 0 ta103 (Ne.symm nac40)
  have ka126 := (sc46.2 (c42.length) (List.getElem?_eq_some_iff.mp ka118).1 (Ne.symm nac43)).trans ka118
  have ta127 := xc46 (c42.length) 0 tc43 (Ne.symm nac43)
  have t128 := Zx.get xc46 h0c43 t104 (by decide)
  have t129 := Zx.get xc46 h0c43 t105 (by decide)
  have t130 := Zx.get xc46 h0c43 t106 (by decide)
  have t131 := Zx.get xc46 h0c43 t107 (by decide)
  have t132 := Zx.get xc46 h0c43 t108 (by decide)
  have t133 := Zx.get xc46 h0c43 t109 (by decide)
  have t134 := Zx.get xc46 h0c43 t110 (by decide)
  have t135 := Zx.get xc46 h0c43 t111 (by decide)
  have t136 := Zx.get xc46 h0c43 t112 (by decide)
  have yc46 := Zx.tr yc43 xc46
  have x_sc46 := Zsm.tr x_sc45 sc46
  have hl137 : (c45 ++ [(.inl (0, 4, .inl (fun _ => 0)) : va_E)]).length = c.length + 500 := by rw [lc46, hl119]
  generalize c45 ++ [(.inl (0, 4, .inl (fun _ => 0)) : va_E)] = c46 at Wc46 hcc46 kc46 sc46 x_sc46 hl137 k121 R122 R123 ka124 ka126 ⊢
  generalize G98 ++ [62] = G120 at Wc46 h0c46 tc46 xc46 yc46 t128 t129 t130 t131 t132 t133 t134 t135 t136 R122 R123 ta125 ta127
  obtain ⟨c48, ec48, Wc48, hcc48, sc48, lc48⟩ := raw_p (v := .ref c45.length) Wc46 h0c46 hcc46 (j := 9) (by simp)
  refine wb ec48 ?_
  simp only [List.set] at hcc48
  have x_sc48 := Zsm.tr x_sc46 sc48
  have k138 := (sc48.2 (c33.length) (List.getElem?_eq_some_iff.mp k121).1 (pl_ne t134 h0c46 (by decide))).trans k121
  have R139 := Zro.sm R122 Wc46 t135 (by decide) sc48 Zx.rf h0c46
  have R140 := Zro.sm R123 Wc46 t136 (by decide) sc48 Zx.rf h0c46
  have ka141 := (sc48.2 (c39.length) (List.getElem?_eq_some_iff.mp ka124).1 (Ne.symm nac40)).trans ka124
  have ka142 := (sc48.2 (c42.length) (List.getElem?_eq_some_iff.mp ka126).1 (Ne.symm nac43)).trans ka126
  have hl143 : c48.length = c.length + 500 := lc48.trans hl137
  obtain ⟨c49, ec49, Wc49, hcc49, sc49, lc49⟩ := raw_p (v := .int 0) Wc48 h0c46 hcc48 (j := 10) (by simp)
  refine wb ec49 ?_
  simp only [List.set] at hcc49
  have x_sc49 := Zsm.tr x_sc48 sc49
  have k144 := (sc49.2 (c33.length) (List.getElem?_eq_some_iff.mp k138).1 (pl_ne t134 h0c46 (by decide))).trans k138
  have R145 := Zro.sm R139 Wc48 t135 (by decide) sc49 Zx.rf h0c46
  have R146 := Zro.sm R140 Wc48 t136 (by decide) sc49 Zx.rf h0c46
  have ka147 := (sc49.2 (c39.length) (List.getElem?_eq_some_iff.mp ka141).1 (Ne.symm nac40)).trans ka141
  have ka148 := (sc49.2 (c42.length) (List.getElem?_eq_some_iff.mp ka142).1 (Ne.symm nac43)).trans ka142
  have hl149 : c49.length = c.length + 500 := lc49.trans hl143
  obtain ⟨q, eb, Gq, fq, gq, Wq, Xq, Aq, Bq, Pq, Rq, Dq, Sq, lq⟩ := k_pqs hn Wc49 h0c46 hcc49 rfl rfl rfl ta125 ka147 nac40 ta127 ka148 nac43 (by omega) tc46
  unfold f_PQ_init_133
  refine wb eb ?_
  refine wb (v := ()) (if_pos ⟨rfl, Nat.le_refl _⟩) ?_
  have hl9 : q.length = c.length + 876 := by rw [lq, hl149]
  have gA : c.length ≤ c39.length := by omega
  have gB : c.length ≤ c42.length := by omega
  have gT : c.length ≤ c45.length := by omega
  have er9 : zgr c49 (c33.length) 10 1 = some rpq37 := by unfold zgr zgv; rw [k144]; exact ercell
  have ef9 : zgr c49 (c33.length) 10 2 = some fpq37 := by unfold zgr zgv; rw [k144]; exact efcell
  obtain ⟨G9, W9, X9, t9, w9, z9, y9⟩ := k_PQ_end Wc49 h0c46 hcc49 t128 t129 t130 t131 t132 t133 t134 ta125 ta127 tc46 nac40 nac43 (by omega) t135 t136 R145 R146 er9 ef9 Wq Xq Aq Bq Pq Rq Dq Sq
  have ss := x_sc49
  exact ⟨q, rfl, G9, W9, (fun k T h hk => X9 k T (yc46 k T h hk) hk (by have := wt_lt W h; omega) (by have := wt_lt W h; omega)), t9, ⟨by omega, fun k hk ha => (Sq k (by have := ss.1; omega) (by omega) (by omega) (by omega)).trans (ss.2 k hk ha)⟩, hl9, w9, z9⟩
end ZzT
