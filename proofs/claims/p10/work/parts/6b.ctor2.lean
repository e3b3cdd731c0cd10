section ZzT
set_option maxRecDepth 100000 in
set_option maxHeartbeats 1000000 in
theorem k_Graph_init {nf : Nat} (hn : 8589934592 ≤ nf) {G : List Nat} {c : Zc} (W : Zwt zty G c) {a0  : Nat} (h0 : G[a0]? = some 0) (hc : c[a0]? = some (.inr (0, [.null, .null, .null, .null, .null, .null, .null, .int 0, .int 0, .int 0])))  : ∃ q, f_Graph_init nf 7 896 a0  c = some q ∧ ∃ G', Zwt zty G' q ∧ Zx G G' a0 ∧ G'[a0]? = some 1 ∧ Zsm c q a0 ∧ q.length = c.length + 7 := by
  unfold f_Graph_init
  have hl0 : c.length = c.length + 0 := rfl
  refine wb (v := ()) (by decide) ?_
  obtain ⟨Wc1, hcc1, h0c1, tc1, kc1, xc1, sc1, lc1⟩ := raw_n (T := 15) (e := .inl (0, 16, .inl (fun _ => 0))) W hc h0 ⟨_, rfl, fun _ _ => rgi (by decide) (by decide)⟩
  refine wb (v := c ++ [(.inl (0, 16, .inl (fun _ => 0)) : va_E)]) rfl ?_
  have yc1 := Zx.tr Zx.rf xc1
  have x_sc1 := Zsm.tr Zsm.rf sc1
  have hl2 : (c ++ [(.inl (0, 16, .inl (fun _ => 0)) : va_E)]).length = c.length + 1 := by rw [lc1, hl0]
  generalize c ++ [(.inl (0, 16, .inl (fun _ => 0)) : va_E)] = c1 at Wc1 hcc1 kc1 sc1 x_sc1 hl2 ⊢
  generalize G ++ [15] = G1 at Wc1 h0c1 tc1 xc1 yc1 
  obtain ⟨c3, ec3, Wc3, hcc3, sc3, lc3⟩ := raw_p (v := .ref c.length) Wc1 h0c1 hcc1 (j := 0) (by simp)
  refine wb ec3 ?_
  simp only [List.set] at hcc3
  have x_sc3 := Zsm.tr x_sc1 sc3
  have hl3 : c3.length = c.length + 1 := lc3.trans hl2
  refine wb (v := ()) (by decide) ?_
  obtain ⟨Wc4, hcc4, h0c4, tc4, kc4, xc4, sc4, lc4⟩ := raw_n (T := 16) (e := .inl (0, 64, .inl (fun _ => 0))) Wc3 hcc3 h0c1 ⟨_, rfl, fun _ _ => rgi (by decide) (by decide)⟩
  refine wb (v := c3 ++ [(.inl (0, 64, .inl (fun _ => 0)) : va_E)]) rfl ?_
  have t5 := Zx.get xc4 h0c1 tc1 (by decide)
  have yc4 := Zx.tr yc1 xc4
  have x_sc4 := Zsm.tr x_sc3 sc4
  have hl6 : (c3 ++ [(.inl (0, 64, .inl (fun _ => 0)) : va_E)]).length = c.length + 2 := by rw [lc4, hl3]
  generalize c3 ++ [(.inl (0, 64, .inl (fun _ => 0)) : va_E)] = c4 at Wc4 hcc4 kc4 sc4 x_sc4 hl6 ⊢
  generalize G1 ++ [16] = G4 at Wc4 h0c4 tc4 xc4 yc4 t5
  obtain ⟨c6, ec6, Wc6, hcc6, sc6, lc6⟩ := raw_p (v := .ref c3.length) Wc4 h0c4 hcc4 (j := 1) (by simp)
  refine wb ec6 ?_
  simp only [List.set] at hcc6
  have x_sc6 := Zsm.tr x_sc4 sc6
  have hl7 : c6.length = c.length + 2 := lc6.trans hl6
  refine wb (v := ()) (by decide) ?_
  obtain ⟨Wc7, hcc7, h0c7, tc7, kc7, xc7, sc7, lc7⟩ := raw_n (T := 17) (e := .inl (0, 100, .inl (fun _ => 0))) Wc6 hcc6 h0c4 ⟨_, rfl, fun _ _ => rgi (by decide) (by decide)⟩
  refine wb (v := c6 ++ [(.inl (0, 100, .inl (fun _ => 0)) : va_E)]) rfl ?_
  have t9 := Zx.get xc7 h0c4 t5 (by decide)
  have t10 := Zx.get xc7 h0c4 tc4 (by decide)
  have yc7 := Zx.tr yc4 xc7
  have x_sc7 := Zsm.tr x_sc6 sc7
  have hl11 : (c6 ++ [(.inl (0, 100, .inl (fun _ => 0)) : va_E)]).length = c.length + 3 := by rw [lc7, hl7]
  generalize c6 ++ [(.inl (0, 100, .inl (fun _ => 0)) : va_E)] = c7 at Wc7 hcc7 kc7 sc7 x_sc7 hl11 ⊢
  generalize G4 ++ [17] = G8 at Wc7 h0c7 tc7 xc7 yc7 t9 t10
  obtain ⟨c9, ec9, Wc9, hcc9, sc9, lc9⟩ := raw_p (v := .ref c6.length) Wc7 h0c7 hcc7 (j := 2) (by simp)
  refine wb ec9 ?_
  simp only [List.set] at hcc9
  have x_sc9 := Zsm.tr x_sc7 sc9
  have hl12 : c9.length = c.length + 3 := lc9.trans hl11
  refine wb (v := ()) (by decide) ?_
  obtain ⟨Wc10, hcc10, h0c10, tc10, kc10, xc10, sc10, lc10⟩ := raw_n (T := 18) (e := .inl (0, 100, .inl (fun _ => 0))) Wc9 hcc9 h0c7 ⟨_, rfl, fun _ _ => rgi (by decide) (by decide)⟩
  refine wb (v := c9 ++ [(.inl (0, 100, .inl (fun _ => 0)) : va_E)]) rfl ?_
  have t14 := Zx.get xc10 h0c7 t9 (by decide)
  have t15 := Zx.get xc10 h0c7 t10 (by decide)
  have t16 := Zx.get xc10 h0c7 tc7 (by decide)
  have yc10 := Zx.tr yc7 xc10
  have x_sc10 := Zsm.tr x_sc9 sc10
  have hl17 : (c9 ++ [(.inl (0, 100, .inl (fun _ => 0)) : va_E)]).length = c.length + 4 := by rw [lc10, hl12]
  generalize c9 ++ [(.inl (0, 100, .inl (fun _ => 0)) : va_E)] = c10 at Wc10 hcc10 kc10 sc10 x_sc10 hl17 ⊢
  generalize G8 ++ [18] = G13 at Wc10 h0c10 tc10 xc10 yc10 t14 t15 t16
  obtain ⟨c12, ec12, Wc12, hcc12, sc12, lc12⟩ := raw_p (v := .ref c9.length) Wc10 h0c10 hcc10 (j := 3) (by simp)
  refine wb ec12 ?_
  simp only [List.set] at hcc12
  have x_sc12 := Zsm.tr x_sc10 sc12
  have hl18 : c12.length = c.length + 4 := lc12.trans hl17
  refine wb (v := ()) (by decide) ?_
  obtain ⟨Wc13, hcc13, h0c13, tc13, kc13, xc13, sc13, lc13⟩ := raw_n (T := 19) (e := .inl (0, 100, .inl (fun _ => 0))) Wc12 hcc12 h0c10 ⟨_, rfl, fun _ _ => rgi (by decide) (by decide)⟩
  refine wb (v := c12 ++ [(.inl (0, 100, .inl (fun _ => 0)) : va_E)]) rfl ?_
  have t20 := Zx.get xc13 h0c10 t14 (by decide)
  have t21 := Zx.get xc13 h0c10 t15 (by decide)
  have t22 := Zx.get xc13 h0c10 t16 (by decide)
  have t23 := Zx.get xc13 h0c10 tc10 (by decide)
  have yc13 := Zx.tr yc10 xc13
  have x_sc13 := Zsm.tr x_sc12 sc13
  have hl24 : (c12 ++ [(.inl (0, 100, .inl (fun _ => 0)) : va_E)]).length = c.length + 5 := by rw [lc13, hl18]
  generalize c12 ++ [(.inl (0, 100, .inl (fun _ => 0)) : va_E)] = c13 at Wc13 hcc13 kc13 sc13 x_sc13 hl24 ⊢
  generalize G13 ++ [19] = G19 at Wc13 h0c13 tc13 xc13 yc13 t20 t21 t22 t23
  obtain ⟨c15, ec15, Wc15, hcc15, sc15, lc15⟩ := raw_p (v := .ref c12.length) Wc13 h0c13 hcc13 (j := 4) (by simp)
  refine wb ec15 ?_
  simp only [List.set] at hcc15
  have x_sc15 := Zsm.tr x_sc13 sc15
  have hl25 : c15.length = c.length + 5 := lc15.trans hl24
  refine wb (v := ()) (by decide) ?_
  obtain ⟨Wc16, hcc16, h0c16, tc16, kc16, xc16, sc16, lc16⟩ := raw_n (T := 20) (e := .inl (0, 100, .inl (fun _ => 0))) Wc15 hcc15 h0c13 ⟨_, rfl, fun _ _ => rgi (by decide) (by decide)⟩
  refine wb (v := c15 ++ [(.inl (0, 100, .inl (fun _ => 0)) : va_E)]) rfl ?_
  have t27 := Zx.get xc16 h0c13 t20 (by decide)
  have t28 := Zx.get xc16 h0c13 t21 (by decide)
  have t29 := Zx.get xc16 h0c13 t22 (by decide)
  have t30 := Zx.get xc16 h0c13 t23 (by decide)
  have t31 := Zx.get xc16 h0c13 tc13 (by decide)
  have yc16 := Zx.tr yc13 xc16
  have x_sc16 := Zsm.tr x_sc15 sc16
  have hl32 : (c15 ++ [(.inl (0, 100, .inl (fun _ => 0)) : va_E)]).length = c.length + 6 := by rw [lc16, hl25]
  generalize c15 ++ [(.inl (0, 100, .inl (fun _ => 0)) : va_E)] = c16 at Wc16 hcc16 kc16 sc16 x_sc16 hl32 ⊢
  generalize G19 ++ [20] = G26 at Wc16 h0c16 tc16 xc16 yc16 t27 t28 t29 t30 t31
  obtain ⟨c18, ec18, Wc18, hcc18, sc18, lc18⟩ := raw_p (v := .ref c15.length) Wc16 h0c16 hcc16 (j := 5) (by simp)
  refine wb ec18 ?_
  simp only [List.set] at hcc18
  have x_sc18 := Zsm.tr x_sc16 sc18
  have hl33 : c18.length = c.length + 6 := lc18.trans hl32
  refine wb (v := ()) (by decide) ?_
  obtain ⟨Wc19, hcc19, h0c19, tc19, kc19, xc19, sc19, lc19⟩ := raw_n (T := 21) (e := .inl (0, 416, .inl (fun _ => 0))) Wc18 hcc18 h0c16 ⟨_, rfl, fun _ _ => trivial⟩
  refine wb (v := c18 ++ [(.inl (0, 416, .inl (fun _ => 0)) : va_E)]) rfl ?_
  have t35 := Zx.get xc19 h0c16 t27 (by decide)
  have t36 := Zx.get xc19 h0c16 t28 (by decide)
  have t37 := Zx.get xc19 h0c16 t29 (by decide)
  have t38 := Zx.get xc19 h0c16 t30 (by decide)
  have t39 := Zx.get xc19 h0c16 t31 (by decide)
  have t40 := Zx.get xc19 h0c16 tc16 (by decide)
  have yc19 := Zx.tr yc16 xc19
  have x_sc19 := Zsm.tr x_sc18 sc19
  have hl41 : (c18 ++ [(.inl (0, 416, .inl (fun _ => 0)) : va_E)]).length = c.length + 7 := by rw [lc19, hl33]
  generalize c18 ++ [(.inl (0, 416, .inl (fun _ => 0)) : va_E)] = c19 at Wc19 hcc19 kc19 sc19 x_sc19 hl41 ⊢
  generalize G26 ++ [21] = G34 at Wc19 h0c19 tc19 xc19 yc19 t35 t36 t37 t38 t39 t40
  obtain ⟨c21, ec21, Wc21, hcc21, sc21, lc21⟩ := raw_p (v := .ref c18.length) Wc19 h0c19 hcc19 (j := 6) (by simp)
  refine wb ec21 ?_
  simp only [List.set] at hcc21
  have x_sc21 := Zsm.tr x_sc19 sc21
  have hl42 : c21.length = c.length + 7 := lc21.trans hl41
  obtain ⟨c22, ec22, Wc22, hcc22, sc22, lc22⟩ := raw_p (v := .int 0) Wc21 h0c19 hcc21 (j := 7) (by simp)
  refine wb ec22 ?_
  simp only [List.set] at hcc22
  have x_sc22 := Zsm.tr x_sc21 sc22
  have hl43 : c22.length = c.length + 7 := lc22.trans hl42
  obtain ⟨c23, ec23, Wc23, hcc23, sc23, lc23⟩ := raw_p (v := .int 0) Wc22 h0c19 hcc22 (j := 8) (by simp)
  refine wb ec23 ?_
  simp only [List.set] at hcc23
  have x_sc23 := Zsm.tr x_sc22 sc23
  have hl44 : c23.length = c.length + 7 := lc23.trans hl43
  obtain ⟨c24, ec24, Wc24, hcc24, sc24, lc24⟩ := raw_p (v := .int 0) Wc23 h0c19 hcc23 (j := 9) (by simp)
  refine wb ec24 ?_
  simp only [List.set] at hcc24
  have x_sc24 := Zsm.tr x_sc23 sc24
  have hl45 : c24.length = c.length + 7 := lc24.trans hl44
  refine wb (raw_g (k := c12.length) hcc24 (j := 4) rfl) ?_
  refine wb (v := ()) (by decide) ?_
  obtain ⟨q26, eq26, Wq26, sq26, lq26, fillq26⟩ := k_fill (v := (-1)) hn Wc24 t39 rfl (by decide) (rgi (by decide) (by decide))
  refine wb eq26 ?_
  have ne46 := Ne.symm (pl_ne t39 h0c19 (by decide))
  have hcq26 := (sq26.2 a0 (List.getElem?_eq_some_iff.mp hcc24).1 ne46).trans hcc24
  have ge47 : c.length ≤ c12.length := by omega
  have x_sq26 := Zsm.inn x_sc24 sq26 ge47
  have hl48 : q26.length = c.length + 7 := lq26.trans hl45
  refine wb (v := ()) (by decide) ?_
  obtain ⟨Wz, tz, xz⟩ := wt_seal (T := 1) Wq26 h0c19 hcq26 rfl (Zvs.cons (Zcv.mr (T := 15) (set_get h0c19 t35 (by decide)) (by decide)) (Zvs.cons (Zcv.mr (T := 16) (set_get h0c19 t36 (by decide)) (by decide)) (Zvs.cons (Zcv.mr (T := 17) (set_get h0c19 t37 (by decide)) (by decide)) (Zvs.cons (Zcv.mr (T := 18) (set_get h0c19 t38 (by decide)) (by decide)) (Zvs.cons (Zcv.mr (T := 19) (set_get h0c19 t39 (by decide)) (by decide)) (Zvs.cons (Zcv.mr (T := 20) (set_get h0c19 t40 (by decide)) (by decide)) (Zvs.cons (Zcv.mr (T := 21) (set_get h0c19 tc19 (by decide)) (by decide)) (Zvs.cons (Zcv.mi (rgi (by decide) (by decide))) (Zvs.cons (Zcv.mi trivial) (Zvs.cons (Zcv.mi trivial) Zvs.nil))))))))))
  exact ⟨_, rfl, _, Wz, Zx.tr yc19 xz, tz, x_sq26, hl48⟩

set_option maxRecDepth 100000 in
set_option maxHeartbeats 1000000 in
theorem k_Way_init {nf : Nat} (hn : 8589934592 ≤ nf) {G : List Nat} {c : Zc} (W : Zwt zty G c) {a0  : Nat} (h0 : G[a0]? = some 0) (hc : c[a0]? = some (.inr (1, [.int 0, .int 0, .int 0, .int 0, .int 0, .int 0, .null, .null, .long 0, .int 0, .long 0, .null, .null, .null, .null, .null, .int 0, .int 0])))  : ∃ q, f_Way_init nf 7 344 a0  c = some q ∧ ∃ G', Zwt zty G' q ∧ Zx G G' a0 ∧ G'[a0]? = some 2 ∧ Zsm c q a0 ∧ q.length = c.length + 7 := by
  unfold f_Way_init
  have hl0 : c.length = c.length + 0 := rfl
  obtain ⟨c1, ec1, Wc1, hcc1, sc1, lc1⟩ := raw_p (v := .int 0) W h0 hc (j := 0) (by simp)
  refine wb ec1 ?_
  simp only [List.set] at hcc1
  have x_sc1 := Zsm.tr Zsm.rf sc1
  have hl1 : c1.length = c.length + 0 := lc1.trans hl0
  obtain ⟨c2, ec2, Wc2, hcc2, sc2, lc2⟩ := raw_p (v := .int 0) Wc1 h0 hcc1 (j := 1) (by simp)
  refine wb ec2 ?_
  simp only [List.set] at hcc2
  have x_sc2 := Zsm.tr x_sc1 sc2
  have hl2 : c2.length = c.length + 0 := lc2.trans hl1
  obtain ⟨c3, ec3, Wc3, hcc3, sc3, lc3⟩ := raw_p (v := .int (-1)) Wc2 h0 hcc2 (j := 2) (by simp)
  refine wb ec3 ?_
  simp only [List.set] at hcc3
  have x_sc3 := Zsm.tr x_sc2 sc3
  have hl3 : c3.length = c.length + 0 := lc3.trans hl2
  obtain ⟨c4, ec4, Wc4, hcc4, sc4, lc4⟩ := raw_p (v := .int 0) Wc3 h0 hcc3 (j := 3) (by simp)
  refine wb ec4 ?_
  simp only [List.set] at hcc4
  have x_sc4 := Zsm.tr x_sc3 sc4
  have hl4 : c4.length = c.length + 0 := lc4.trans hl3
  obtain ⟨c5, ec5, Wc5, hcc5, sc5, lc5⟩ := raw_p (v := .int 0) Wc4 h0 hcc4 (j := 4) (by simp)
  refine wb ec5 ?_
  simp only [List.set] at hcc5
  have x_sc5 := Zsm.tr x_sc4 sc5
  have hl5 : c5.length = c.length + 0 := lc5.trans hl4
  obtain ⟨c6, ec6, Wc6, hcc6, sc6, lc6⟩ := raw_p (v := .int 0) Wc5 h0 hcc5 (j := 5) (by simp)
  refine wb ec6 ?_
  simp only [List.set] at hcc6
  have x_sc6 := Zsm.tr x_sc5 sc6
  have hl6 : c6.length = c.length + 0 := lc6.trans hl5
  refine wb (v := ()) (by decide) ?_
  obtain ⟨Wc7, hcc7, h0c7, tc7, kc7, xc7, sc7, lc7⟩ := raw_n (T := 22) (e := .inl (0, 16, .inl (fun _ => 0))) Wc6 hcc6 h0 ⟨_, rfl, fun _ _ => rgi (by decide) (by decide)⟩
  refine wb (v := c6 ++ [(.inl (0, 16, .inl (fun _ => 0)) : va_E)]) rfl ?_
  have yc7 := Zx.tr Zx.rf xc7
  have x_sc7 := Zsm.tr x_sc6 sc7
  have hl8 : (c6 ++ [(.inl (0, 16, .inl (fun _ => 0)) : va_E)]).length = c.length + 1 := by rw [lc7, hl6]
  generalize c6 ++ [(.inl (0, 16, .inl (fun _ => 0)) : va_E)] = c7 at Wc7 hcc7 kc7 sc7 x_sc7 hl8 ⊢
  generalize G ++ [22] = G7 at Wc7 h0c7 tc7 xc7 yc7 
  obtain ⟨c9, ec9, Wc9, hcc9, sc9, lc9⟩ := raw_p (v := .ref c6.length) Wc7 h0c7 hcc7 (j := 6) (by simp)
  refine wb ec9 ?_
  simp only [List.set] at hcc9
  have x_sc9 := Zsm.tr x_sc7 sc9
  have hl9 : c9.length = c.length + 1 := lc9.trans hl8
  refine wb (v := ()) (by decide) ?_
  obtain ⟨Wc10, hcc10, h0c10, tc10, kc10, xc10, sc10, lc10⟩ := raw_n (T := 23) (e := .inl (0, 16, .inl (fun _ => 0))) Wc9 hcc9 h0c7 ⟨_, rfl, fun _ _ => trivial⟩
  refine wb (v := c9 ++ [(.inl (0, 16, .inl (fun _ => 0)) : va_E)]) rfl ?_
  have t11 := Zx.get xc10 h0c7 tc7 (by decide)
  have yc10 := Zx.tr yc7 xc10
  have x_sc10 := Zsm.tr x_sc9 sc10
  have hl12 : (c9 ++ [(.inl (0, 16, .inl (fun _ => 0)) : va_E)]).length = c.length + 2 := by rw [lc10, hl9]
  generalize c9 ++ [(.inl (0, 16, .inl (fun _ => 0)) : va_E)] = c10 at Wc10 hcc10 kc10 sc10 x_sc10 hl12 ⊢
  generalize G7 ++ [23] = G10 at Wc10 h0c10 tc10 xc10 yc10 t11
  obtain ⟨c12, ec12, Wc12, hcc12, sc12, lc12⟩ := raw_p (v := .ref c9.length) Wc10 h0c10 hcc10 (j := 7) (by simp)
  refine wb ec12 ?_
  simp only [List.set] at hcc12
  have x_sc12 := Zsm.tr x_sc10 sc12
  have hl13 : c12.length = c.length + 2 := lc12.trans hl12
  obtain ⟨c13, ec13, Wc13, hcc13, sc13, lc13⟩ := raw_p (v := .long 0) Wc12 h0c10 hcc12 (j := 8) (by simp)
  refine wb ec13 ?_
  simp only [List.set] at hcc13
  have x_sc13 := Zsm.tr x_sc12 sc13
  have hl14 : c13.length = c.length + 2 := lc13.trans hl13
  obtain ⟨c14, ec14, Wc14, hcc14, sc14, lc14⟩ := raw_p (v := .int 0) Wc13 h0c10 hcc13 (j := 9) (by simp)
  refine wb ec14 ?_
  simp only [List.set] at hcc14
  have x_sc14 := Zsm.tr x_sc13 sc14
  have hl15 : c14.length = c.length + 2 := lc14.trans hl14
  obtain ⟨c15, ec15, Wc15, hcc15, sc15, lc15⟩ := raw_p (v := .long (-1)) Wc14 h0c10 hcc14 (j := 10) (by simp)
  refine wb ec15 ?_
  simp only [List.set] at hcc15
  have x_sc15 := Zsm.tr x_sc14 sc15
  have hl16 : c15.length = c.length + 2 := lc15.trans hl15
  refine wb (v := ()) (by decide) ?_
  obtain ⟨Wc16, hcc16, h0c16, tc16, kc16, xc16, sc16, lc16⟩ := raw_n (T := 24) (e := .inl (2, 12, .inr (.inl (fun _ => 0)))) Wc15 hcc15 h0c10 ⟨_, rfl⟩
  refine wb (v := c15 ++ [(.inl (2, 12, .inr (.inl (fun _ => 0))) : va_E)]) rfl ?_
  have t18 := Zx.get xc16 h0c10 t11 (by decide)
  have t19 := Zx.get xc16 h0c10 tc10 (by decide)
  have yc16 := Zx.tr yc10 xc16
  have x_sc16 := Zsm.tr x_sc15 sc16
  have hl20 : (c15 ++ [(.inl (2, 12, .inr (.inl (fun _ => 0))) : va_E)]).length = c.length + 3 := by rw [lc16, hl16]
  generalize c15 ++ [(.inl (2, 12, .inr (.inl (fun _ => 0))) : va_E)] = c16 at Wc16 hcc16 kc16 sc16 x_sc16 hl20 ⊢
  generalize G10 ++ [24] = G17 at Wc16 h0c16 tc16 xc16 yc16 t18 t19
  obtain ⟨c18, ec18, Wc18, hcc18, sc18, lc18⟩ := raw_p (v := .ref c15.length) Wc16 h0c16 hcc16 (j := 11) (by simp)
  refine wb ec18 ?_
  simp only [List.set] at hcc18
  have x_sc18 := Zsm.tr x_sc16 sc18
  have hl21 : c18.length = c.length + 3 := lc18.trans hl20
  refine wb (v := ()) (by decide) ?_
  obtain ⟨Wc19, hcc19, h0c19, tc19, kc19, xc19, sc19, lc19⟩ := raw_n (T := 25) (e := .inl (2, 12, .inr (.inl (fun _ => 0)))) Wc18 hcc18 h0c16 ⟨_, rfl⟩
  refine wb (v := c18 ++ [(.inl (2, 12, .inr (.inl (fun _ => 0))) : va_E)]) rfl ?_
  have t23 := Zx.get xc19 h0c16 t18 (by decide)
  have t24 := Zx.get xc19 h0c16 t19 (by decide)
  have t25 := Zx.get xc19 h0c16 tc16 (by decide)
  have yc19 := Zx.tr yc16 xc19
  have x_sc19 := Zsm.tr x_sc18 sc19
  have hl26 : (c18 ++ [(.inl (2, 12, .inr (.inl (fun _ => 0))) : va_E)]).length = c.length + 4 := by rw [lc19, hl21]
  generalize c18 ++ [(.inl (2, 12, .inr (.inl (fun _ => 0))) : va_E)] = c19 at Wc19 hcc19 kc19 sc19 x_sc19 hl26 ⊢
  generalize G17 ++ [25] = G22 at Wc19 h0c19 tc19 xc19 yc19 t23 t24 t25
  obtain ⟨c21, ec21, Wc21, hcc21, sc21, lc21⟩ := raw_p (v := .ref c18.length) Wc19 h0c19 hcc19 (j := 12) (by simp)
  refine wb ec21 ?_
  simp only [List.set] at hcc21
  have x_sc21 := Zsm.tr x_sc19 sc21
  have hl27 : c21.length = c.length + 4 := lc21.trans hl26
  refine wb (v := ()) (by decide) ?_
  obtain ⟨Wc22, hcc22, h0c22, tc22, kc22, xc22, sc22, lc22⟩ := raw_n (T := 26) (e := .inl (0, 256, .inl (fun _ => 0))) Wc21 hcc21 h0c19 ⟨_, rfl, fun _ _ => trivial⟩
  refine wb (v := c21 ++ [(.inl (0, 256, .inl (fun _ => 0)) : va_E)]) rfl ?_
  have t29 := Zx.get xc22 h0c19 t23 (by decide)
  have t30 := Zx.get xc22 h0c19 t24 (by decide)
  have t31 := Zx.get xc22 h0c19 t25 (by decide)
  have t32 := Zx.get xc22 h0c19 tc19 (by decide)
  have yc22 := Zx.tr yc19 xc22
  have x_sc22 := Zsm.tr x_sc21 sc22
  have hl33 : (c21 ++ [(.inl (0, 256, .inl (fun _ => 0)) : va_E)]).length = c.length + 5 := by rw [lc22, hl27]
  generalize c21 ++ [(.inl (0, 256, .inl (fun _ => 0)) : va_E)] = c22 at Wc22 hcc22 kc22 sc22 x_sc22 hl33 ⊢
  generalize G22 ++ [26] = G28 at Wc22 h0c22 tc22 xc22 yc22 t29 t30 t31 t32
  obtain ⟨c24, ec24, Wc24, hcc24, sc24, lc24⟩ := raw_p (v := .ref c21.length) Wc22 h0c22 hcc22 (j := 13) (by simp)
  refine wb ec24 ?_
  simp only [List.set] at hcc24
  have x_sc24 := Zsm.tr x_sc22 sc24
  have hl34 : c24.length = c.length + 5 := lc24.trans hl33
  refine wb (v := ()) (by decide) ?_
  obtain ⟨Wc25, hcc25, h0c25, tc25, kc25, xc25, sc25, lc25⟩ := raw_n (T := 27) (e := .inl (0, 16, .inl (fun _ => 0))) Wc24 hcc24 h0c22 ⟨_, rfl, fun _ _ => trivial⟩
  refine wb (v := c24 ++ [(.inl (0, 16, .inl (fun _ => 0)) : va_E)]) rfl ?_
  have t36 := Zx.get xc25 h0c22 t29 (by decide)
  have t37 := Zx.get xc25 h0c22 t30 (by decide)
  have t38 := Zx.get xc25 h0c22 t31 (by decide)
  have t39 := Zx.get xc25 h0c22 t32 (by decide)
  have t40 := Zx.get xc25 h0c22 tc22 (by decide)
  have yc25 := Zx.tr yc22 xc25
  have x_sc25 := Zsm.tr x_sc24 sc25
  have hl41 : (c24 ++ [(.inl (0, 16, .inl (fun _ => 0)) : va_E)]).length = c.length + 6 := by rw [lc25, hl34]
  generalize c24 ++ [(.inl (0, 16, .inl (fun _ => 0)) : va_E)] = c25 at Wc25 hcc25 kc25 sc25 x_sc25 hl41 ⊢
  generalize G28 ++ [27] = G35 at Wc25 h0c25 tc25 xc25 yc25 t36 t37 t38 t39 t40
  obtain ⟨c27, ec27, Wc27, hcc27, sc27, lc27⟩ := raw_p (v := .ref c24.length) Wc25 h0c25 hcc25 (j := 14) (by simp)
  refine wb ec27 ?_
  simp only [List.set] at hcc27
  have x_sc27 := Zsm.tr x_sc25 sc27
  have hl42 : c27.length = c.length + 6 := lc27.trans hl41
  refine wb (v := ()) (by decide) ?_
  obtain ⟨Wc28, hcc28, h0c28, tc28, kc28, xc28, sc28, lc28⟩ := raw_n (T := 28) (e := .inl (0, 16, .inl (fun _ => 0))) Wc27 hcc27 h0c25 ⟨_, rfl, fun _ _ => trivial⟩
  refine wb (v := c27 ++ [(.inl (0, 16, .inl (fun _ => 0)) : va_E)]) rfl ?_
  have t44 := Zx.get xc28 h0c25 t36 (by decide)
  have t45 := Zx.get xc28 h0c25 t37 (by decide)
  have t46 := Zx.get xc28 h0c25 t38 (by decide)
  have t47 := Zx.get xc28 h0c25 t39 (by decide)
  have t48 := Zx.get xc28 h0c25 t40 (by decide)
  have t49 := Zx.get xc28 h0c25 tc25 (by decide)
  have yc28 := Zx.tr yc25 xc28
  have x_sc28 := Zsm.tr x_sc27 sc28
  have hl50 : (c27 ++ [(.inl (0, 16, .inl (fun _ => 0)) : va_E)]).length = c.length + 7 := by rw [lc28, hl42]
  generalize c27 ++ [(.inl (0, 16, .inl (fun _ => 0)) : va_E)] = c28 at Wc28 hcc28 kc28 sc28 x_sc28 hl50 ⊢
  generalize G35 ++ [28] = G43 at Wc28 h0c28 tc28 xc28 yc28 t44 t45 t46 t47 t48 t49
  obtain ⟨c30, ec30, Wc30, hcc30, sc30, lc30⟩ := raw_p (v := .ref c27.length) Wc28 h0c28 hcc28 (j := 15) (by simp)
  refine wb ec30 ?_
  simp only [List.set] at hcc30
  have x_sc30 := Zsm.tr x_sc28 sc30
  have hl51 : c30.length = c.length + 7 := lc30.trans hl50
  obtain ⟨c31, ec31, Wc31, hcc31, sc31, lc31⟩ := raw_p (v := .int 0) Wc30 h0c28 hcc30 (j := 16) (by simp)
  refine wb ec31 ?_
  simp only [List.set] at hcc31
  have x_sc31 := Zsm.tr x_sc30 sc31
  have hl52 : c31.length = c.length + 7 := lc31.trans hl51
  obtain ⟨c32, ec32, Wc32, hcc32, sc32, lc32⟩ := raw_p (v := .int (-1)) Wc31 h0c28 hcc31 (j := 17) (by simp)
  refine wb ec32 ?_
  simp only [List.set] at hcc32
  have x_sc32 := Zsm.tr x_sc31 sc32
  have hl53 : c32.length = c.length + 7 := lc32.trans hl52
  refine wb (v := ()) (by decide) ?_
  obtain ⟨Wz, tz, xz⟩ := wt_seal (T := 2) Wc32 h0c28 hcc32 rfl (Zvs.cons (Zcv.mi (rgi (by decide) (by decide))) (Zvs.cons (Zcv.mi (rgi (by decide) (by decide))) (Zvs.cons (Zcv.mi trivial) (Zvs.cons (Zcv.mi (rgi (by decide) (by decide))) (Zvs.cons (Zcv.mi (rgi (by decide) (by decide))) (Zvs.cons (Zcv.mi (rgi (by decide) (by decide))) (Zvs.cons (Zcv.mr (T := 22) (set_get h0c28 t44 (by decide)) (by decide)) (Zvs.cons (Zcv.mr (T := 23) (set_get h0c28 t45 (by decide)) (by decide)) (Zvs.cons Zcv.ml (Zvs.cons (Zcv.mi (rgi (by decide) (by decide))) (Zvs.cons Zcv.ml (Zvs.cons (Zcv.mr (T := 24) (set_get h0c28 t46 (by decide)) (by decide)) (Zvs.cons (Zcv.mr (T := 25) (set_get h0c28 t47 (by decide)) (by decide)) (Zvs.cons (Zcv.mr (T := 26) (set_get h0c28 t48 (by decide)) (by decide)) (Zvs.cons (Zcv.mr (T := 27) (set_get h0c28 t49 (by decide)) (by decide)) (Zvs.cons (Zcv.mr (T := 28) (set_get h0c28 tc28 (by decide)) (by decide)) (Zvs.cons (Zcv.mi trivial) (Zvs.cons (Zcv.mi trivial) Zvs.nil))))))))))))))))))
  exact ⟨_, rfl, _, Wz, Zx.tr yc28 xz, tz, x_sc32, hl53⟩

set_option maxRecDepth 100000 in
set_option maxHeartbeats 1000000 in
theorem k_Tokens_init {nf : Nat} (hn : 8589934592 ≤ nf) {G : List Nat} {c : Zc} (W : Zwt zty G c) {a0  : Nat} (h0 : G[a0]? = some 0) (hc : c[a0]? = some (.inr (3, [.null, .null, .null, .int 0, .null, .int 0])))  : ∃ q, f_Tokens_init nf 4 606 a0  c = some q ∧ ∃ G', Zwt zty G' q ∧ Zx G G' a0 ∧ G'[a0]? = some 4 ∧ Zsm c q a0 ∧ q.length = c.length + 4 := by
  unfold f_Tokens_init
  have hl0 : c.length = c.length + 0 := rfl
  refine wb (v := ()) (by decide) ?_
  obtain ⟨Wc1, hcc1, h0c1, tc1, kc1, xc1, sc1, lc1⟩ := raw_n (T := 38) (e := .inl (0, 202, .inl (fun _ => 0))) W hc h0 ⟨_, rfl, fun _ _ => trivial⟩
  refine wb (v := c ++ [(.inl (0, 202, .inl (fun _ => 0)) : va_E)]) rfl ?_
  have yc1 := Zx.tr Zx.rf xc1
  have x_sc1 := Zsm.tr Zsm.rf sc1
  have hl2 : (c ++ [(.inl (0, 202, .inl (fun _ => 0)) : va_E)]).length = c.length + 1 := by rw [lc1, hl0]
  generalize c ++ [(.inl (0, 202, .inl (fun _ => 0)) : va_E)] = c1 at Wc1 hcc1 kc1 sc1 x_sc1 hl2 ⊢
  generalize G ++ [38] = G1 at Wc1 h0c1 tc1 xc1 yc1 
  obtain ⟨c3, ec3, Wc3, hcc3, sc3, lc3⟩ := raw_p (v := .ref c.length) Wc1 h0c1 hcc1 (j := 0) (by simp)
  refine wb ec3 ?_
  simp only [List.set] at hcc3
  have x_sc3 := Zsm.tr x_sc1 sc3
  have hl3 : c3.length = c.length + 1 := lc3.trans hl2
  refine wb (v := ()) (by decide) ?_
  obtain ⟨Wc4, hcc4, h0c4, tc4, kc4, xc4, sc4, lc4⟩ := raw_n (T := 39) (e := .inl (0, 202, .inl (fun _ => 0))) Wc3 hcc3 h0c1 ⟨_, rfl, fun _ _ => rgi (by decide) (by decide)⟩
  refine wb (v := c3 ++ [(.inl (0, 202, .inl (fun _ => 0)) : va_E)]) rfl ?_
  have t5 := Zx.get xc4 h0c1 tc1 (by decide)
  have yc4 := Zx.tr yc1 xc4
  have x_sc4 := Zsm.tr x_sc3 sc4
  have hl6 : (c3 ++ [(.inl (0, 202, .inl (fun _ => 0)) : va_E)]).length = c.length + 2 := by rw [lc4, hl3]
  generalize c3 ++ [(.inl (0, 202, .inl (fun _ => 0)) : va_E)] = c4 at Wc4 hcc4 kc4 sc4 x_sc4 hl6 ⊢
  generalize G1 ++ [39] = G4 at Wc4 h0c4 tc4 xc4 yc4 t5
  obtain ⟨c6, ec6, Wc6, hcc6, sc6, lc6⟩ := raw_p (v := .ref c3.length) Wc4 h0c4 hcc4 (j := 1) (by simp)
  refine wb ec6 ?_
  simp only [List.set] at hcc6
  have x_sc6 := Zsm.tr x_sc4 sc6
  have hl7 : c6.length = c.length + 2 := lc6.trans hl6
  refine wb (v := ()) (by decide) ?_
  obtain ⟨Wc7, hcc7, h0c7, tc7, kc7, xc7, sc7, lc7⟩ := raw_n (T := 40) (e := .inl (0, 202, .inl (fun _ => 0))) Wc6 hcc6 h0c4 ⟨_, rfl, fun _ _ => trivial⟩
  refine wb (v := c6 ++ [(.inl (0, 202, .inl (fun _ => 0)) : va_E)]) rfl ?_
  have t9 := Zx.get xc7 h0c4 t5 (by decide)
  have t10 := Zx.get xc7 h0c4 tc4 (by decide)
  have yc7 := Zx.tr yc4 xc7
  have x_sc7 := Zsm.tr x_sc6 sc7
  have hl11 : (c6 ++ [(.inl (0, 202, .inl (fun _ => 0)) : va_E)]).length = c.length + 3 := by rw [lc7, hl7]
  generalize c6 ++ [(.inl (0, 202, .inl (fun _ => 0)) : va_E)] = c7 at Wc7 hcc7 kc7 sc7 x_sc7 hl11 ⊢
  generalize G4 ++ [40] = G8 at Wc7 h0c7 tc7 xc7 yc7 t9 t10
  obtain ⟨c9, ec9, Wc9, hcc9, sc9, lc9⟩ := raw_p (v := .ref c6.length) Wc7 h0c7 hcc7 (j := 2) (by simp)
  refine wb ec9 ?_
  simp only [List.set] at hcc9
  have x_sc9 := Zsm.tr x_sc7 sc9
  have hl12 : c9.length = c.length + 3 := lc9.trans hl11
  obtain ⟨c10, ec10, Wc10, hcc10, sc10, lc10⟩ := raw_p (v := .int 0) Wc9 h0c7 hcc9 (j := 3) (by simp)
  refine wb ec10 ?_
  simp only [List.set] at hcc10
  have x_sc10 := Zsm.tr x_sc9 sc10
  have hl13 : c10.length = c.length + 3 := lc10.trans hl12
  refine wb (v := ()) (by decide) ?_
  obtain ⟨Wc11, hcc11, h0c11, tc11, kc11, xc11, sc11, lc11⟩ := raw_n (T := 41) (e := .inl (1, 0, .inl (fun _ => 0))) Wc10 hcc10 h0c7 ⟨_, rfl, fun _ _ => trivial⟩
  refine wb (v := c10 ++ [(.inl (1, 0, .inl (fun _ => 0)) : va_E)]) rfl ?_
  have t15 := Zx.get xc11 h0c7 t9 (by decide)
  have t16 := Zx.get xc11 h0c7 t10 (by decide)
  have t17 := Zx.get xc11 h0c7 tc7 (by decide)
  have yc11 := Zx.tr yc7 xc11
  have x_sc11 := Zsm.tr x_sc10 sc11
  have hl18 : (c10 ++ [(.inl (1, 0, .inl (fun _ => 0)) : va_E)]).length = c.length + 4 := by rw [lc11, hl13]
  generalize c10 ++ [(.inl (1, 0, .inl (fun _ => 0)) : va_E)] = c11 at Wc11 hcc11 kc11 sc11 x_sc11 hl18 ⊢
  generalize G8 ++ [41] = G14 at Wc11 h0c11 tc11 xc11 yc11 t15 t16 t17
  obtain ⟨c13, ec13, Wc13, hcc13, sc13, lc13⟩ := raw_p (v := .ref c10.length) Wc11 h0c11 hcc11 (j := 4) (by simp)
  refine wb ec13 ?_
  simp only [List.set] at hcc13
  have x_sc13 := Zsm.tr x_sc11 sc13
  have hl19 : c13.length = c.length + 4 := lc13.trans hl18
  obtain ⟨c14, ec14, Wc14, hcc14, sc14, lc14⟩ := raw_p (v := .int 0) Wc13 h0c11 hcc13 (j := 5) (by simp)
  refine wb ec14 ?_
  simp only [List.set] at hcc14
  have x_sc14 := Zsm.tr x_sc13 sc14
  have hl20 : c14.length = c.length + 4 := lc14.trans hl19
  refine wb (v := ()) (by decide) ?_
  obtain ⟨Wz, tz, xz⟩ := wt_seal (T := 4) Wc14 h0c11 hcc14 rfl (Zvs.cons (Zcv.mr (T := 38) (set_get h0c11 t15 (by decide)) (by decide)) (Zvs.cons (Zcv.mr (T := 39) (set_get h0c11 t16 (by decide)) (by decide)) (Zvs.cons (Zcv.mr (T := 40) (set_get h0c11 t17 (by decide)) (by decide)) (Zvs.cons (Zcv.mi (rgi (by decide) (by decide))) (Zvs.cons (Zcv.mr (T := 41) (set_get h0c11 tc11 (by decide)) (by decide)) (Zvs.cons (Zcv.mi (rgi (by decide) (by decide))) Zvs.nil))))))
  exact ⟨_, rfl, _, Wz, Zx.tr yc11 xz, tz, x_sc14, hl20⟩

set_option maxRecDepth 100000 in
set_option maxHeartbeats 1000000 in
theorem k_Operators_init {nf : Nat} (hn : 8589934592 ≤ nf) {G : List Nat} {c : Zc} (W : Zwt zty G c) {a0 a1 : Nat} (h0 : G[a0]? = some 0) (hc : c[a0]? = some (.inr (4, [.int 0, .int 0, .int 0, .null, .int 0, .null, .null, .null]))) (t_a1 : G[a1]? = some 3) : ∃ q, f_Operators_init nf 3 240 a0 a1 c = some q ∧ ∃ G', Zwt zty G' q ∧ Zx G G' a0 ∧ G'[a0]? = some 5 ∧ Zsm c q a0 ∧ q.length = c.length + 3 := by
  unfold f_Operators_init
  have hl0 : c.length = c.length + 0 := rfl
  obtain ⟨c1, ec1, Wc1, hcc1, sc1, lc1⟩ := raw_p (v := .int 0) W h0 hc (j := 0) (by simp)
  refine wb ec1 ?_
  simp only [List.set] at hcc1
  have x_sc1 := Zsm.tr Zsm.rf sc1
  have hl1 : c1.length = c.length + 0 := lc1.trans hl0
  obtain ⟨c2, ec2, Wc2, hcc2, sc2, lc2⟩ := raw_p (v := .int 0) Wc1 h0 hcc1 (j := 1) (by simp)
  refine wb ec2 ?_
  simp only [List.set] at hcc2
  have x_sc2 := Zsm.tr x_sc1 sc2
  have hl2 : c2.length = c.length + 0 := lc2.trans hl1
  obtain ⟨c3, ec3, Wc3, hcc3, sc3, lc3⟩ := raw_p (v := .int 0) Wc2 h0 hcc2 (j := 2) (by simp)
  refine wb ec3 ?_
  simp only [List.set] at hcc3
  have x_sc3 := Zsm.tr x_sc2 sc3
  have hl3 : c3.length = c.length + 0 := lc3.trans hl2
  obtain ⟨c4, ec4, Wc4, hcc4, sc4, lc4⟩ := raw_p (v := .int 0) Wc3 h0 hcc3 (j := 4) (by simp)
  refine wb ec4 ?_
  simp only [List.set] at hcc4
  have x_sc4 := Zsm.tr x_sc3 sc4
  have hl4 : c4.length = c.length + 0 := lc4.trans hl3
  refine wb (v := ()) (by decide) ?_
  obtain ⟨Wc5, hcc5, h0c5, tc5, kc5, xc5, sc5, lc5⟩ := raw_n (T := 43) (e := .inl (0, 80, .inl (fun _ => 0))) Wc4 hcc4 h0 ⟨_, rfl, fun _ _ => trivial⟩
  refine wb (v := c4 ++ [(.inl (0, 80, .inl (fun _ => 0)) : va_E)]) rfl ?_
  have t6 := Zx.get xc5 h0 t_a1 (by decide)
  have yc5 := Zx.tr Zx.rf xc5
  have x_sc5 := Zsm.tr x_sc4 sc5
  have hl7 : (c4 ++ [(.inl (0, 80, .inl (fun _ => 0)) : va_E)]).length = c.length + 1 := by rw [lc5, hl4]
  generalize c4 ++ [(.inl (0, 80, .inl (fun _ => 0)) : va_E)] = c5 at Wc5 hcc5 kc5 sc5 x_sc5 hl7 ⊢
  generalize G ++ [43] = G5 at Wc5 h0c5 tc5 xc5 yc5 t6
  obtain ⟨c7, ec7, Wc7, hcc7, sc7, lc7⟩ := raw_p (v := .ref c4.length) Wc5 h0c5 hcc5 (j := 5) (by simp)
  refine wb ec7 ?_
  simp only [List.set] at hcc7
  have x_sc7 := Zsm.tr x_sc5 sc7
  have hl8 : c7.length = c.length + 1 := lc7.trans hl7
  refine wb (v := ()) (by decide) ?_
  obtain ⟨Wc8, hcc8, h0c8, tc8, kc8, xc8, sc8, lc8⟩ := raw_n (T := 44) (e := .inl (0, 80, .inl (fun _ => 0))) Wc7 hcc7 h0c5 ⟨_, rfl, fun _ _ => okOi (by decide)⟩
  refine wb (v := c7 ++ [(.inl (0, 80, .inl (fun _ => 0)) : va_E)]) rfl ?_
  have t10 := Zx.get xc8 h0c5 t6 (by decide)
  have t11 := Zx.get xc8 h0c5 tc5 (by decide)
  have yc8 := Zx.tr yc5 xc8
  have x_sc8 := Zsm.tr x_sc7 sc8
  have hl12 : (c7 ++ [(.inl (0, 80, .inl (fun _ => 0)) : va_E)]).length = c.length + 2 := by rw [lc8, hl8]
  generalize c7 ++ [(.inl (0, 80, .inl (fun _ => 0)) : va_E)] = c8 at Wc8 hcc8 kc8 sc8 x_sc8 hl12 ⊢
  generalize G5 ++ [44] = G9 at Wc8 h0c8 tc8 xc8 yc8 t10 t11
  obtain ⟨c10, ec10, Wc10, hcc10, sc10, lc10⟩ := raw_p (v := .ref c7.length) Wc8 h0c8 hcc8 (j := 6) (by simp)
  refine wb ec10 ?_
  simp only [List.set] at hcc10
  have x_sc10 := Zsm.tr x_sc8 sc10
  have hl13 : c10.length = c.length + 2 := lc10.trans hl12
  refine wb (v := ()) (by decide) ?_
  obtain ⟨Wc11, hcc11, h0c11, tc11, kc11, xc11, sc11, lc11⟩ := raw_n (T := 45) (e := .inl (0, 80, .inl (fun _ => 0))) Wc10 hcc10 h0c8 ⟨_, rfl, fun _ _ => trivial⟩
  refine wb (v := c10 ++ [(.inl (0, 80, .inl (fun _ => 0)) : va_E)]) rfl ?_
  have t15 := Zx.get xc11 h0c8 t10 (by decide)
  have t16 := Zx.get xc11 h0c8 t11 (by decide)
  have t17 := Zx.get xc11 h0c8 tc8 (by decide)
  have yc11 := Zx.tr yc8 xc11
  have x_sc11 := Zsm.tr x_sc10 sc11
  have hl18 : (c10 ++ [(.inl (0, 80, .inl (fun _ => 0)) : va_E)]).length = c.length + 3 := by rw [lc11, hl13]
  generalize c10 ++ [(.inl (0, 80, .inl (fun _ => 0)) : va_E)] = c11 at Wc11 hcc11 kc11 sc11 x_sc11 hl18 ⊢
  generalize G9 ++ [45] = G14 at Wc11 h0c11 tc11 xc11 yc11 t15 t16 t17
  obtain ⟨c13, ec13, Wc13, hcc13, sc13, lc13⟩ := raw_p (v := .ref c10.length) Wc11 h0c11 hcc11 (j := 7) (by simp)
  refine wb ec13 ?_
  simp only [List.set] at hcc13
  have x_sc13 := Zsm.tr x_sc11 sc13
  have hl19 : c13.length = c.length + 3 := lc13.trans hl18
  obtain ⟨c14, ec14, Wc14, hcc14, sc14, lc14⟩ := raw_p (v := .ref a1) Wc13 h0c11 hcc13 (j := 3) (by simp)
  refine wb ec14 ?_
  simp only [List.set] at hcc14
  have x_sc14 := Zsm.tr x_sc13 sc14
  have hl20 : c14.length = c.length + 3 := lc14.trans hl19
  refine wb (v := ()) (by decide) ?_
  obtain ⟨Wz, tz, xz⟩ := wt_seal (T := 5) Wc14 h0c11 hcc14 rfl (Zvs.cons (Zcv.mi trivial) (Zvs.cons (Zcv.mi trivial) (Zvs.cons (Zcv.mi trivial) (Zvs.cons (Zcv.mr (T := 3) (set_get h0c11 t15 (by decide)) (by decide)) (Zvs.cons (Zcv.mi (rgi (by decide) (by decide))) (Zvs.cons (Zcv.mr (T := 43) (set_get h0c11 t16 (by decide)) (by decide)) (Zvs.cons (Zcv.mr (T := 44) (set_get h0c11 t17 (by decide)) (by decide)) (Zvs.cons (Zcv.mr (T := 45) (set_get h0c11 tc11 (by decide)) (by decide)) Zvs.nil))))))))
  exact ⟨_, rfl, _, Wz, Zx.tr yc11 xz, tz, x_sc14, hl20⟩

set_option maxRecDepth 100000 in
set_option maxHeartbeats 1000000 in
theorem k_Search_init {nf : Nat} (hn : 8589934592 ≤ nf) {G : List Nat} {c : Zc} (W : Zwt zty G c) {a0 a1 a2 a3 : Nat} (h0 : G[a0]? = some 0) (hc : c[a0]? = some (.inr (6, [.null, .null, .null, .null, .null, .null, .int 0, .int 0, .int 0, .int 0, .int 0, .int 0]))) (t_a1 : G[a1]? = some 1) (t_a2 : G[a2]? = some 3) (t_a3 : G[a3]? = some 47) : ∃ q, f_Search_init nf 3 24 a0 a1 a2 a3 c = some q ∧ ∃ G', Zwt zty G' q ∧ Zx G G' a0 ∧ G'[a0]? = some 7 ∧ Zsm c q a0 ∧ q.length = c.length + 3 := by
  unfold f_Search_init
  have hl0 : c.length = c.length + 0 := rfl
  refine wb (v := ()) (by decide) ?_
  obtain ⟨Wc1, hcc1, h0c1, tc1, kc1, xc1, sc1, lc1⟩ := raw_n (T := 48) (e := .inl (0, 8, .inl (fun _ => 0))) W hc h0 ⟨_, rfl, fun _ _ => rgi (by decide) (by decide)⟩
  refine wb (v := c ++ [(.inl (0, 8, .inl (fun _ => 0)) : va_E)]) rfl ?_
  have t2 := Zx.get xc1 h0 t_a1 (by decide)
  have t3 := Zx.get xc1 h0 t_a2 (by decide)
  have t4 := Zx.get xc1 h0 t_a3 (by decide)
  have yc1 := Zx.tr Zx.rf xc1
  have x_sc1 := Zsm.tr Zsm.rf sc1
  have hl5 : (c ++ [(.inl (0, 8, .inl (fun _ => 0)) : va_E)]).length = c.length + 1 := by rw [lc1, hl0]
  generalize c ++ [(.inl (0, 8, .inl (fun _ => 0)) : va_E)] = c1 at Wc1 hcc1 kc1 sc1 x_sc1 hl5 ⊢
  generalize G ++ [48] = G1 at Wc1 h0c1 tc1 xc1 yc1 t2 t3 t4
  obtain ⟨c3, ec3, Wc3, hcc3, sc3, lc3⟩ := raw_p (v := .ref c.length) Wc1 h0c1 hcc1 (j := 2) (by simp)
  refine wb ec3 ?_
  simp only [List.set] at hcc3
  have x_sc3 := Zsm.tr x_sc1 sc3
  have hl6 : c3.length = c.length + 1 := lc3.trans hl5
  refine wb (v := ()) (by decide) ?_
  obtain ⟨Wc4, hcc4, h0c4, tc4, kc4, xc4, sc4, lc4⟩ := raw_n (T := 49) (e := .inl (0, 8, .inl (fun _ => 0))) Wc3 hcc3 h0c1 ⟨_, rfl, fun _ _ => trivial⟩
  refine wb (v := c3 ++ [(.inl (0, 8, .inl (fun _ => 0)) : va_E)]) rfl ?_
  have t8 := Zx.get xc4 h0c1 t2 (by decide)
  have t9 := Zx.get xc4 h0c1 t3 (by decide)
  have t10 := Zx.get xc4 h0c1 t4 (by decide)
  have t11 := Zx.get xc4 h0c1 tc1 (by decide)
  have yc4 := Zx.tr yc1 xc4
  have x_sc4 := Zsm.tr x_sc3 sc4
  have hl12 : (c3 ++ [(.inl (0, 8, .inl (fun _ => 0)) : va_E)]).length = c.length + 2 := by rw [lc4, hl6]
  generalize c3 ++ [(.inl (0, 8, .inl (fun _ => 0)) : va_E)] = c4 at Wc4 hcc4 kc4 sc4 x_sc4 hl12 ⊢
  generalize G1 ++ [49] = G7 at Wc4 h0c4 tc4 xc4 yc4 t8 t9 t10 t11
  obtain ⟨c6, ec6, Wc6, hcc6, sc6, lc6⟩ := raw_p (v := .ref c3.length) Wc4 h0c4 hcc4 (j := 3) (by simp)
  refine wb ec6 ?_
  simp only [List.set] at hcc6
  have x_sc6 := Zsm.tr x_sc4 sc6
  have hl13 : c6.length = c.length + 2 := lc6.trans hl12
  refine wb (v := ()) (by decide) ?_
  obtain ⟨Wc7, hcc7, h0c7, tc7, kc7, xc7, sc7, lc7⟩ := raw_n (T := 50) (e := .inl (0, 8, .inl (fun _ => 0))) Wc6 hcc6 h0c4 ⟨_, rfl, fun _ _ => rgi (by decide) (by decide)⟩
  refine wb (v := c6 ++ [(.inl (0, 8, .inl (fun _ => 0)) : va_E)]) rfl ?_
  have t15 := Zx.get xc7 h0c4 t8 (by decide)
  have t16 := Zx.get xc7 h0c4 t9 (by decide)
  have t17 := Zx.get xc7 h0c4 t10 (by decide)
  have t18 := Zx.get xc7 h0c4 t11 (by decide)
  have t19 := Zx.get xc7 h0c4 tc4 (by decide)
  have yc7 := Zx.tr yc4 xc7
  have x_sc7 := Zsm.tr x_sc6 sc7
  have hl20 : (c6 ++ [(.inl (0, 8, .inl (fun _ => 0)) : va_E)]).length = c.length + 3 := by rw [lc7, hl13]
  generalize c6 ++ [(.inl (0, 8, .inl (fun _ => 0)) : va_E)] = c7 at Wc7 hcc7 kc7 sc7 x_sc7 hl20 ⊢
  generalize G7 ++ [50] = G14 at Wc7 h0c7 tc7 xc7 yc7 t15 t16 t17 t18 t19
  obtain ⟨c9, ec9, Wc9, hcc9, sc9, lc9⟩ := raw_p (v := .ref c6.length) Wc7 h0c7 hcc7 (j := 4) (by simp)
  refine wb ec9 ?_
  simp only [List.set] at hcc9
  have x_sc9 := Zsm.tr x_sc7 sc9
  have hl21 : c9.length = c.length + 3 := lc9.trans hl20
  obtain ⟨c10, ec10, Wc10, hcc10, sc10, lc10⟩ := raw_p (v := .int 0) Wc9 h0c7 hcc9 (j := 6) (by simp)
  refine wb ec10 ?_
  simp only [List.set] at hcc10
  have x_sc10 := Zsm.tr x_sc9 sc10
  have hl22 : c10.length = c.length + 3 := lc10.trans hl21
  obtain ⟨c11, ec11, Wc11, hcc11, sc11, lc11⟩ := raw_p (v := .int 0) Wc10 h0c7 hcc10 (j := 7) (by simp)
  refine wb ec11 ?_
  simp only [List.set] at hcc11
  have x_sc11 := Zsm.tr x_sc10 sc11
  have hl23 : c11.length = c.length + 3 := lc11.trans hl22
  obtain ⟨c12, ec12, Wc12, hcc12, sc12, lc12⟩ := raw_p (v := .int 0) Wc11 h0c7 hcc11 (j := 8) (by simp)
  refine wb ec12 ?_
  simp only [List.set] at hcc12
  have x_sc12 := Zsm.tr x_sc11 sc12
  have hl24 : c12.length = c.length + 3 := lc12.trans hl23
  obtain ⟨c13, ec13, Wc13, hcc13, sc13, lc13⟩ := raw_p (v := .int 0) Wc12 h0c7 hcc12 (j := 9) (by simp)
  refine wb ec13 ?_
  simp only [List.set] at hcc13
  have x_sc13 := Zsm.tr x_sc12 sc13
  have hl25 : c13.length = c.length + 3 := lc13.trans hl24
  obtain ⟨c14, ec14, Wc14, hcc14, sc14, lc14⟩ := raw_p (v := .int 0) Wc13 h0c7 hcc13 (j := 10) (by simp)
  refine wb ec14 ?_
  simp only [List.set] at hcc14
  have x_sc14 := Zsm.tr x_sc13 sc14
  have hl26 : c14.length = c.length + 3 := lc14.trans hl25
  obtain ⟨c15, ec15, Wc15, hcc15, sc15, lc15⟩ := raw_p (v := .int (-1)) Wc14 h0c7 hcc14 (j := 11) (by simp)
  refine wb ec15 ?_
  simp only [List.set] at hcc15
  have x_sc15 := Zsm.tr x_sc14 sc15
  have hl27 : c15.length = c.length + 3 := lc15.trans hl26
  obtain ⟨c16, ec16, Wc16, hcc16, sc16, lc16⟩ := raw_p (v := .ref a1) Wc15 h0c7 hcc15 (j := 0) (by simp)
  refine wb ec16 ?_
  simp only [List.set] at hcc16
  have x_sc16 := Zsm.tr x_sc15 sc16
  have hl28 : c16.length = c.length + 3 := lc16.trans hl27
  obtain ⟨c17, ec17, Wc17, hcc17, sc17, lc17⟩ := raw_p (v := .ref a2) Wc16 h0c7 hcc16 (j := 5) (by simp)
  refine wb ec17 ?_
  simp only [List.set] at hcc17
  have x_sc17 := Zsm.tr x_sc16 sc17
  have hl29 : c17.length = c.length + 3 := lc17.trans hl28
  obtain ⟨c18, ec18, Wc18, hcc18, sc18, lc18⟩ := raw_p (v := .ref a3) Wc17 h0c7 hcc17 (j := 1) (by simp)
  refine wb ec18 ?_
  simp only [List.set] at hcc18
  have x_sc18 := Zsm.tr x_sc17 sc18
  have hl30 : c18.length = c.length + 3 := lc18.trans hl29
  refine wb (v := ()) (by decide) ?_
  obtain ⟨Wz, tz, xz⟩ := wt_seal (T := 7) Wc18 h0c7 hcc18 rfl (Zvs.cons (Zcv.mr (T := 1) (set_get h0c7 t15 (by decide)) (by decide)) (Zvs.cons (Zcv.mr (T := 47) (set_get h0c7 t17 (by decide)) (by decide)) (Zvs.cons (Zcv.mr (T := 48) (set_get h0c7 t18 (by decide)) (by decide)) (Zvs.cons (Zcv.mr (T := 49) (set_get h0c7 t19 (by decide)) (by decide)) (Zvs.cons (Zcv.mr (T := 50) (set_get h0c7 tc7 (by decide)) (by decide)) (Zvs.cons (Zcv.mr (T := 3) (set_get h0c7 t16 (by decide)) (by decide)) (Zvs.cons (Zcv.mi (rgi (by decide) (by decide))) (Zvs.cons (Zcv.mi (rgi (by decide) (by decide))) (Zvs.cons (Zcv.mi (rgi (by decide) (by decide))) (Zvs.cons (Zcv.mi (rgi (by decide) (by decide))) (Zvs.cons (Zcv.mi (rgi (by decide) (by decide))) (Zvs.cons (Zcv.mi (rgi (by decide) (by decide))) Zvs.nil))))))))))))
  exact ⟨_, rfl, _, Wz, Zx.tr yc7 xz, tz, x_sc18, hl30⟩

set_option maxRecDepth 100000 in
set_option maxHeartbeats 1000000 in
theorem k_Finder_init {nf : Nat} (hn : 8589934592 ≤ nf) {G : List Nat} {c : Zc} (W : Zwt zty G c) {a0 a1 a2 : Nat} (h0 : G[a0]? = some 0) (hc : c[a0]? = some (.inr (7, [.null, .null, .null, .null, .null, .null, .null, .null, .null]))) (t_a1 : G[a1]? = some 1) (t_a2 : G[a2]? = some 3) : ∃ q, f_Finder_init nf 13 208 a0 a1 a2 c = some q ∧ ∃ G', Zwt zty G' q ∧ Zx G G' a0 ∧ G'[a0]? = some 8 ∧ Zsm c q a0 ∧ q.length = c.length + 13 := by
  unfold f_Finder_init
  have hl0 : c.length = c.length + 0 := rfl
  refine wb (v := ()) (by decide) ?_
  obtain ⟨Wc1, hcc1, h0c1, tc1, kc1, xc1, sc1, lc1⟩ := raw_n (T := 47) (e := .inl (0, 8, .inl (fun _ => 0))) W hc h0 ⟨_, rfl, fun _ _ => rgi (by decide) (by decide)⟩
  refine wb (v := c ++ [(.inl (0, 8, .inl (fun _ => 0)) : va_E)]) rfl ?_
  have t2 := Zx.get xc1 h0 t_a1 (by decide)
  have t3 := Zx.get xc1 h0 t_a2 (by decide)
  have yc1 := Zx.tr Zx.rf xc1
  have x_sc1 := Zsm.tr Zsm.rf sc1
  have hl4 : (c ++ [(.inl (0, 8, .inl (fun _ => 0)) : va_E)]).length = c.length + 1 := by rw [lc1, hl0]
  generalize c ++ [(.inl (0, 8, .inl (fun _ => 0)) : va_E)] = c1 at Wc1 hcc1 kc1 sc1 x_sc1 hl4 ⊢
  generalize G ++ [47] = G1 at Wc1 h0c1 tc1 xc1 yc1 t2 t3
  obtain ⟨c3, ec3, Wc3, hcc3, sc3, lc3⟩ := raw_p (v := .ref c.length) Wc1 h0c1 hcc1 (j := 0) (by simp)
  refine wb ec3 ?_
  simp only [List.set] at hcc3
  have x_sc3 := Zsm.tr x_sc1 sc3
  have hl5 : c3.length = c.length + 1 := lc3.trans hl4
  refine wb (v := ()) (by decide) ?_
  obtain ⟨Wc4, hcc4, h0c4, tc4, kc4, xc4, sc4, lc4⟩ := raw_n (T := 51) (e := .inl (0, 80, .inl (fun _ => 0))) Wc3 hcc3 h0c1 ⟨_, rfl, fun _ _ => trivial⟩
  refine wb (v := c3 ++ [(.inl (0, 80, .inl (fun _ => 0)) : va_E)]) rfl ?_
  have t7 := Zx.get xc4 h0c1 t2 (by decide)
  have t8 := Zx.get xc4 h0c1 t3 (by decide)
  have t9 := Zx.get xc4 h0c1 tc1 (by decide)
  have yc4 := Zx.tr yc1 xc4
  have x_sc4 := Zsm.tr x_sc3 sc4
  have hl10 : (c3 ++ [(.inl (0, 80, .inl (fun _ => 0)) : va_E)]).length = c.length + 2 := by rw [lc4, hl5]
  generalize c3 ++ [(.inl (0, 80, .inl (fun _ => 0)) : va_E)] = c4 at Wc4 hcc4 kc4 sc4 x_sc4 hl10 ⊢
  generalize G1 ++ [51] = G6 at Wc4 h0c4 tc4 xc4 yc4 t7 t8 t9
  obtain ⟨c6, ec6, Wc6, hcc6, sc6, lc6⟩ := raw_p (v := .ref c3.length) Wc4 h0c4 hcc4 (j := 4) (by simp)
  refine wb ec6 ?_
  simp only [List.set] at hcc6
  have x_sc6 := Zsm.tr x_sc4 sc6
  have hl11 : c6.length = c.length + 2 := lc6.trans hl10
  refine wb (v := ()) (by decide) ?_
  obtain ⟨Wc7, hcc7, h0c7, tc7, kc7, xc7, sc7, lc7⟩ := raw_n (T := 52) (e := .inl (0, 16, .inl (fun _ => 0))) Wc6 hcc6 h0c4 ⟨_, rfl, fun _ _ => trivial⟩
  refine wb (v := c6 ++ [(.inl (0, 16, .inl (fun _ => 0)) : va_E)]) rfl ?_
  have t13 := Zx.get xc7 h0c4 t7 (by decide)
  have t14 := Zx.get xc7 h0c4 t8 (by decide)
  have t15 := Zx.get xc7 h0c4 t9 (by decide)
  have t16 := Zx.get xc7 h0c4 tc4 (by decide)
  have yc7 := Zx.tr yc4 xc7
  have x_sc7 := Zsm.tr x_sc6 sc7
  have hl17 : (c6 ++ [(.inl (0, 16, .inl (fun _ => 0)) : va_E)]).length = c.length + 3 := by rw [lc7, hl11]
  generalize c6 ++ [(.inl (0, 16, .inl (fun _ => 0)) : va_E)] = c7 at Wc7 hcc7 kc7 sc7 x_sc7 hl17 ⊢
  generalize G6 ++ [52] = G12 at Wc7 h0c7 tc7 xc7 yc7 t13 t14 t15 t16
  obtain ⟨c9, ec9, Wc9, hcc9, sc9, lc9⟩ := raw_p (v := .ref c6.length) Wc7 h0c7 hcc7 (j := 5) (by simp)
  refine wb ec9 ?_
  simp only [List.set] at hcc9
  have x_sc9 := Zsm.tr x_sc7 sc9
  have hl18 : c9.length = c.length + 3 := lc9.trans hl17
  refine wb (v := ()) (by decide) ?_
  obtain ⟨Wc10, hcc10, h0c10, tc10, kc10, xc10, sc10, lc10⟩ := raw_n (T := 53) (e := .inl (0, 16, .inl (fun _ => 0))) Wc9 hcc9 h0c7 ⟨_, rfl, fun _ _ => trivial⟩
  refine wb (v := c9 ++ [(.inl (0, 16, .inl (fun _ => 0)) : va_E)]) rfl ?_
  have t20 := Zx.get xc10 h0c7 t13 (by decide)
  have t21 := Zx.get xc10 h0c7 t14 (by decide)
  have t22 := Zx.get xc10 h0c7 t15 (by decide)
  have t23 := Zx.get xc10 h0c7 t16 (by decide)
  have t24 := Zx.get xc10 h0c7 tc7 (by decide)
  have yc10 := Zx.tr yc7 xc10
  have x_sc10 := Zsm.tr x_sc9 sc10
  have hl25 : (c9 ++ [(.inl (0, 16, .inl (fun _ => 0)) : va_E)]).length = c.length + 4 := by rw [lc10, hl18]
  generalize c9 ++ [(.inl (0, 16, .inl (fun _ => 0)) : va_E)] = c10 at Wc10 hcc10 kc10 sc10 x_sc10 hl25 ⊢
  generalize G12 ++ [53] = G19 at Wc10 h0c10 tc10 xc10 yc10 t20 t21 t22 t23 t24
  obtain ⟨c12, ec12, Wc12, hcc12, sc12, lc12⟩ := raw_p (v := .ref c9.length) Wc10 h0c10 hcc10 (j := 6) (by simp)
  refine wb ec12 ?_
  simp only [List.set] at hcc12
  have x_sc12 := Zsm.tr x_sc10 sc12
  have hl26 : c12.length = c.length + 4 := lc12.trans hl25
  refine wb (v := ()) (by decide) ?_
  obtain ⟨Wc13, hcc13, h0c13, tc13, kc13, xc13, sc13, lc13⟩ := raw_n (T := 54) (e := .inl (0, 16, .inl (fun _ => 0))) Wc12 hcc12 h0c10 ⟨_, rfl, fun _ _ => trivial⟩
  refine wb (v := c12 ++ [(.inl (0, 16, .inl (fun _ => 0)) : va_E)]) rfl ?_
  have t28 := Zx.get xc13 h0c10 t20 (by decide)
  have t29 := Zx.get xc13 h0c10 t21 (by decide)
  have t30 := Zx.get xc13 h0c10 t22 (by decide)
  have t31 := Zx.get xc13 h0c10 t23 (by decide)
  have t32 := Zx.get xc13 h0c10 t24 (by decide)
  have t33 := Zx.get xc13 h0c10 tc10 (by decide)
  have yc13 := Zx.tr yc10 xc13
  have x_sc13 := Zsm.tr x_sc12 sc13
  have hl34 : (c12 ++ [(.inl (0, 16, .inl (fun _ => 0)) : va_E)]).length = c.length + 5 := by rw [lc13, hl26]
  generalize c12 ++ [(.inl (0, 16, .inl (fun _ => 0)) : va_E)] = c13 at Wc13 hcc13 kc13 sc13 x_sc13 hl34 ⊢
  generalize G19 ++ [54] = G27 at Wc13 h0c13 tc13 xc13 yc13 t28 t29 t30 t31 t32 t33
  obtain ⟨c15, ec15, Wc15, hcc15, sc15, lc15⟩ := raw_p (v := .ref c12.length) Wc13 h0c13 hcc13 (j := 7) (by simp)
  refine wb ec15 ?_
  simp only [List.set] at hcc15
  have x_sc15 := Zsm.tr x_sc13 sc15
  have hl35 : c15.length = c.length + 5 := lc15.trans hl34
  obtain ⟨c16, ec16, Wc16, hcc16, sc16, lc16⟩ := raw_p (v := .ref a1) Wc15 h0c13 hcc15 (j := 1) (by simp)
  refine wb ec16 ?_
  simp only [List.set] at hcc16
  have x_sc16 := Zsm.tr x_sc15 sc16
  have hl36 : c16.length = c.length + 5 := lc16.trans hl35
  obtain ⟨c17, ec17, Wc17, hcc17, sc17, lc17⟩ := raw_p (v := .ref a2) Wc16 h0c13 hcc16 (j := 8) (by simp)
  refine wb ec17 ?_
  simp only [List.set] at hcc17
  have x_sc17 := Zsm.tr x_sc16 sc17
  have hl37 : c17.length = c.length + 5 := lc17.trans hl36
  refine wb (v := ()) (by decide) ?_
  obtain ⟨Wc18, hcc18, h0c18, tc18, kc18, xc18, sc18, lc18⟩ := raw_n (T := 0) (e := .inr (6, [.null, .null, .null, .null, .null, .null, .int 0, .int 0, .int 0, .int 0, .int 0, .int 0])) Wc17 hcc17 h0c13 (True.intro : True)
  refine wb (v := c17 ++ [(.inr (6, [.null, .null, .null, .null, .null, .null, .int 0, .int 0, .int 0, .int 0, .int 0, .int 0]) : va_E)]) rfl ?_
  have t39 := Zx.get xc18 h0c13 t28 (by decide)
  have t40 := Zx.get xc18 h0c13 t29 (by decide)
  have t41 := Zx.get xc18 h0c13 t30 (by decide)
  have t42 := Zx.get xc18 h0c13 t31 (by decide)
  have t43 := Zx.get xc18 h0c13 t32 (by decide)
  have t44 := Zx.get xc18 h0c13 t33 (by decide)
  have t45 := Zx.get xc18 h0c13 tc13 (by decide)
  have yc18 := Zx.tr yc13 xc18
  have x_sc18 := Zsm.tr x_sc17 sc18
  have hl46 : (c17 ++ [(.inr (6, [.null, .null, .null, .null, .null, .null, .int 0, .int 0, .int 0, .int 0, .int 0, .int 0]) : va_E)]).length = c.length + 6 := by rw [lc18, hl37]
  generalize c17 ++ [(.inr (6, [.null, .null, .null, .null, .null, .null, .int 0, .int 0, .int 0, .int 0, .int 0, .int 0]) : va_E)] = c18 at Wc18 hcc18 kc18 sc18 x_sc18 hl46 ⊢
  generalize G27 ++ [0] = G38 at Wc18 h0c18 tc18 xc18 yc18 t39 t40 t41 t42 t43 t44 t45
  refine wb (raw_g (k := c.length) hcc18 (j := 0) rfl) ?_
  refine wb (v := ()) (by decide) ?_
  obtain ⟨q21, eq21, G47, Wq21, xq21, tq21, sq21, lq21⟩ := k_Search_init hn Wc18 tc18 kc18 t39 t40 t41
  refine wb eq21 ?_
  have neq21 : a0 ≠ c17.length := Nat.ne_of_lt (List.getElem?_eq_some_iff.mp hcc17).1
  have hcq21 := (sq21.2 a0 (List.getElem?_eq_some_iff.mp hcc18).1 neq21).trans hcc18
  have h0q21 := xq21 a0 0 h0c18 neq21
  have geq21 : c.length ≤ c17.length := by omega
  have t48 := Zx.get xq21 tc18 t39 (by decide)
  have t49 := Zx.get xq21 tc18 t40 (by decide)
  have t50 := Zx.get xq21 tc18 t41 (by decide)
  have t51 := Zx.get xq21 tc18 t42 (by decide)
  have t52 := Zx.get xq21 tc18 t43 (by decide)
  have t53 := Zx.get xq21 tc18 t44 (by decide)
  have t54 := Zx.get xq21 tc18 t45 (by decide)
  have yq21 := Zx.inn yc18 xq21 (by rw [W.1]; exact geq21)
  have x_sq21 := Zsm.inn x_sc18 sq21 geq21
  have hl55 : q21.length = c.length + 9 := by rw [lq21, hl46]
  obtain ⟨c23, ec23, Wc23, hcc23, sc23, lc23⟩ := raw_p (v := .ref c17.length) Wq21 h0q21 hcq21 (j := 2) (by simp)
  refine wb ec23 ?_
  simp only [List.set] at hcc23
  have x_sc23 := Zsm.tr x_sq21 sc23
  have hl56 : c23.length = c.length + 9 := lc23.trans hl55
  refine wb (v := ()) (by decide) ?_
  obtain ⟨Wc24, hcc24, h0c24, tc24, kc24, xc24, sc24, lc24⟩ := raw_n (T := 0) (e := .inr (6, [.null, .null, .null, .null, .null, .null, .int 0, .int 0, .int 0, .int 0, .int 0, .int 0])) Wc23 hcc23 h0q21 (True.intro : True)
  refine wb (v := c23 ++ [(.inr (6, [.null, .null, .null, .null, .null, .null, .int 0, .int 0, .int 0, .int 0, .int 0, .int 0]) : va_E)]) rfl ?_
  have t58 := Zx.get xc24 h0q21 t48 (by decide)
  have t59 := Zx.get xc24 h0q21 t49 (by decide)
  have t60 := Zx.get xc24 h0q21 t50 (by decide)
  have t61 := Zx.get xc24 h0q21 t51 (by decide)
  have t62 := Zx.get xc24 h0q21 t52 (by decide)
  have t63 := Zx.get xc24 h0q21 t53 (by decide)
  have t64 := Zx.get xc24 h0q21 t54 (by decide)
  have t65 := Zx.get xc24 h0q21 tq21 (by decide)
  have yc24 := Zx.tr yq21 xc24
  have x_sc24 := Zsm.tr x_sc23 sc24
  have hl66 : (c23 ++ [(.inr (6, [.null, .null, .null, .null, .null, .null, .int 0, .int 0, .int 0, .int 0, .int 0, .int 0]) : va_E)]).length = c.length + 10 := by rw [lc24, hl56]
  generalize c23 ++ [(.inr (6, [.null, .null, .null, .null, .null, .null, .int 0, .int 0, .int 0, .int 0, .int 0, .int 0]) : va_E)] = c24 at Wc24 hcc24 kc24 sc24 x_sc24 hl66 ⊢
  generalize G47 ++ [0] = G57 at Wc24 h0c24 tc24 xc24 yc24 t58 t59 t60 t61 t62 t63 t64 t65
  refine wb (raw_g (k := c.length) hcc24 (j := 0) rfl) ?_
  refine wb (v := ()) (by decide) ?_
  obtain ⟨q27, eq27, G67, Wq27, xq27, tq27, sq27, lq27⟩ := k_Search_init hn Wc24 tc24 kc24 t58 t59 t60
  refine wb eq27 ?_
  have neq27 : a0 ≠ c23.length := Nat.ne_of_lt (List.getElem?_eq_some_iff.mp hcc23).1
  have hcq27 := (sq27.2 a0 (List.getElem?_eq_some_iff.mp hcc24).1 neq27).trans hcc24
  have h0q27 := xq27 a0 0 h0c24 neq27
  have geq27 : c.length ≤ c23.length := by omega
  have t68 := Zx.get xq27 tc24 t58 (by decide)
  have t69 := Zx.get xq27 tc24 t59 (by decide)
  have t70 := Zx.get xq27 tc24 t60 (by decide)
  have t71 := Zx.get xq27 tc24 t61 (by decide)
  have t72 := Zx.get xq27 tc24 t62 (by decide)
  have t73 := Zx.get xq27 tc24 t63 (by decide)
  have t74 := Zx.get xq27 tc24 t64 (by decide)
  have t75 := Zx.get xq27 tc24 t65 (by decide)
  have yq27 := Zx.inn yc24 xq27 (by rw [W.1]; exact geq27)
  have x_sq27 := Zsm.inn x_sc24 sq27 geq27
  have hl76 : q27.length = c.length + 13 := by rw [lq27, hl66]
  obtain ⟨c29, ec29, Wc29, hcc29, sc29, lc29⟩ := raw_p (v := .ref c23.length) Wq27 h0q27 hcq27 (j := 3) (by simp)
  refine wb ec29 ?_
  simp only [List.set] at hcc29
  have x_sc29 := Zsm.tr x_sq27 sc29
  have hl77 : c29.length = c.length + 13 := lc29.trans hl76
  refine wb (v := ()) (by decide) ?_
  obtain ⟨Wz, tz, xz⟩ := wt_seal (T := 8) Wc29 h0q27 hcc29 rfl (Zvs.cons (Zcv.mr (T := 47) (set_get h0q27 t70 (by decide)) (by decide)) (Zvs.cons (Zcv.mr (T := 1) (set_get h0q27 t68 (by decide)) (by decide)) (Zvs.cons (Zcv.mr (T := 7) (set_get h0q27 t75 (by decide)) (by decide)) (Zvs.cons (Zcv.mr (T := 7) (set_get h0q27 tq27 (by decide)) (by decide)) (Zvs.cons (Zcv.mr (T := 51) (set_get h0q27 t71 (by decide)) (by decide)) (Zvs.cons (Zcv.mr (T := 52) (set_get h0q27 t72 (by decide)) (by decide)) (Zvs.cons (Zcv.mr (T := 53) (set_get h0q27 t73 (by decide)) (by decide)) (Zvs.cons (Zcv.mr (T := 54) (set_get h0q27 t74 (by decide)) (by decide)) (Zvs.cons (Zcv.mr (T := 3) (set_get h0q27 t69 (by decide)) (by decide)) Zvs.nil)))))))))
  exact ⟨_, rfl, _, Wz, Zx.tr yq27 xz, tz, x_sc29, hl77⟩

set_option maxRecDepth 100000 in
set_option maxHeartbeats 1000000 in
theorem k_Rows_init {nf : Nat} (hn : 8589934592 ≤ nf) {T : Nat} (hT : zty T = kOb 9 rwF) {G : List Nat} {c : Zc} (W : Zwt zty G c) {a0  : Nat} (h0 : G[a0]? = some 0) (hc : c[a0]? = some (.inr (9, [.int 0, .int 0, .null, .null, .null])))  : ∃ q, f_Rows_init nf 3 64 a0  c = some q ∧ ∃ G', Zwt zty G' q ∧ Zx G G' a0 ∧ G'[a0]? = some T ∧ Zsm c q a0 ∧ q.length = c.length + 3 ∧ ∃ cl od ot, Zro G' q a0 0 0 cl od ot ∧ zln q cl = 64 ∧ zln q od = 0 := by
  unfold f_Rows_init
  have hl0 : c.length = c.length + 0 := rfl
  obtain ⟨c1, ec1, Wc1, hcc1, sc1, lc1⟩ := raw_p (v := .int 0) W h0 hc (j := 0) (by simp)
  refine wb ec1 ?_
  simp only [List.set] at hcc1
  have x_sc1 := Zsm.tr Zsm.rf sc1
  have hl1 : c1.length = c.length + 0 := lc1.trans hl0
  obtain ⟨c2, ec2, Wc2, hcc2, sc2, lc2⟩ := raw_p (v := .int 0) Wc1 h0 hcc1 (j := 1) (by simp)
  refine wb ec2 ?_
  simp only [List.set] at hcc2
  have x_sc2 := Zsm.tr x_sc1 sc2
  have hl2 : c2.length = c.length + 0 := lc2.trans hl1
  refine wb (v := ()) (by decide) ?_
  obtain ⟨Wc3, hcc3, h0c3, tc3, kc3, xc3, sc3, lc3⟩ := raw_n (T := 57) (e := .inl (0, 64, .inl (fun _ => 0))) Wc2 hcc2 h0 ⟨64, _, rfl, (by decide), fun _ _ => trivial⟩
  refine wb (v := c2 ++ [(.inl (0, 64, .inl (fun _ => 0)) : va_E)]) rfl ?_
  have yc3 := Zx.tr Zx.rf xc3
  have x_sc3 := Zsm.tr x_sc2 sc3
  have hl4 : (c2 ++ [(.inl (0, 64, .inl (fun _ => 0)) : va_E)]).length = c.length + 1 := by rw [lc3, hl2]
  generalize c2 ++ [(.inl (0, 64, .inl (fun _ => 0)) : va_E)] = c3 at Wc3 hcc3 kc3 sc3 x_sc3 hl4  ⊢
  generalize G ++ [57] = G3 at Wc3 h0c3 tc3 xc3 yc3 
  obtain ⟨c5, ec5, Wc5, hcc5, sc5, lc5⟩ := raw_p (v := .ref c2.length) Wc3 h0c3 hcc3 (j := 2) (by simp)
  refine wb ec5 ?_
  simp only [List.set] at hcc5
  have x_sc5 := Zsm.tr x_sc3 sc5
  have k5 := (sc5.2 (c2.length) (List.getElem?_eq_some_iff.mp kc3).1 (pl_ne tc3 h0c3 (by decide))).trans kc3
  have hl6 : c5.length = c.length + 1 := lc5.trans hl4
  refine wb (v := ()) (by decide) ?_
  obtain ⟨Wc6, hcc6, h0c6, tc6, kc6, xc6, sc6, lc6⟩ := raw_n (T := 58) (e := .inl (0, 0, .inl (fun _ => 0))) Wc5 hcc5 h0c3 ⟨0, _, rfl, (by decide), fun _ _ => trivial⟩
  refine wb (v := c5 ++ [(.inl (0, 0, .inl (fun _ => 0)) : va_E)]) rfl ?_
  have k8 := (sc6.2 (c2.length) (List.getElem?_eq_some_iff.mp k5).1 (pl_ne tc3 h0c3 (by decide))).trans k5
  have t9 := Zx.get xc6 h0c3 tc3 (by decide)
  have yc6 := Zx.tr yc3 xc6
  have x_sc6 := Zsm.tr x_sc5 sc6
  have hl10 : (c5 ++ [(.inl (0, 0, .inl (fun _ => 0)) : va_E)]).length = c.length + 2 := by rw [lc6, hl6]
  generalize c5 ++ [(.inl (0, 0, .inl (fun _ => 0)) : va_E)] = c6 at Wc6 hcc6 kc6 sc6 x_sc6 hl10 k8 ⊢
  generalize G3 ++ [58] = G7 at Wc6 h0c6 tc6 xc6 yc6 t9
  obtain ⟨c8, ec8, Wc8, hcc8, sc8, lc8⟩ := raw_p (v := .ref c5.length) Wc6 h0c6 hcc6 (j := 3) (by simp)
  refine wb ec8 ?_
  simp only [List.set] at hcc8
  have x_sc8 := Zsm.tr x_sc6 sc8
  have k11 := (sc8.2 (c2.length) (List.getElem?_eq_some_iff.mp k8).1 (pl_ne t9 h0c6 (by decide))).trans k8
  have k12 := (sc8.2 (c5.length) (List.getElem?_eq_some_iff.mp kc6).1 (pl_ne tc6 h0c6 (by decide))).trans kc6
  have hl13 : c8.length = c.length + 2 := lc8.trans hl10
  refine wb (v := ()) (by decide) ?_
  obtain ⟨Wc9, hcc9, h0c9, tc9, kc9, xc9, sc9, lc9⟩ := raw_n (T := 58) (e := .inl (0, 0, .inl (fun _ => 0))) Wc8 hcc8 h0c6 ⟨0, _, rfl, (by decide), fun _ _ => trivial⟩
  refine wb (v := c8 ++ [(.inl (0, 0, .inl (fun _ => 0)) : va_E)]) rfl ?_
  have k15 := (sc9.2 (c2.length) (List.getElem?_eq_some_iff.mp k11).1 (pl_ne t9 h0c6 (by decide))).trans k11
  have k16 := (sc9.2 (c5.length) (List.getElem?_eq_some_iff.mp k12).1 (pl_ne tc6 h0c6 (by decide))).trans k12
  have t17 := Zx.get xc9 h0c6 t9 (by decide)
  have t18 := Zx.get xc9 h0c6 tc6 (by decide)
  have yc9 := Zx.tr yc6 xc9
  have x_sc9 := Zsm.tr x_sc8 sc9
  have hl19 : (c8 ++ [(.inl (0, 0, .inl (fun _ => 0)) : va_E)]).length = c.length + 3 := by rw [lc9, hl13]
  generalize c8 ++ [(.inl (0, 0, .inl (fun _ => 0)) : va_E)] = c9 at Wc9 hcc9 kc9 sc9 x_sc9 hl19 k15 k16 ⊢
  generalize G7 ++ [58] = G14 at Wc9 h0c9 tc9 xc9 yc9 t17 t18
  obtain ⟨c11, ec11, Wc11, hcc11, sc11, lc11⟩ := raw_p (v := .ref c8.length) Wc9 h0c9 hcc9 (j := 4) (by simp)
  refine wb ec11 ?_
  simp only [List.set] at hcc11
  have x_sc11 := Zsm.tr x_sc9 sc11
  have k20 := (sc11.2 (c2.length) (List.getElem?_eq_some_iff.mp k15).1 (pl_ne t17 h0c9 (by decide))).trans k15
  have k21 := (sc11.2 (c5.length) (List.getElem?_eq_some_iff.mp k16).1 (pl_ne t18 h0c9 (by decide))).trans k16
  have k22 := (sc11.2 (c8.length) (List.getElem?_eq_some_iff.mp kc9).1 (pl_ne tc9 h0c9 (by decide))).trans kc9
  have hl23 : c11.length = c.length + 3 := lc11.trans hl19
  refine wb (v := ()) (by decide) ?_
  obtain ⟨Wz, tz, xz⟩ := wt_seal (T := T) Wc11 h0c9 hcc11 hT (Zvs.cons (Zcv.mi (rgi (by decide) (by decide))) (Zvs.cons (Zcv.mi (rgi (by decide) (by decide))) (Zvs.cons (Zcv.mr (T := 57) (set_get h0c9 t17 (by decide)) (by decide)) (Zvs.cons (Zcv.mr (T := 58) (set_get h0c9 t18 (by decide)) (by decide)) (Zvs.cons (Zcv.mr (T := 58) (set_get h0c9 tc9 (by decide)) (by decide)) Zvs.nil)))))
  exact ⟨_, rfl, _, Wz, Zx.tr yc9 xz, tz, x_sc11, hl23, c2.length, c5.length, c8.length, ⟨⟨raw_i hcc11 (j := 0) rfl, raw_i hcc11 (j := 1) rfl, raw_g hcc11 (j := 2) rfl, raw_g hcc11 (j := 3) rfl, raw_g hcc11 (j := 4) rfl⟩, ⟨set_get h0c9 t17 (by decide), set_get h0c9 t18 (by decide), set_get h0c9 tc9 (by decide)⟩, ⟨by decide, by decide, by decide, by decide⟩, by rw [raw_l k20]; decide, by rw [raw_l k22, raw_l k21], by omega⟩, raw_l k20, raw_l k21⟩

set_option maxRecDepth 100000 in
set_option maxHeartbeats 1000000 in
theorem k_Collector_init {nf : Nat} (hn : 8589934592 ≤ nf) {G : List Nat} {c : Zc} (W : Zwt zty G c) {a0 a1 : Nat} (h0 : G[a0]? = some 0) (hc : c[a0]? = some (.inr (10, [.null, .null, .null, .null]))) (t_a1 : G[a1]? = some 8) : ∃ q, f_Collector_init nf 9 146 a0 a1 c = some q ∧ ∃ G', Zwt zty G' q ∧ Zx G G' a0 ∧ G'[a0]? = some 13 ∧ Zsm c q a0 ∧ q.length = c.length + 9 ∧ ∃ rp fp cl od ot cl2 od2 ot2, zgr q a0 10 1 = some rp ∧ G'[rp]? = some 10 ∧ Zro G' q rp 0 0 cl od ot ∧ zgr q a0 10 2 = some fp ∧ G'[fp]? = some 11 ∧ Zro G' q fp 0 0 cl2 od2 ot2 := by
  unfold f_Collector_init
  have hl0 : c.length = c.length + 0 := rfl
  refine wb (v := ()) (by decide) ?_
  obtain ⟨Wc1, hcc1, h0c1, tc1, kc1, xc1, sc1, lc1⟩ := raw_n (T := 0) (e := .inr (9, [.int 0, .int 0, .null, .null, .null])) W hc h0 (True.intro : True)
  refine wb (v := c ++ [(.inr (9, [.int 0, .int 0, .null, .null, .null]) : va_E)]) rfl ?_
  have t2 := Zx.get xc1 h0 t_a1 (by decide)
  have yc1 := Zx.tr Zx.rf xc1
  have x_sc1 := Zsm.tr Zsm.rf sc1
  have hl3 : (c ++ [(.inr (9, [.int 0, .int 0, .null, .null, .null]) : va_E)]).length = c.length + 1 := by rw [lc1, hl0]
  generalize c ++ [(.inr (9, [.int 0, .int 0, .null, .null, .null]) : va_E)] = c1 at Wc1 hcc1 kc1 sc1 x_sc1 hl3 ⊢
  generalize G ++ [0] = G1 at Wc1 h0c1 tc1 xc1 yc1 t2
  refine wb (v := ()) (by decide) ?_
  obtain ⟨q3, eq3, G4, Wq3, xq3, tq3, sq3, lq3, clq3, odq3, otq3, Rq3, uq3, wq3⟩ := k_Rows_init (T := 10) hn rfl Wc1 tc1 kc1 
  refine wb eq3 ?_
  have neq3 : a0 ≠ c.length := Nat.ne_of_lt (List.getElem?_eq_some_iff.mp hc).1
  have hcq3 := (sq3.2 a0 (List.getElem?_eq_some_iff.mp hcc1).1 neq3).trans hcc1
  have h0q3 := xq3 a0 0 h0c1 neq3
  have geq3 : c.length ≤ c.length := by omega
  have t5 := Zx.get xq3 tc1 t2 (by decide)
  have yq3 := Zx.inn yc1 xq3 (by rw [W.1]; exact geq3)
  have x_sq3 := Zsm.inn x_sc1 sq3 geq3
  have hl6 : q3.length = c.length + 4 := by rw [lq3, hl3]
  obtain ⟨c5, ec5, Wc5, hcc5, sc5, lc5⟩ := raw_p (v := .ref c.length) Wq3 h0q3 hcq3 (j := 1) (by simp)
  refine wb ec5 ?_
  simp only [List.set] at hcc5
  have x_sc5 := Zsm.tr x_sq3 sc5
  have R7 := Zro.sm Rq3 Wq3 tq3 (by decide) sc5 Zx.rf h0q3
  have hl8 : c5.length = c.length + 4 := lc5.trans hl6
  refine wb (v := ()) (by decide) ?_
  obtain ⟨Wc6, hcc6, h0c6, tc6, kc6, xc6, sc6, lc6⟩ := raw_n (T := 0) (e := .inr (9, [.int 0, .int 0, .null, .null, .null])) Wc5 hcc5 h0q3 (True.intro : True)
  refine wb (v := c5 ++ [(.inr (9, [.int 0, .int 0, .null, .null, .null]) : va_E)]) rfl ?_
  have R10 := Zro.sm R7 Wc5 tq3 (by decide) sc6 xc6 h0q3
  have t11 := Zx.get xc6 h0q3 t5 (by decide)
  have t12 := Zx.get xc6 h0q3 tq3 (by decide)
  have yc6 := Zx.tr yq3 xc6
  have x_sc6 := Zsm.tr x_sc5 sc6
  have hl13 : (c5 ++ [(.inr (9, [.int 0, .int 0, .null, .null, .null]) : va_E)]).length = c.length + 5 := by rw [lc6, hl8]
  generalize c5 ++ [(.inr (9, [.int 0, .int 0, .null, .null, .null]) : va_E)] = c6 at Wc6 hcc6 kc6 sc6 x_sc6 hl13 R10 ⊢
  generalize G4 ++ [0] = G9 at Wc6 h0c6 tc6 xc6 yc6 t11 t12 R10
  refine wb (v := ()) (by decide) ?_
  obtain ⟨q8, eq8, G14, Wq8, xq8, tq8, sq8, lq8, clq8, odq8, otq8, Rq8, uq8, wq8⟩ := k_Rows_init (T := 11) hn rfl Wc6 tc6 kc6 
  refine wb eq8 ?_
  have neq8 : a0 ≠ c5.length := Nat.ne_of_lt (List.getElem?_eq_some_iff.mp hcc5).1
  have hcq8 := (sq8.2 a0 (List.getElem?_eq_some_iff.mp hcc6).1 neq8).trans hcc6
  have h0q8 := xq8 a0 0 h0c6 neq8
  have geq8 : c.length ≤ c5.length := by omega
  have R15 := Zro.sm R10 Wc6 t12 (by decide) sq8 xq8 tc6
  have t16 := Zx.get xq8 tc6 t11 (by decide)
  have t17 := Zx.get xq8 tc6 t12 (by decide)
  have yq8 := Zx.inn yc6 xq8 (by rw [W.1]; exact geq8)
  have x_sq8 := Zsm.inn x_sc6 sq8 geq8
  have hl18 : q8.length = c.length + 8 := by rw [lq8, hl13]
  obtain ⟨c10, ec10, Wc10, hcc10, sc10, lc10⟩ := raw_p (v := .ref c5.length) Wq8 h0q8 hcq8 (j := 2) (by simp)
  refine wb ec10 ?_
  simp only [List.set] at hcc10
  have x_sc10 := Zsm.tr x_sq8 sc10
  have R19 := Zro.sm R15 Wq8 t17 (by decide) sc10 Zx.rf h0q8
  have R20 := Zro.sm Rq8 Wq8 tq8 (by decide) sc10 Zx.rf h0q8
  have hl21 : c10.length = c.length + 8 := lc10.trans hl18
  refine wb (v := ()) (by decide) ?_
  obtain ⟨Wc11, hcc11, h0c11, tc11, kc11, xc11, sc11, lc11⟩ := raw_n (T := 59) (e := .inl (2, 8, .inr (.inl (fun _ => 0)))) Wc10 hcc10 h0q8 ⟨_, rfl⟩
  refine wb (v := c10 ++ [(.inl (2, 8, .inr (.inl (fun _ => 0))) : va_E)]) rfl ?_
  have R23 := Zro.sm R19 Wc10 t17 (by decide) sc11 xc11 h0q8
  have R24 := Zro.sm R20 Wc10 tq8 (by decide) sc11 xc11 h0q8
  have t25 := Zx.get xc11 h0q8 t16 (by decide)
  have t26 := Zx.get xc11 h0q8 t17 (by decide)
  have t27 := Zx.get xc11 h0q8 tq8 (by decide)
  have yc11 := Zx.tr yq8 xc11
  have x_sc11 := Zsm.tr x_sc10 sc11
  have hl28 : (c10 ++ [(.inl (2, 8, .inr (.inl (fun _ => 0))) : va_E)]).length = c.length + 9 := by rw [lc11, hl21]
  generalize c10 ++ [(.inl (2, 8, .inr (.inl (fun _ => 0))) : va_E)] = c11 at Wc11 hcc11 kc11 sc11 x_sc11 hl28 R23 R24 ⊢
  generalize G14 ++ [59] = G22 at Wc11 h0c11 tc11 xc11 yc11 t25 t26 t27 R23 R24
  obtain ⟨c13, ec13, Wc13, hcc13, sc13, lc13⟩ := raw_p (v := .ref c10.length) Wc11 h0c11 hcc11 (j := 3) (by simp)
  refine wb ec13 ?_
  simp only [List.set] at hcc13
  have x_sc13 := Zsm.tr x_sc11 sc13
  have R29 := Zro.sm R23 Wc11 t26 (by decide) sc13 Zx.rf h0c11
  have R30 := Zro.sm R24 Wc11 t27 (by decide) sc13 Zx.rf h0c11
  have hl31 : c13.length = c.length + 9 := lc13.trans hl28
  obtain ⟨c14, ec14, Wc14, hcc14, sc14, lc14⟩ := raw_p (v := .ref a1) Wc13 h0c11 hcc13 (j := 0) (by simp)
  refine wb ec14 ?_
  simp only [List.set] at hcc14
  have x_sc14 := Zsm.tr x_sc13 sc14
  have R32 := Zro.sm R29 Wc13 t26 (by decide) sc14 Zx.rf h0c11
  have R33 := Zro.sm R30 Wc13 t27 (by decide) sc14 Zx.rf h0c11
  have hl34 : c14.length = c.length + 9 := lc14.trans hl31
  refine wb (v := ()) (by decide) ?_
  obtain ⟨Wz, tz, xz⟩ := wt_seal (T := 13) Wc14 h0c11 hcc14 rfl (Zvs.cons (Zcv.mr (T := 8) (set_get h0c11 t25 (by decide)) (by decide)) (Zvs.cons (Zcv.mr (T := 10) (set_get h0c11 t26 (by decide)) (by decide)) (Zvs.cons (Zcv.mr (T := 11) (set_get h0c11 t27 (by decide)) (by decide)) (Zvs.cons (Zcv.mr (T := 59) (set_get h0c11 tc11 (by decide)) (by decide)) Zvs.nil))))
  have R35 := Zro.sm R32 Wc14 t26 (by decide) Zsm.rf xz h0c11
  have R36 := Zro.sm R33 Wc14 t27 (by decide) Zsm.rf xz h0c11
  exact ⟨_, rfl, _, Wz, Zx.tr yc11 xz, tz, x_sc14, hl34, c.length, c5.length, _, _, _, _, _, _, raw_g hcc14 (j := 1) rfl, set_get h0c11 t26 (by decide), R35, raw_g hcc14 (j := 2) rfl, set_get h0c11 t27 (by decide), R36⟩

set_option maxRecDepth 100000 in
set_option maxHeartbeats 1000000 in
theorem k_Reader_init {nf : Nat} (hn : 8589934592 ≤ nf) {G : List Nat} {c : Zc} (W : Zwt zty G c) {a0 a1 : Nat} (h0 : G[a0]? = some 0) (hc : c[a0]? = some (.inr (5, [.int 0, .null, .null, .null, .null, .null, .int 0, .int 0, .int 0, .int 0, .int 0, .int 0, .int 0, .int 0, .int 0, .int 0, .int 0, .int 0, .int 0, .int 0]))) (t_a1 : G[a1]? = some 3) : ∃ q, f_Reader_init nf 10 926 a0 a1 c = some q ∧ ∃ G', Zwt zty G' q ∧ Zx G G' a0 ∧ G'[a0]? = some 6 ∧ Zsm c q a0 ∧ q.length = c.length + 10 := by
  unfold f_Reader_init
  have hl0 : c.length = c.length + 0 := rfl
  obtain ⟨c1, ec1, Wc1, hcc1, sc1, lc1⟩ := raw_p (v := .int (-2)) W h0 hc (j := 0) (by simp)
  refine wb ec1 ?_
  simp only [List.set] at hcc1
  have x_sc1 := Zsm.tr Zsm.rf sc1
  have hl1 : c1.length = c.length + 0 := lc1.trans hl0
  refine wb (v := ()) (by decide) ?_
  obtain ⟨Wc2, hcc2, h0c2, tc2, kc2, xc2, sc2, lc2⟩ := raw_n (T := 0) (e := .inr (3, [.null, .null, .null, .int 0, .null, .int 0])) Wc1 hcc1 h0 (True.intro : True)
  refine wb (v := c1 ++ [(.inr (3, [.null, .null, .null, .int 0, .null, .int 0]) : va_E)]) rfl ?_
  have t3 := Zx.get xc2 h0 t_a1 (by decide)
  have yc2 := Zx.tr Zx.rf xc2
  have x_sc2 := Zsm.tr x_sc1 sc2
  have hl4 : (c1 ++ [(.inr (3, [.null, .null, .null, .int 0, .null, .int 0]) : va_E)]).length = c.length + 1 := by rw [lc2, hl1]
  generalize c1 ++ [(.inr (3, [.null, .null, .null, .int 0, .null, .int 0]) : va_E)] = c2 at Wc2 hcc2 kc2 sc2 x_sc2 hl4 ⊢
  generalize G ++ [0] = G2 at Wc2 h0c2 tc2 xc2 yc2 t3
  refine wb (v := ()) (by decide) ?_
  obtain ⟨q4, eq4, G5, Wq4, xq4, tq4, sq4, lq4⟩ := k_Tokens_init hn Wc2 tc2 kc2 
  refine wb eq4 ?_
  have neq4 : a0 ≠ c1.length := Nat.ne_of_lt (List.getElem?_eq_some_iff.mp hcc1).1
  have hcq4 := (sq4.2 a0 (List.getElem?_eq_some_iff.mp hcc2).1 neq4).trans hcc2
  have h0q4 := xq4 a0 0 h0c2 neq4
  have geq4 : c.length ≤ c1.length := by omega
  have t6 := Zx.get xq4 tc2 t3 (by decide)
  have yq4 := Zx.inn yc2 xq4 (by rw [W.1]; exact geq4)
  have x_sq4 := Zsm.inn x_sc2 sq4 geq4
  have hl7 : q4.length = c.length + 5 := by rw [lq4, hl4]
  obtain ⟨c6, ec6, Wc6, hcc6, sc6, lc6⟩ := raw_p (v := .ref c1.length) Wq4 h0q4 hcq4 (j := 1) (by simp)
  refine wb ec6 ?_
  simp only [List.set] at hcc6
  have x_sc6 := Zsm.tr x_sq4 sc6
  have hl8 : c6.length = c.length + 5 := lc6.trans hl7
  refine wb (v := ()) (by decide) ?_
  obtain ⟨Wc7, hcc7, h0c7, tc7, kc7, xc7, sc7, lc7⟩ := raw_n (T := 46) (e := .inl (0, 66, .inl (fun _ => 0))) Wc6 hcc6 h0q4 ⟨_, rfl, fun _ _ => rgi (by decide) (by decide)⟩
  refine wb (v := c6 ++ [(.inl (0, 66, .inl (fun _ => 0)) : va_E)]) rfl ?_
  have t10 := Zx.get xc7 h0q4 t6 (by decide)
  have t11 := Zx.get xc7 h0q4 tq4 (by decide)
  have yc7 := Zx.tr yq4 xc7
  have x_sc7 := Zsm.tr x_sc6 sc7
  have hl12 : (c6 ++ [(.inl (0, 66, .inl (fun _ => 0)) : va_E)]).length = c.length + 6 := by rw [lc7, hl8]
  generalize c6 ++ [(.inl (0, 66, .inl (fun _ => 0)) : va_E)] = c7 at Wc7 hcc7 kc7 sc7 x_sc7 hl12 ⊢
  generalize G5 ++ [46] = G9 at Wc7 h0c7 tc7 xc7 yc7 t10 t11
  obtain ⟨c9, ec9, Wc9, hcc9, sc9, lc9⟩ := raw_p (v := .ref c6.length) Wc7 h0c7 hcc7 (j := 3) (by simp)
  refine wb ec9 ?_
  simp only [List.set] at hcc9
  have x_sc9 := Zsm.tr x_sc7 sc9
  have hl13 : c9.length = c.length + 6 := lc9.trans hl12
  obtain ⟨c10, ec10, Wc10, hcc10, sc10, lc10⟩ := raw_p (v := .int 0) Wc9 h0c7 hcc9 (j := 6) (by simp)
  refine wb ec10 ?_
  simp only [List.set] at hcc10
  have x_sc10 := Zsm.tr x_sc9 sc10
  have hl14 : c10.length = c.length + 6 := lc10.trans hl13
  obtain ⟨c11, ec11, Wc11, hcc11, sc11, lc11⟩ := raw_p (v := .int 0) Wc10 h0c7 hcc10 (j := 7) (by simp)
  refine wb ec11 ?_
  simp only [List.set] at hcc11
  have x_sc11 := Zsm.tr x_sc10 sc11
  have hl15 : c11.length = c.length + 6 := lc11.trans hl14
  obtain ⟨c12, ec12, Wc12, hcc12, sc12, lc12⟩ := raw_p (v := .int 0) Wc11 h0c7 hcc11 (j := 8) (by simp)
  refine wb ec12 ?_
  simp only [List.set] at hcc12
  have x_sc12 := Zsm.tr x_sc11 sc12
  have hl16 : c12.length = c.length + 6 := lc12.trans hl15
  obtain ⟨c13, ec13, Wc13, hcc13, sc13, lc13⟩ := raw_p (v := .int 0) Wc12 h0c7 hcc12 (j := 9) (by simp)
  refine wb ec13 ?_
  simp only [List.set] at hcc13
  have x_sc13 := Zsm.tr x_sc12 sc13
  have hl17 : c13.length = c.length + 6 := lc13.trans hl16
  obtain ⟨c14, ec14, Wc14, hcc14, sc14, lc14⟩ := raw_p (v := .int 0) Wc13 h0c7 hcc13 (j := 10) (by simp)
  refine wb ec14 ?_
  simp only [List.set] at hcc14
  have x_sc14 := Zsm.tr x_sc13 sc14
  have hl18 : c14.length = c.length + 6 := lc14.trans hl17
  obtain ⟨c15, ec15, Wc15, hcc15, sc15, lc15⟩ := raw_p (v := .int 0) Wc14 h0c7 hcc14 (j := 11) (by simp)
  refine wb ec15 ?_
  simp only [List.set] at hcc15
  have x_sc15 := Zsm.tr x_sc14 sc15
  have hl19 : c15.length = c.length + 6 := lc15.trans hl18
  obtain ⟨c16, ec16, Wc16, hcc16, sc16, lc16⟩ := raw_p (v := .int 0) Wc15 h0c7 hcc15 (j := 12) (by simp)
  refine wb ec16 ?_
  simp only [List.set] at hcc16
  have x_sc16 := Zsm.tr x_sc15 sc16
  have hl20 : c16.length = c.length + 6 := lc16.trans hl19
  obtain ⟨c17, ec17, Wc17, hcc17, sc17, lc17⟩ := raw_p (v := .int (-1)) Wc16 h0c7 hcc16 (j := 13) (by simp)
  refine wb ec17 ?_
  simp only [List.set] at hcc17
  have x_sc17 := Zsm.tr x_sc16 sc17
  have hl21 : c17.length = c.length + 6 := lc17.trans hl20
  obtain ⟨c18, ec18, Wc18, hcc18, sc18, lc18⟩ := raw_p (v := .int 0) Wc17 h0c7 hcc17 (j := 14) (by simp)
  refine wb ec18 ?_
  simp only [List.set] at hcc18
  have x_sc18 := Zsm.tr x_sc17 sc18
  have hl22 : c18.length = c.length + 6 := lc18.trans hl21
  obtain ⟨c19, ec19, Wc19, hcc19, sc19, lc19⟩ := raw_p (v := .int 0) Wc18 h0c7 hcc18 (j := 15) (by simp)
  refine wb ec19 ?_
  simp only [List.set] at hcc19
  have x_sc19 := Zsm.tr x_sc18 sc19
  have hl23 : c19.length = c.length + 6 := lc19.trans hl22
  obtain ⟨c20, ec20, Wc20, hcc20, sc20, lc20⟩ := raw_p (v := .int 0) Wc19 h0c7 hcc19 (j := 16) (by simp)
  refine wb ec20 ?_
  simp only [List.set] at hcc20
  have x_sc20 := Zsm.tr x_sc19 sc20
  have hl24 : c20.length = c.length + 6 := lc20.trans hl23
  obtain ⟨c21, ec21, Wc21, hcc21, sc21, lc21⟩ := raw_p (v := .int 0) Wc20 h0c7 hcc20 (j := 17) (by simp)
  refine wb ec21 ?_
  simp only [List.set] at hcc21
  have x_sc21 := Zsm.tr x_sc20 sc21
  have hl25 : c21.length = c.length + 6 := lc21.trans hl24
  obtain ⟨c22, ec22, Wc22, hcc22, sc22, lc22⟩ := raw_p (v := .int 0) Wc21 h0c7 hcc21 (j := 18) (by simp)
  refine wb ec22 ?_
  simp only [List.set] at hcc22
  have x_sc22 := Zsm.tr x_sc21 sc22
  have hl26 : c22.length = c.length + 6 := lc22.trans hl25
  obtain ⟨c23, ec23, Wc23, hcc23, sc23, lc23⟩ := raw_p (v := .int 0) Wc22 h0c7 hcc22 (j := 19) (by simp)
  refine wb ec23 ?_
  simp only [List.set] at hcc23
  have x_sc23 := Zsm.tr x_sc22 sc23
  have hl27 : c23.length = c.length + 6 := lc23.trans hl26
  obtain ⟨c24, ec24, Wc24, hcc24, sc24, lc24⟩ := raw_p (v := .ref a1) Wc23 h0c7 hcc23 (j := 4) (by simp)
  refine wb ec24 ?_
  simp only [List.set] at hcc24
  have x_sc24 := Zsm.tr x_sc23 sc24
  have hl28 : c24.length = c.length + 6 := lc24.trans hl27
  obtain ⟨v25, ev25, tv25⟩ := gf_3_4 Wc24 t10
  refine wb ev25 ?_
  obtain ⟨v26, ev26, tv26⟩ := ga_29 Wc24 tv25 (i := 0) (by decide) (by decide)
  refine wb ev26 ?_
  obtain ⟨c27, ec27, Wc27, hcc27, sc27, lc27⟩ := raw_p (v := .ref v26) Wc24 h0c7 hcc24 (j := 5) (by simp)
  refine wb ec27 ?_
  simp only [List.set] at hcc27
  have x_sc27 := Zsm.tr x_sc24 sc27
  have hl29 : c27.length = c.length + 6 := lc27.trans hl28
  refine wb (v := ()) (by decide) ?_
  obtain ⟨Wc28, hcc28, h0c28, tc28, kc28, xc28, sc28, lc28⟩ := raw_n (T := 0) (e := .inr (4, [.int 0, .int 0, .int 0, .null, .int 0, .null, .null, .null])) Wc27 hcc27 h0c7 (True.intro : True)
  refine wb (v := c27 ++ [(.inr (4, [.int 0, .int 0, .int 0, .null, .int 0, .null, .null, .null]) : va_E)]) rfl ?_
  have t31 := Zx.get xc28 h0c7 t10 (by decide)
  have t32 := Zx.get xc28 h0c7 t11 (by decide)
  have t33 := Zx.get xc28 h0c7 tc7 (by decide)
  have t34 := Zx.get xc28 h0c7 tv25 (by decide)
  have t35 := Zx.get xc28 h0c7 tv26 (by decide)
  have yc28 := Zx.tr yc7 xc28
  have x_sc28 := Zsm.tr x_sc27 sc28
  have hl36 : (c27 ++ [(.inr (4, [.int 0, .int 0, .int 0, .null, .int 0, .null, .null, .null]) : va_E)]).length = c.length + 7 := by rw [lc28, hl29]
  generalize c27 ++ [(.inr (4, [.int 0, .int 0, .int 0, .null, .int 0, .null, .null, .null]) : va_E)] = c28 at Wc28 hcc28 kc28 sc28 x_sc28 hl36 ⊢
  generalize G9 ++ [0] = G30 at Wc28 h0c28 tc28 xc28 yc28 t31 t32 t33 t34 t35
  refine wb (v := ()) (by decide) ?_
  obtain ⟨q30, eq30, G37, Wq30, xq30, tq30, sq30, lq30⟩ := k_Operators_init hn Wc28 tc28 kc28 t31
  refine wb eq30 ?_
  have neq30 : a0 ≠ c27.length := Nat.ne_of_lt (List.getElem?_eq_some_iff.mp hcc27).1
  have hcq30 := (sq30.2 a0 (List.getElem?_eq_some_iff.mp hcc28).1 neq30).trans hcc28
  have h0q30 := xq30 a0 0 h0c28 neq30
  have geq30 : c.length ≤ c27.length := by omega
  have t38 := Zx.get xq30 tc28 t31 (by decide)
  have t39 := Zx.get xq30 tc28 t32 (by decide)
  have t40 := Zx.get xq30 tc28 t33 (by decide)
  have t41 := Zx.get xq30 tc28 t34 (by decide)
  have t42 := Zx.get xq30 tc28 t35 (by decide)
  have yq30 := Zx.inn yc28 xq30 (by rw [W.1]; exact geq30)
  have x_sq30 := Zsm.inn x_sc28 sq30 geq30
  have hl43 : q30.length = c.length + 10 := by rw [lq30, hl36]
  obtain ⟨c32, ec32, Wc32, hcc32, sc32, lc32⟩ := raw_p (v := .ref c27.length) Wq30 h0q30 hcq30 (j := 2) (by simp)
  refine wb ec32 ?_
  simp only [List.set] at hcc32
  have x_sc32 := Zsm.tr x_sq30 sc32
  have hl44 : c32.length = c.length + 10 := lc32.trans hl43
  refine wb (v := ()) (by decide) ?_
  obtain ⟨Wz, tz, xz⟩ := wt_seal (T := 6) Wc32 h0q30 hcc32 rfl (Zvs.cons (Zcv.mi trivial) (Zvs.cons (Zcv.mr (T := 4) (set_get h0q30 t39 (by decide)) (by decide)) (Zvs.cons (Zcv.mr (T := 5) (set_get h0q30 tq30 (by decide)) (by decide)) (Zvs.cons (Zcv.mr (T := 46) (set_get h0q30 t40 (by decide)) (by decide)) (Zvs.cons (Zcv.mr (T := 3) (set_get h0q30 t38 (by decide)) (by decide)) (Zvs.cons (Zcv.mr (T := 2) (set_get h0q30 t42 (by decide)) (by decide)) (Zvs.cons (Zcv.mi (rgi (by decide) (by decide))) (Zvs.cons (Zcv.mi (rgi (by decide) (by decide))) (Zvs.cons (Zcv.mi trivial) (Zvs.cons (Zcv.mi trivial) (Zvs.cons (Zcv.mi (rgi (by decide) (by decide))) (Zvs.cons (Zcv.mi trivial) (Zvs.cons (Zcv.mi trivial) (Zvs.cons (Zcv.mi trivial) (Zvs.cons (Zcv.mi (rgi (by decide) (by decide))) (Zvs.cons (Zcv.mi (rgi (by decide) (by decide))) (Zvs.cons (Zcv.mi (rgi (by decide) (by decide))) (Zvs.cons (Zcv.mi (rgi (by decide) (by decide))) (Zvs.cons (Zcv.mi trivial) (Zvs.cons (Zcv.mi (rgi (by decide) (by decide))) Zvs.nil))))))))))))))))))))
  exact ⟨_, rfl, _, Wz, Zx.tr yq30 xz, tz, x_sc32, hl44⟩
end ZzT
