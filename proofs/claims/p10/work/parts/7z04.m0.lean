section ZzM
variable {p : Program} {l : Launch} {e : Env} {s : State} {m : MethodId} {args : Array Value} {below : List Frame} {meth : Method} {cd : Code} {Q : State → Prop} {D : va_G} {cid : Nat → ClassId} {B n0 : Nat}
theorem dd_Arrays_fill_0 : decode bb_Arrays_fill 0 = .ok (.iconst 0, 1) := by decide +kernel
theorem dd_Arrays_fill_1 : decode bb_Arrays_fill 1 = .ok (.istore_n 2, 1) := by decide +kernel
theorem dd_Arrays_fill_2 : decode bb_Arrays_fill 2 = .ok (.aload_n 0, 1) := by decide +kernel
theorem dd_Arrays_fill_3 : decode bb_Arrays_fill 3 = .ok (.arraylength, 1) := by decide +kernel
theorem dd_Arrays_fill_4 : decode bb_Arrays_fill 4 = .ok (.istore_n 3, 1) := by decide +kernel
theorem dd_Arrays_fill_5 : decode bb_Arrays_fill 5 = .ok (.iload_n 2, 1) := by decide +kernel
theorem dd_Arrays_fill_6 : decode bb_Arrays_fill 6 = .ok (.iload_n 3, 1) := by decide +kernel
theorem dd_Arrays_fill_7 : decode bb_Arrays_fill 7 = .ok (.if_icmp .ge 13, 3) := by decide +kernel
theorem dd_Arrays_fill_10 : decode bb_Arrays_fill 10 = .ok (.aload_n 0, 1) := by decide +kernel
theorem dd_Arrays_fill_11 : decode bb_Arrays_fill 11 = .ok (.iload_n 2, 1) := by decide +kernel
theorem dd_Arrays_fill_12 : decode bb_Arrays_fill 12 = .ok (.iload_n 1, 1) := by decide +kernel
theorem dd_Arrays_fill_13 : decode bb_Arrays_fill 13 = .ok (.iastore, 1) := by decide +kernel
theorem dd_Arrays_fill_14 : decode bb_Arrays_fill 14 = .ok (.iinc 2 1, 3) := by decide +kernel
theorem dd_Arrays_fill_17 : decode bb_Arrays_fill 17 = .ok (.goto (-12), 3) := by decide +kernel
theorem dd_Arrays_fill_20 : decode bb_Arrays_fill 20 = .ok (.return_, 1) := by decide +kernel
set_option maxRecDepth 100000 in
set_option maxHeartbeats 4000000 in
theorem u_Arrays_fill_5  (X : zX p s m args cd D cid B bb_Arrays_fill 4 rr_Arrays zT) (H : zH s meth B n0 none "fill") {nf : Nat} {x0 : Nat} {x1 : Int32} {x2 : Int32} {x3 : Int32} {c : Zc} {r : (Nat × Int32 × Int32 × Int32 × Zc) ⊕ (Zc)} (h : g_Arrays_fill_5 nf x0 x1 x2 x3 c = some r) (k0 : ∀ a, r = .inl a → (fun a : Nat × Int32 × Int32 × Int32 × Zc => Zz p l e (zRm 0 0 0 0) s m args below meth cd Q D cid B 4 0 0 a.2.2.2.2 5 [(0, .ref a.1), (1, .int a.2.1), (2, .int a.2.2.1), (3, .int a.2.2.2.1)] []) a) (k1 : ∀ b, r = .inr b → (fun b : Zc => Zz p l e (zRm 0 0 0 0) s m args below meth cd Q D cid B 4 0 0 b 20 [] []) b) : Zz p l e (zRm 0 0 0 0) s m args below meth cd Q D cid B 4 0 0 c 5 [(0, .ref x0), (1, .int x1), (2, .int x2), (3, .int x3)] [] := by
  unfold g_Arrays_fill_5 at h
  refine z_iload_n X dd_Arrays_fill_5 rfl 2 rfl ?_
  refine z_iload_n X dd_Arrays_fill_6 rfl 3 rfl ?_
  refine z_icmp_ge (tgt := 20) X dd_Arrays_fill_7 (by decide) (fun q2 => ?_) (fun q2 => ?_)
  · rw [if_pos q2] at h
    refine z_sub [] rfl ?_
    obtain rfl := Option.some.inj h
    exact k1 _ rfl
  · rw [if_neg q2] at h
    refine z_aload_n X dd_Arrays_fill_10 rfl 0 rfl ?_
    refine z_iload_n X dd_Arrays_fill_11 rfl 2 rfl ?_
    refine z_iload_n X dd_Arrays_fill_12 rfl 1 rfl ?_
    obtain ⟨c3, ec3, h⟩ := zb h
    refine z_iastore X dd_Arrays_fill_13 rfl ec3 ?_
    refine z_iinc (v := (x2 + 1)) (lv' := [(2, .int (x2 + 1)), (0, .ref x0), (1, .int x1), (3, .int x3)]) X dd_Arrays_fill_14 2 rfl rfl (by decide) rfl ?_
    refine z_goto (tgt := 5) X dd_Arrays_fill_17 (by decide) ?_
    refine z_sub [1, 2, 0, 3] rfl ?_
    obtain rfl := Option.some.inj h
    exact k0 _ rfl
set_option maxRecDepth 100000 in
set_option maxHeartbeats 4000000 in
theorem t_Arrays_fill_5  (X : zX p s m args cd D cid B bb_Arrays_fill 4 rr_Arrays zT) (H : zH s meth B n0 none "fill") {nf : Nat} {x0 : Nat} {x1 : Int32} {x2 : Int32} {x3 : Int32} {c : Zc} {res : Zc} (h : f_Arrays_fill_5 nf x0 x1 x2 x3 c = some res) : Zz p l e (zRm 0 0 0 0) s m args below meth cd (MQ below (zQv D cid B res n0 0) args s 0 0 (fun q => B ≤ q)) D cid B 4 0 0 c 5 [(0, .ref x0), (1, .int x1), (2, .int x2), (3, .int x3)] [] := by
  unfold f_Arrays_fill_5 at h
  obtain ⟨b, eb, h⟩ := zb h
  refine zlp_ok (P := fun a : Nat × Int32 × Int32 × Int32 × Zc => Zz p l e (zRm 0 0 0 0) s m args below meth cd _ D cid B 4 0 0 a.2.2.2.2 5 [(0, .ref a.1), (1, .int a.2.1), (2, .int a.2.2.1), (3, .int a.2.2.2.1)] []) (G := fun b : Zc => Zz p l e (zRm 0 0 0 0) s m args below meth cd _ D cid B 4 0 0 b 20 [] []) (fun a r ha k0 k1 => u_Arrays_fill_5 X H ha k0 k1) nf _ b eb ?_
  obtain rfl := Option.some.inj h
  exact z_vret X H.1 H.2.1 H.2.2.1 dd_Arrays_fill_20
set_option maxRecDepth 100000 in
set_option maxHeartbeats 4000000 in
theorem c_Arrays_fill (l : Launch) {nf : Nat} {a0 : Nat} {a1 : Int32} {c : Zc} {res : Zc} (h : f_Arrays_fill nf a0 a1 c = some res) : zM l yy_Arrays_fill ww_Arrays_fill 0 0 0 0 [.ref a0, .int a1] c (fun D cid B => zQv D cid B res c.length 0) := by
  refine z_met (cc := bb_Arrays_fill) (maxL := 4) (ret := none) (by decide +kernel) rfl (Nat.le_of_ble_eq_true rfl) ?_
  intro p e s m args below meth cd D cid B X h1 h2 h3 h4
  have X : zX p s m args cd D cid B bb_Arrays_fill 4 rr_Arrays zT := X
  have H : zH s meth B c.length none "fill" := ⟨h1, h2, h4, h3⟩
  unfold f_Arrays_fill at h
  show Zz p l e (zRm 0 0 0 0) s m args below meth cd _ D cid B 4 0 0 c 0 [(0, .ref a0), (1, .int a1)] []
  refine z_iconst (v := 0) X dd_Arrays_fill_0 (by decide) ?_
  refine z_istore_n (lv' := [(2, .int 0), (0, .ref a0), (1, .int a1)]) X dd_Arrays_fill_1 rfl (by decide) rfl ?_
  refine z_aload_n X dd_Arrays_fill_2 rfl 1 rfl ?_
  obtain ⟨v1, ev1, h⟩ := zb h
  refine z_alen X dd_Arrays_fill_3 rfl ev1 ?_
  refine z_istore_n (lv' := [(3, .int v1), (2, .int 0), (0, .ref a0), (1, .int a1)]) X dd_Arrays_fill_4 rfl (by decide) rfl ?_
  refine z_sub [2, 3, 1, 0] rfl ?_
  exact t_Arrays_fill_5 X H h
theorem dd_Graph_init_0 : decode bb_Graph_init 0 = .ok (.aload_n 0, 1) := by decide +kernel
theorem dd_Graph_init_1 : decode bb_Graph_init 1 = .ok (.invokespecial 3, 3) := by decide +kernel
theorem dd_Graph_init_4 : decode bb_Graph_init 4 = .ok (.aload_n 0, 1) := by decide +kernel
theorem dd_Graph_init_5 : decode bb_Graph_init 5 = .ok (.bipush 16, 2) := by decide +kernel
theorem dd_Graph_init_7 : decode bb_Graph_init 7 = .ok (.newarray .int, 2) := by decide +kernel
theorem dd_Graph_init_9 : decode bb_Graph_init 9 = .ok (.putfield 9, 3) := by decide +kernel
theorem dd_Graph_init_12 : decode bb_Graph_init 12 = .ok (.aload_n 0, 1) := by decide +kernel
theorem dd_Graph_init_13 : decode bb_Graph_init 13 = .ok (.bipush 64, 2) := by decide +kernel
theorem dd_Graph_init_15 : decode bb_Graph_init 15 = .ok (.newarray .int, 2) := by decide +kernel
theorem dd_Graph_init_17 : decode bb_Graph_init 17 = .ok (.putfield 15, 3) := by decide +kernel
theorem dd_Graph_init_20 : decode bb_Graph_init 20 = .ok (.aload_n 0, 1) := by decide +kernel
theorem dd_Graph_init_21 : decode bb_Graph_init 21 = .ok (.bipush 100, 2) := by decide +kernel
theorem dd_Graph_init_23 : decode bb_Graph_init 23 = .ok (.newarray .int, 2) := by decide +kernel
theorem dd_Graph_init_25 : decode bb_Graph_init 25 = .ok (.putfield 18, 3) := by decide +kernel
theorem dd_Graph_init_28 : decode bb_Graph_init 28 = .ok (.aload_n 0, 1) := by decide +kernel
theorem dd_Graph_init_29 : decode bb_Graph_init 29 = .ok (.bipush 100, 2) := by decide +kernel
theorem dd_Graph_init_31 : decode bb_Graph_init 31 = .ok (.newarray .int, 2) := by decide +kernel
theorem dd_Graph_init_33 : decode bb_Graph_init 33 = .ok (.putfield 21, 3) := by decide +kernel
theorem dd_Graph_init_36 : decode bb_Graph_init 36 = .ok (.aload_n 0, 1) := by decide +kernel
theorem dd_Graph_init_37 : decode bb_Graph_init 37 = .ok (.bipush 100, 2) := by decide +kernel
theorem dd_Graph_init_39 : decode bb_Graph_init 39 = .ok (.newarray .int, 2) := by decide +kernel
theorem dd_Graph_init_41 : decode bb_Graph_init 41 = .ok (.putfield 24, 3) := by decide +kernel
theorem dd_Graph_init_44 : decode bb_Graph_init 44 = .ok (.aload_n 0, 1) := by decide +kernel
theorem dd_Graph_init_45 : decode bb_Graph_init 45 = .ok (.bipush 100, 2) := by decide +kernel
theorem dd_Graph_init_47 : decode bb_Graph_init 47 = .ok (.newarray .int, 2) := by decide +kernel
theorem dd_Graph_init_49 : decode bb_Graph_init 49 = .ok (.putfield 27, 3) := by decide +kernel
theorem dd_Graph_init_52 : decode bb_Graph_init 52 = .ok (.aload_n 0, 1) := by decide +kernel
theorem dd_Graph_init_53 : decode bb_Graph_init 53 = .ok (.sipush 416, 3) := by decide +kernel
theorem dd_Graph_init_56 : decode bb_Graph_init 56 = .ok (.newarray .int, 2) := by decide +kernel
theorem dd_Graph_init_58 : decode bb_Graph_init 58 = .ok (.putfield 30, 3) := by decide +kernel
theorem dd_Graph_init_61 : decode bb_Graph_init 61 = .ok (.aload_n 0, 1) := by decide +kernel
theorem dd_Graph_init_62 : decode bb_Graph_init 62 = .ok (.iconst 0, 1) := by decide +kernel
theorem dd_Graph_init_63 : decode bb_Graph_init 63 = .ok (.putfield 33, 3) := by decide +kernel
theorem dd_Graph_init_66 : decode bb_Graph_init 66 = .ok (.aload_n 0, 1) := by decide +kernel
theorem dd_Graph_init_67 : decode bb_Graph_init 67 = .ok (.iconst 0, 1) := by decide +kernel
theorem dd_Graph_init_68 : decode bb_Graph_init 68 = .ok (.putfield 37, 3) := by decide +kernel
theorem dd_Graph_init_71 : decode bb_Graph_init 71 = .ok (.aload_n 0, 1) := by decide +kernel
theorem dd_Graph_init_72 : decode bb_Graph_init 72 = .ok (.iconst 0, 1) := by decide +kernel
theorem dd_Graph_init_73 : decode bb_Graph_init 73 = .ok (.putfield 40, 3) := by decide +kernel
theorem dd_Graph_init_76 : decode bb_Graph_init 76 = .ok (.aload_n 0, 1) := by decide +kernel
theorem dd_Graph_init_77 : decode bb_Graph_init 77 = .ok (.getfield 24, 3) := by decide +kernel
theorem dd_Graph_init_80 : decode bb_Graph_init 80 = .ok (.iconst (-1), 1) := by decide +kernel
theorem dd_Graph_init_81 : decode bb_Graph_init 81 = .ok (.invokestatic 43, 3) := by decide +kernel
theorem dd_Graph_init_84 : decode bb_Graph_init 84 = .ok (.return_, 1) := by decide +kernel
set_option maxRecDepth 100000 in
set_option maxHeartbeats 4000000 in
theorem c_Graph_init (l : Launch) {nf mc ms : Nat} {a0 : Nat} {c : Zc} {res : Zc} (h : f_Graph_init nf mc ms a0 c = some res) : zM l yy_Graph_init ww_Graph_init 1 23 mc ms [.ref a0] c (fun D cid B => zQv D cid B res c.length mc) := by
  refine z_met (cc := bb_Graph_init) (maxL := 1) (ret := none) (by decide +kernel) rfl (Nat.le_of_ble_eq_true rfl) ?_
  intro p e s m args below meth cd D cid B X h1 h2 h3 h4
  have X : zX p s m args cd D cid B bb_Graph_init 1 rr_Graph zT := X
  have H : zH s meth B c.length none "<init>" := ⟨h1, h2, h4, h3⟩
  unfold f_Graph_init at h
  show Zz p l e (zRm 1 23 mc ms) s m args below meth cd _ D cid B 1 0 0 c 0 [(0, .ref a0)] []
  refine z_aload_n X dd_Graph_init_0 rfl 0 rfl ?_
  refine z_objInit X dd_Graph_init_1 km_160 km_153 km_154 (Nat.le_of_ble_eq_true rfl) (Nat.le_of_ble_eq_true rfl) ?_
  refine z_aload_n X dd_Graph_init_4 rfl 0 rfl ?_
  refine z_bipush (v := 16) X dd_Graph_init_5 (by decide) ?_
  obtain ⟨u2, eu2, h⟩ := zb h
  obtain ⟨c1, ec1, h⟩ := zb h
  refine z_newaC (ty := .int) X dd_Graph_init_7 rfl km_206 rfl (fun _ q => by cases q) (fun _ => rfl) (fun _ => rfl) (by decide) (by decide) (by decide) (zlim_s eu2).1 (zlim_s eu2).2 ec1 ?_
  obtain ⟨c3, ec3, h⟩ := zb h
  refine z_putF (j := 0) X dd_Graph_init_9 kc_0 ki_0 tt_Graph tk_Graph nn_Graph (by decide) km_164 rfl H.2.2.2 rfl (tk_Graph 0 (by decide)) rfl rfl ec3 ?_
  refine z_aload_n X dd_Graph_init_12 rfl 0 rfl ?_
  refine z_bipush (v := 64) X dd_Graph_init_13 (by decide) ?_
  obtain ⟨u5, eu5, h⟩ := zb h
  obtain ⟨c4, ec4, h⟩ := zb h
  refine z_newaC (ty := .int) X dd_Graph_init_15 rfl km_206 rfl (fun _ q => by cases q) (fun _ => rfl) (fun _ => rfl) (by decide) (by decide) (by decide) (zlim_s eu5).1 (zlim_s eu5).2 ec4 ?_
  obtain ⟨c6, ec6, h⟩ := zb h
  refine z_putF (j := 1) X dd_Graph_init_17 kc_0 ki_0 tt_Graph tk_Graph nn_Graph (by decide) km_165 rfl H.2.2.2 rfl (tk_Graph 1 (by decide)) rfl rfl ec6 ?_
  refine z_aload_n X dd_Graph_init_20 rfl 0 rfl ?_
  refine z_bipush (v := 100) X dd_Graph_init_21 (by decide) ?_
  obtain ⟨u8, eu8, h⟩ := zb h
  obtain ⟨c7, ec7, h⟩ := zb h
  refine z_newaC (ty := .int) X dd_Graph_init_23 rfl km_206 rfl (fun _ q => by cases q) (fun _ => rfl) (fun _ => rfl) (by decide) (by decide) (by decide) (zlim_s eu8).1 (zlim_s eu8).2 ec7 ?_
  obtain ⟨c9, ec9, h⟩ := zb h
  refine z_putF (j := 2) X dd_Graph_init_25 kc_0 ki_0 tt_Graph tk_Graph nn_Graph (by decide) km_167 rfl H.2.2.2 rfl (tk_Graph 2 (by decide)) rfl rfl ec9 ?_
  refine z_aload_n X dd_Graph_init_28 rfl 0 rfl ?_
  refine z_bipush (v := 100) X dd_Graph_init_29 (by decide) ?_
  obtain ⟨u11, eu11, h⟩ := zb h
  obtain ⟨c10, ec10, h⟩ := zb h
  refine z_newaC (ty := .int) X dd_Graph_init_31 rfl km_206 rfl (fun _ q => by cases q) (fun _ => rfl) (fun _ => rfl) (by decide) (by decide) (by decide) (zlim_s eu11).1 (zlim_s eu11).2 ec10 ?_
  obtain ⟨c12, ec12, h⟩ := zb h
  refine z_putF (j := 3) X dd_Graph_init_33 kc_0 ki_0 tt_Graph tk_Graph nn_Graph (by decide) km_168 rfl H.2.2.2 rfl (tk_Graph 3 (by decide)) rfl rfl ec12 ?_
  refine z_aload_n X dd_Graph_init_36 rfl 0 rfl ?_
  refine z_bipush (v := 100) X dd_Graph_init_37 (by decide) ?_
  obtain ⟨u14, eu14, h⟩ := zb h
  obtain ⟨c13, ec13, h⟩ := zb h
  refine z_newaC (ty := .int) X dd_Graph_init_39 rfl km_206 rfl (fun _ q => by cases q) (fun _ => rfl) (fun _ => rfl) (by decide) (by decide) (by decide) (zlim_s eu14).1 (zlim_s eu14).2 ec13 ?_
  obtain ⟨c15, ec15, h⟩ := zb h
  refine z_putF (j := 4) X dd_Graph_init_41 kc_0 ki_0 tt_Graph tk_Graph nn_Graph (by decide) km_169 rfl H.2.2.2 rfl (tk_Graph 4 (by decide)) rfl rfl ec15 ?_
  refine z_aload_n X dd_Graph_init_44 rfl 0 rfl ?_
  refine z_bipush (v := 100) X dd_Graph_init_45 (by decide) ?_
  obtain ⟨u17, eu17, h⟩ := zb h
  obtain ⟨c16, ec16, h⟩ := zb h
  refine z_newaC (ty := .int) X dd_Graph_init_47 rfl km_206 rfl (fun _ q => by cases q) (fun _ => rfl) (fun _ => rfl) (by decide) (by decide) (by decide) (zlim_s eu17).1 (zlim_s eu17).2 ec16 ?_
  obtain ⟨c18, ec18, h⟩ := zb h
  refine z_putF (j := 5) X dd_Graph_init_49 kc_0 ki_0 tt_Graph tk_Graph nn_Graph (by decide) km_170 rfl H.2.2.2 rfl (tk_Graph 5 (by decide)) rfl rfl ec18 ?_
  refine z_aload_n X dd_Graph_init_52 rfl 0 rfl ?_
  refine z_sipush (v := 416) X dd_Graph_init_53 (by decide) ?_
  obtain ⟨u20, eu20, h⟩ := zb h
  obtain ⟨c19, ec19, h⟩ := zb h
  refine z_newaC (ty := .int) X dd_Graph_init_56 rfl km_206 rfl (fun _ q => by cases q) (fun _ => rfl) (fun _ => rfl) (by decide) (by decide) (by decide) (zlim_s eu20).1 (zlim_s eu20).2 ec19 ?_
  obtain ⟨c21, ec21, h⟩ := zb h
  refine z_putF (j := 6) X dd_Graph_init_58 kc_0 ki_0 tt_Graph tk_Graph nn_Graph (by decide) km_171 rfl H.2.2.2 rfl (tk_Graph 6 (by decide)) rfl rfl ec21 ?_
  refine z_aload_n X dd_Graph_init_61 rfl 0 rfl ?_
  refine z_iconst (v := 0) X dd_Graph_init_62 (by decide) ?_
  obtain ⟨c22, ec22, h⟩ := zb h
  refine z_put (j := 7) X dd_Graph_init_63 kc_0 ki_0 tt_Graph tk_Graph nn_Graph (by decide) km_173 rfl (tk_Graph 7 (by decide)) rfl rfl ec22 ?_
  refine z_aload_n X dd_Graph_init_66 rfl 0 rfl ?_
  refine z_iconst (v := 0) X dd_Graph_init_67 (by decide) ?_
  obtain ⟨c23, ec23, h⟩ := zb h
  refine z_put (j := 8) X dd_Graph_init_68 kc_0 ki_0 tt_Graph tk_Graph nn_Graph (by decide) km_178 rfl (tk_Graph 8 (by decide)) rfl rfl ec23 ?_
  refine z_aload_n X dd_Graph_init_71 rfl 0 rfl ?_
  refine z_iconst (v := 0) X dd_Graph_init_72 (by decide) ?_
  obtain ⟨c24, ec24, h⟩ := zb h
  refine z_put (j := 9) X dd_Graph_init_73 kc_0 ki_0 tt_Graph tk_Graph nn_Graph (by decide) km_180 rfl (tk_Graph 9 (by decide)) rfl rfl ec24 ?_
  refine z_aload_n X dd_Graph_init_76 rfl 0 rfl ?_
  obtain ⟨v25, ev25, h⟩ := zb h
  refine z_get (j := 4) X dd_Graph_init_77 kc_0 ki_0 (by decide) km_169 (zgr_v ev25) ?_
  refine z_iconst (v := (-1)) X dd_Graph_init_80 (by decide) ?_
  obtain ⟨u27, eu27, h⟩ := zb h
  obtain ⟨q26, eq26, h⟩ := zb h
  refine z_callSv X [.ref v25, .int (-1)] rfl dd_Graph_init_81 (c_Arrays_fill l eq26) (va_cwS 2 X.1.2.2.2.2 (zg_S km_161 km_162 km_127 km_163) rfl rfl rfl (by decide +kernel) ⟨Nat.le_of_ble_eq_true rfl, Nat.le_of_ble_eq_true rfl⟩) rfl (Nat.le_of_ble_eq_true rfl) (zlim_s eu27) ?_
  obtain ⟨u28, eu28, h⟩ := zb h
  refine z_wid (zend_s eu28).1 (zend_s eu28).2 ?_
  obtain rfl := Option.some.inj h
  exact z_vret X H.1 H.2.1 H.2.2.1 dd_Graph_init_84
theorem dd_Graph_isNode_0 : decode bb_Graph_isNode 0 = .ok (.iload_n 1, 1) := by decide +kernel
theorem dd_Graph_isNode_1 : decode bb_Graph_isNode 1 = .ok (.ifCond .lt 15, 3) := by decide +kernel
theorem dd_Graph_isNode_4 : decode bb_Graph_isNode 4 = .ok (.iload_n 1, 1) := by decide +kernel
theorem dd_Graph_isNode_5 : decode bb_Graph_isNode 5 = .ok (.aload_n 0, 1) := by decide +kernel
theorem dd_Graph_isNode_6 : decode bb_Graph_isNode 6 = .ok (.getfield 33, 3) := by decide +kernel
theorem dd_Graph_isNode_9 : decode bb_Graph_isNode 9 = .ok (.if_icmp .ge 7, 3) := by decide +kernel
theorem dd_Graph_isNode_12 : decode bb_Graph_isNode 12 = .ok (.iconst 1, 1) := by decide +kernel
theorem dd_Graph_isNode_13 : decode bb_Graph_isNode 13 = .ok (.goto 4, 3) := by decide +kernel
theorem dd_Graph_isNode_16 : decode bb_Graph_isNode 16 = .ok (.iconst 0, 1) := by decide +kernel
theorem dd_Graph_isNode_17 : decode bb_Graph_isNode 17 = .ok (.ireturn, 1) := by decide +kernel
set_option maxRecDepth 100000 in
set_option maxHeartbeats 4000000 in
theorem t_Graph_isNode_17  (X : zX p s m args cd D cid B bb_Graph_isNode 2 rr_Graph zT) (H : zH s meth B n0 (some (.boolean)) "isNode") {nf : Nat} {s0 : Int32} {c : Zc} {res : Int32 × Zc} (h : f_Graph_isNode_17 nf s0 c = some res) : Zz p l e (zRm 0 0 0 0) s m args below meth cd (MQ below (zQi D cid B res.1 res.2 n0 0) args s 0 0 (fun q => B ≤ q)) D cid B 2 0 0 c 17 [] [.int s0] := by
  unfold f_Graph_isNode_17 at h
  obtain ⟨hz, h⟩ := zrz_s h
  obtain rfl := h
  exact z_zret X H.1 (zn_z hz) H.2.1 H.2.2.1 dd_Graph_isNode_17
set_option maxRecDepth 100000 in
set_option maxHeartbeats 4000000 in
theorem t_Graph_isNode_16  (X : zX p s m args cd D cid B bb_Graph_isNode 2 rr_Graph zT) (H : zH s meth B n0 (some (.boolean)) "isNode") {nf : Nat}  {c : Zc} {res : Int32 × Zc} (h : f_Graph_isNode_16 nf  c = some res) : Zz p l e (zRm 0 0 0 0) s m args below meth cd (MQ below (zQi D cid B res.1 res.2 n0 0) args s 0 0 (fun q => B ≤ q)) D cid B 2 0 0 c 16 [] [] := by
  unfold f_Graph_isNode_16 at h
  refine z_iconst (v := 0) X dd_Graph_isNode_16 (by decide) ?_
  exact t_Graph_isNode_17 X H h
set_option maxRecDepth 100000 in
set_option maxHeartbeats 4000000 in
theorem c_Graph_isNode (l : Launch) {nf : Nat} {a0 : Nat} {a1 : Int32} {c : Zc} {res : Int32 × Zc} (h : f_Graph_isNode nf a0 a1 c = some res) : zM l yy_Graph_isNode ww_Graph_isNode 0 0 0 0 [.ref a0, .int a1] c (fun D cid B => zQi D cid B res.1 res.2 c.length 0) := by
  refine z_met (cc := bb_Graph_isNode) (maxL := 2) (ret := (some (.boolean))) (by decide +kernel) rfl (Nat.le_of_ble_eq_true rfl) ?_
  intro p e s m args below meth cd D cid B X h1 h2 h3 h4
  have X : zX p s m args cd D cid B bb_Graph_isNode 2 rr_Graph zT := X
  have H : zH s meth B c.length (some (.boolean)) "isNode" := ⟨h1, h2, h4, h3⟩
  unfold f_Graph_isNode at h
  show Zz p l e (zRm 0 0 0 0) s m args below meth cd _ D cid B 2 0 0 c 0 [(0, .ref a0), (1, .int a1)] []
  refine z_iload_n X dd_Graph_isNode_0 rfl 1 rfl ?_
  refine z_if_lt (tgt := 16) X dd_Graph_isNode_1 (by decide) (fun q1 => ?_) (fun q1 => ?_)
  · rw [if_pos q1] at h
    refine z_sub [] rfl ?_
    exact t_Graph_isNode_16 X H h
  · rw [if_neg q1] at h
    refine z_iload_n X dd_Graph_isNode_4 rfl 1 rfl ?_
    refine z_aload_n X dd_Graph_isNode_5 rfl 0 rfl ?_
    obtain ⟨v2, ev2, h⟩ := zb h
    refine z_get (j := 7) X dd_Graph_isNode_6 kc_0 ki_0 (by decide) km_173 (zgi_v ev2) ?_
    refine z_icmp_ge (tgt := 16) X dd_Graph_isNode_9 (by decide) (fun q3 => ?_) (fun q3 => ?_)
    · rw [if_pos q3] at h
      refine z_sub [] rfl ?_
      exact t_Graph_isNode_16 X H h
    · rw [if_neg q3] at h
      refine z_iconst (v := 1) X dd_Graph_isNode_12 (by decide) ?_
      refine z_goto (tgt := 17) X dd_Graph_isNode_13 (by decide) ?_
      refine z_sub [] rfl ?_
      exact t_Graph_isNode_17 X H h
theorem dd_Graph_isArc_0 : decode bb_Graph_isArc 0 = .ok (.iload_n 1, 1) := by decide +kernel
theorem dd_Graph_isArc_1 : decode bb_Graph_isArc 1 = .ok (.ifCond .lt 23, 3) := by decide +kernel
theorem dd_Graph_isArc_4 : decode bb_Graph_isArc 4 = .ok (.iload_n 1, 1) := by decide +kernel
theorem dd_Graph_isArc_5 : decode bb_Graph_isArc 5 = .ok (.bipush 100, 2) := by decide +kernel
theorem dd_Graph_isArc_7 : decode bb_Graph_isArc 7 = .ok (.if_icmp .ge 17, 3) := by decide +kernel
theorem dd_Graph_isArc_10 : decode bb_Graph_isArc 10 = .ok (.aload_n 0, 1) := by decide +kernel
theorem dd_Graph_isArc_11 : decode bb_Graph_isArc 11 = .ok (.getfield 24, 3) := by decide +kernel
theorem dd_Graph_isArc_14 : decode bb_Graph_isArc 14 = .ok (.iload_n 1, 1) := by decide +kernel
theorem dd_Graph_isArc_15 : decode bb_Graph_isArc 15 = .ok (.iaload, 1) := by decide +kernel
theorem dd_Graph_isArc_16 : decode bb_Graph_isArc 16 = .ok (.iconst (-1), 1) := by decide +kernel
theorem dd_Graph_isArc_17 : decode bb_Graph_isArc 17 = .ok (.if_icmp .eq 7, 3) := by decide +kernel
theorem dd_Graph_isArc_20 : decode bb_Graph_isArc 20 = .ok (.iconst 1, 1) := by decide +kernel
theorem dd_Graph_isArc_21 : decode bb_Graph_isArc 21 = .ok (.goto 4, 3) := by decide +kernel
theorem dd_Graph_isArc_24 : decode bb_Graph_isArc 24 = .ok (.iconst 0, 1) := by decide +kernel
theorem dd_Graph_isArc_25 : decode bb_Graph_isArc 25 = .ok (.ireturn, 1) := by decide +kernel
set_option maxRecDepth 100000 in
set_option maxHeartbeats 4000000 in
theorem t_Graph_isArc_25  (X : zX p s m args cd D cid B bb_Graph_isArc 2 rr_Graph zT) (H : zH s meth B n0 (some (.boolean)) "isArc") {nf : Nat} {s0 : Int32} {c : Zc} {res : Int32 × Zc} (h : f_Graph_isArc_25 nf s0 c = some res) : Zz p l e (zRm 0 0 0 0) s m args below meth cd (MQ below (zQi D cid B res.1 res.2 n0 0) args s 0 0 (fun q => B ≤ q)) D cid B 2 0 0 c 25 [] [.int s0] := by
  unfold f_Graph_isArc_25 at h
  obtain ⟨hz, h⟩ := zrz_s h
  obtain rfl := h
  exact z_zret X H.1 (zn_z hz) H.2.1 H.2.2.1 dd_Graph_isArc_25
set_option maxRecDepth 100000 in
set_option maxHeartbeats 4000000 in
theorem t_Graph_isArc_24  (X : zX p s m args cd D cid B bb_Graph_isArc 2 rr_Graph zT) (H : zH s meth B n0 (some (.boolean)) "isArc") {nf : Nat}  {c : Zc} {res : Int32 × Zc} (h : f_Graph_isArc_24 nf  c = some res) : Zz p l e (zRm 0 0 0 0) s m args below meth cd (MQ below (zQi D cid B res.1 res.2 n0 0) args s 0 0 (fun q => B ≤ q)) D cid B 2 0 0 c 24 [] [] := by
  unfold f_Graph_isArc_24 at h
  refine z_iconst (v := 0) X dd_Graph_isArc_24 (by decide) ?_
  exact t_Graph_isArc_25 X H h
set_option maxRecDepth 100000 in
set_option maxHeartbeats 4000000 in
theorem c_Graph_isArc (l : Launch) {nf : Nat} {a0 : Nat} {a1 : Int32} {c : Zc} {res : Int32 × Zc} (h : f_Graph_isArc nf a0 a1 c = some res) : zM l yy_Graph_isArc ww_Graph_isArc 0 0 0 0 [.ref a0, .int a1] c (fun D cid B => zQi D cid B res.1 res.2 c.length 0) := by
  refine z_met (cc := bb_Graph_isArc) (maxL := 2) (ret := (some (.boolean))) (by decide +kernel) rfl (Nat.le_of_ble_eq_true rfl) ?_
  intro p e s m args below meth cd D cid B X h1 h2 h3 h4
  have X : zX p s m args cd D cid B bb_Graph_isArc 2 rr_Graph zT := X
  have H : zH s meth B c.length (some (.boolean)) "isArc" := ⟨h1, h2, h4, h3⟩
  unfold f_Graph_isArc at h
  show Zz p l e (zRm 0 0 0 0) s m args below meth cd _ D cid B 2 0 0 c 0 [(0, .ref a0), (1, .int a1)] []
  refine z_iload_n X dd_Graph_isArc_0 rfl 1 rfl ?_
  refine z_if_lt (tgt := 24) X dd_Graph_isArc_1 (by decide) (fun q1 => ?_) (fun q1 => ?_)
  · rw [if_pos q1] at h
    refine z_sub [] rfl ?_
    exact t_Graph_isArc_24 X H h
  · rw [if_neg q1] at h
    refine z_iload_n X dd_Graph_isArc_4 rfl 1 rfl ?_
    refine z_bipush (v := 100) X dd_Graph_isArc_5 (by decide) ?_
    refine z_icmp_ge (tgt := 24) X dd_Graph_isArc_7 (by decide) (fun q2 => ?_) (fun q2 => ?_)
    · rw [if_pos q2] at h
      refine z_sub [] rfl ?_
      exact t_Graph_isArc_24 X H h
    · rw [if_neg q2] at h
      refine z_aload_n X dd_Graph_isArc_10 rfl 0 rfl ?_
      obtain ⟨v3, ev3, h⟩ := zb h
      refine z_get (j := 4) X dd_Graph_isArc_11 kc_0 ki_0 (by decide) km_169 (zgr_v ev3) ?_
      refine z_iload_n X dd_Graph_isArc_14 rfl 1 rfl ?_
      obtain ⟨v4, ev4, h⟩ := zb h
      refine z_iaload X dd_Graph_isArc_15 rfl ev4 ?_
      refine z_iconst (v := (-1)) X dd_Graph_isArc_16 (by decide) ?_
      refine z_icmp_eq (tgt := 24) X dd_Graph_isArc_17 (by decide) (fun q5 => ?_) (fun q5 => ?_)
      · rw [if_pos q5] at h
        refine z_sub [] rfl ?_
        exact t_Graph_isArc_24 X H h
      · rw [if_neg q5] at h
        refine z_iconst (v := 1) X dd_Graph_isArc_20 (by decide) ?_
        refine z_goto (tgt := 25) X dd_Graph_isArc_21 (by decide) ?_
        refine z_sub [] rfl ?_
        exact t_Graph_isArc_25 X H h
theorem dd_Graph_addNode_0 : decode bb_Graph_addNode 0 = .ok (.aload_n 0, 1) := by decide +kernel
theorem dd_Graph_addNode_1 : decode bb_Graph_addNode 1 = .ok (.getfield 33, 3) := by decide +kernel
theorem dd_Graph_addNode_4 : decode bb_Graph_addNode 4 = .ok (.bipush 16, 2) := by decide +kernel
theorem dd_Graph_addNode_6 : decode bb_Graph_addNode 6 = .ok (.if_icmp .lt 6, 3) := by decide +kernel
theorem dd_Graph_addNode_9 : decode bb_Graph_addNode 9 = .ok (.bipush (-3), 2) := by decide +kernel
theorem dd_Graph_addNode_11 : decode bb_Graph_addNode 11 = .ok (.ireturn, 1) := by decide +kernel
theorem dd_Graph_addNode_12 : decode bb_Graph_addNode 12 = .ok (.aload_n 0, 1) := by decide +kernel
theorem dd_Graph_addNode_13 : decode bb_Graph_addNode 13 = .ok (.getfield 9, 3) := by decide +kernel
theorem dd_Graph_addNode_16 : decode bb_Graph_addNode 16 = .ok (.aload_n 0, 1) := by decide +kernel
theorem dd_Graph_addNode_17 : decode bb_Graph_addNode 17 = .ok (.getfield 33, 3) := by decide +kernel
theorem dd_Graph_addNode_20 : decode bb_Graph_addNode 20 = .ok (.iload_n 1, 1) := by decide +kernel
theorem dd_Graph_addNode_21 : decode bb_Graph_addNode 21 = .ok (.iastore, 1) := by decide +kernel
theorem dd_Graph_addNode_22 : decode bb_Graph_addNode 22 = .ok (.aload_n 0, 1) := by decide +kernel
theorem dd_Graph_addNode_23 : decode bb_Graph_addNode 23 = .ok (.dup, 1) := by decide +kernel
theorem dd_Graph_addNode_24 : decode bb_Graph_addNode 24 = .ok (.getfield 33, 3) := by decide +kernel
theorem dd_Graph_addNode_27 : decode bb_Graph_addNode 27 = .ok (.iconst 1, 1) := by decide +kernel
theorem dd_Graph_addNode_28 : decode bb_Graph_addNode 28 = .ok (.iadd, 1) := by decide +kernel
theorem dd_Graph_addNode_29 : decode bb_Graph_addNode 29 = .ok (.putfield 33, 3) := by decide +kernel
theorem dd_Graph_addNode_32 : decode bb_Graph_addNode 32 = .ok (.aload_n 0, 1) := by decide +kernel
theorem dd_Graph_addNode_33 : decode bb_Graph_addNode 33 = .ok (.dup, 1) := by decide +kernel
theorem dd_Graph_addNode_34 : decode bb_Graph_addNode 34 = .ok (.getfield 40, 3) := by decide +kernel
theorem dd_Graph_addNode_37 : decode bb_Graph_addNode 37 = .ok (.iconst 1, 1) := by decide +kernel
theorem dd_Graph_addNode_38 : decode bb_Graph_addNode 38 = .ok (.iadd, 1) := by decide +kernel
theorem dd_Graph_addNode_39 : decode bb_Graph_addNode 39 = .ok (.putfield 40, 3) := by decide +kernel
theorem dd_Graph_addNode_42 : decode bb_Graph_addNode 42 = .ok (.aload_n 0, 1) := by decide +kernel
theorem dd_Graph_addNode_43 : decode bb_Graph_addNode 43 = .ok (.getfield 33, 3) := by decide +kernel
theorem dd_Graph_addNode_46 : decode bb_Graph_addNode 46 = .ok (.iconst 1, 1) := by decide +kernel
theorem dd_Graph_addNode_47 : decode bb_Graph_addNode 47 = .ok (.isub, 1) := by decide +kernel
theorem dd_Graph_addNode_48 : decode bb_Graph_addNode 48 = .ok (.ireturn, 1) := by decide +kernel
set_option maxRecDepth 100000 in
set_option maxHeartbeats 4000000 in
theorem c_Graph_addNode (l : Launch) {nf : Nat} {a0 : Nat} {a1 : Int32} {c : Zc} {res : Int32 × Zc} (h : f_Graph_addNode nf a0 a1 c = some res) : zM l yy_Graph_addNode ww_Graph_addNode 0 0 0 0 [.ref a0, .int a1] c (fun D cid B => zQi D cid B res.1 res.2 c.length 0) := by
  refine z_met (cc := bb_Graph_addNode) (maxL := 2) (ret := (some (.int))) (by decide +kernel) rfl (Nat.le_of_ble_eq_true rfl) ?_
  intro p e s m args below meth cd D cid B X h1 h2 h3 h4
  have X : zX p s m args cd D cid B bb_Graph_addNode 2 rr_Graph zT := X
  have H : zH s meth B c.length (some (.int)) "addNode" := ⟨h1, h2, h4, h3⟩
  unfold f_Graph_addNode at h
  show Zz p l e (zRm 0 0 0 0) s m args below meth cd _ D cid B 2 0 0 c 0 [(0, .ref a0), (1, .int a1)] []
  refine z_aload_n X dd_Graph_addNode_0 rfl 0 rfl ?_
  obtain ⟨v1, ev1, h⟩ := zb h
  refine z_get (j := 7) X dd_Graph_addNode_1 kc_0 ki_0 (by decide) km_173 (zgi_v ev1) ?_
  refine z_bipush (v := 16) X dd_Graph_addNode_4 (by decide) ?_
  refine z_icmp_lt (tgt := 12) X dd_Graph_addNode_6 (by decide) (fun q2 => ?_) (fun q2 => ?_)
  · rw [if_pos q2] at h
    refine z_aload_n X dd_Graph_addNode_12 rfl 0 rfl ?_
    obtain ⟨v3, ev3, h⟩ := zb h
    refine z_get (j := 0) X dd_Graph_addNode_13 kc_0 ki_0 (by decide) km_164 (zgr_v ev3) ?_
    refine z_aload_n X dd_Graph_addNode_16 rfl 0 rfl ?_
    obtain ⟨v4, ev4, h⟩ := zb h
    refine z_get (j := 7) X dd_Graph_addNode_17 kc_0 ki_0 (by decide) km_173 (zgi_v ev4) ?_
    refine z_iload_n X dd_Graph_addNode_20 rfl 1 rfl ?_
    obtain ⟨c5, ec5, h⟩ := zb h
    refine z_iastore X dd_Graph_addNode_21 rfl ec5 ?_
    refine z_aload_n X dd_Graph_addNode_22 rfl 0 rfl ?_
    refine z_dup X dd_Graph_addNode_23 rfl ?_
    obtain ⟨v6, ev6, h⟩ := zb h
    refine z_get (j := 7) X dd_Graph_addNode_24 kc_0 ki_0 (by decide) km_173 (zgi_v ev6) ?_
    refine z_iconst (v := 1) X dd_Graph_addNode_27 (by decide) ?_
    refine z_iadd X dd_Graph_addNode_28 ?_
    obtain ⟨c7, ec7, h⟩ := zb h
    refine z_put (j := 7) X dd_Graph_addNode_29 kc_0 ki_0 tt_Graph tk_Graph nn_Graph (by decide) km_173 rfl (tk_Graph 7 (by decide)) rfl rfl ec7 ?_
    refine z_aload_n X dd_Graph_addNode_32 rfl 0 rfl ?_
    refine z_dup X dd_Graph_addNode_33 rfl ?_
    obtain ⟨v8, ev8, h⟩ := zb h
    refine z_get (j := 9) X dd_Graph_addNode_34 kc_0 ki_0 (by decide) km_180 (zgi_v ev8) ?_
    refine z_iconst (v := 1) X dd_Graph_addNode_37 (by decide) ?_
    refine z_iadd X dd_Graph_addNode_38 ?_
    obtain ⟨c9, ec9, h⟩ := zb h
    refine z_put (j := 9) X dd_Graph_addNode_39 kc_0 ki_0 tt_Graph tk_Graph nn_Graph (by decide) km_180 rfl (tk_Graph 9 (by decide)) rfl rfl ec9 ?_
    refine z_aload_n X dd_Graph_addNode_42 rfl 0 rfl ?_
    obtain ⟨v10, ev10, h⟩ := zb h
    refine z_get (j := 7) X dd_Graph_addNode_43 kc_0 ki_0 (by decide) km_173 (zgi_v ev10) ?_
    refine z_iconst (v := 1) X dd_Graph_addNode_46 (by decide) ?_
    refine z_isub X dd_Graph_addNode_47 ?_
    obtain rfl := Option.some.inj h
    exact z_iret X H.1 H.2.1 H.2.2.1 dd_Graph_addNode_48
  · rw [if_neg q2] at h
    refine z_bipush (v := (-3)) X dd_Graph_addNode_9 (by decide) ?_
    obtain rfl := Option.some.inj h
    exact z_iret X H.1 H.2.1 H.2.2.1 dd_Graph_addNode_11
theorem dd_Graph_changeMarks_0 : decode bb_Graph_changeMarks 0 = .ok (.aload_n 0, 1) := by decide +kernel
theorem dd_Graph_changeMarks_1 : decode bb_Graph_changeMarks 1 = .ok (.getfield 9, 3) := by decide +kernel
theorem dd_Graph_changeMarks_4 : decode bb_Graph_changeMarks 4 = .ok (.iload_n 1, 1) := by decide +kernel
theorem dd_Graph_changeMarks_5 : decode bb_Graph_changeMarks 5 = .ok (.iaload, 1) := by decide +kernel
theorem dd_Graph_changeMarks_6 : decode bb_Graph_changeMarks 6 = .ok (.istore_n 3, 1) := by decide +kernel
theorem dd_Graph_changeMarks_7 : decode bb_Graph_changeMarks 7 = .ok (.aload_n 0, 1) := by decide +kernel
theorem dd_Graph_changeMarks_8 : decode bb_Graph_changeMarks 8 = .ok (.getfield 9, 3) := by decide +kernel
theorem dd_Graph_changeMarks_11 : decode bb_Graph_changeMarks 11 = .ok (.iload_n 1, 1) := by decide +kernel
theorem dd_Graph_changeMarks_12 : decode bb_Graph_changeMarks 12 = .ok (.iload_n 2, 1) := by decide +kernel
theorem dd_Graph_changeMarks_13 : decode bb_Graph_changeMarks 13 = .ok (.iastore, 1) := by decide +kernel
theorem dd_Graph_changeMarks_14 : decode bb_Graph_changeMarks 14 = .ok (.aload_n 0, 1) := by decide +kernel
theorem dd_Graph_changeMarks_15 : decode bb_Graph_changeMarks 15 = .ok (.dup, 1) := by decide +kernel
theorem dd_Graph_changeMarks_16 : decode bb_Graph_changeMarks 16 = .ok (.getfield 40, 3) := by decide +kernel
theorem dd_Graph_changeMarks_19 : decode bb_Graph_changeMarks 19 = .ok (.iconst 1, 1) := by decide +kernel
theorem dd_Graph_changeMarks_20 : decode bb_Graph_changeMarks 20 = .ok (.iadd, 1) := by decide +kernel
theorem dd_Graph_changeMarks_21 : decode bb_Graph_changeMarks 21 = .ok (.putfield 40, 3) := by decide +kernel
theorem dd_Graph_changeMarks_24 : decode bb_Graph_changeMarks 24 = .ok (.iload_n 3, 1) := by decide +kernel
theorem dd_Graph_changeMarks_25 : decode bb_Graph_changeMarks 25 = .ok (.ireturn, 1) := by decide +kernel
set_option maxRecDepth 100000 in
set_option maxHeartbeats 4000000 in
theorem c_Graph_changeMarks (l : Launch) {nf : Nat} {a0 : Nat} {a1 : Int32} {a2 : Int32} {c : Zc} {res : Int32 × Zc} (h : f_Graph_changeMarks nf a0 a1 a2 c = some res) : zM l yy_Graph_changeMarks ww_Graph_changeMarks 0 0 0 0 [.ref a0, .int a1, .int a2] c (fun D cid B => zQi D cid B res.1 res.2 c.length 0) := by
  refine z_met (cc := bb_Graph_changeMarks) (maxL := 4) (ret := (some (.int))) (by decide +kernel) rfl (Nat.le_of_ble_eq_true rfl) ?_
  intro p e s m args below meth cd D cid B X h1 h2 h3 h4
  have X : zX p s m args cd D cid B bb_Graph_changeMarks 4 rr_Graph zT := X
  have H : zH s meth B c.length (some (.int)) "changeMarks" := ⟨h1, h2, h4, h3⟩
  unfold f_Graph_changeMarks at h
  show Zz p l e (zRm 0 0 0 0) s m args below meth cd _ D cid B 4 0 0 c 0 [(0, .ref a0), (1, .int a1), (2, .int a2)] []
  refine z_aload_n X dd_Graph_changeMarks_0 rfl 0 rfl ?_
  obtain ⟨v1, ev1, h⟩ := zb h
  refine z_get (j := 0) X dd_Graph_changeMarks_1 kc_0 ki_0 (by decide) km_164 (zgr_v ev1) ?_
  refine z_iload_n X dd_Graph_changeMarks_4 rfl 1 rfl ?_
  obtain ⟨v2, ev2, h⟩ := zb h
  refine z_iaload X dd_Graph_changeMarks_5 rfl ev2 ?_
  refine z_istore_n (lv' := [(3, .int v2), (0, .ref a0), (1, .int a1), (2, .int a2)]) X dd_Graph_changeMarks_6 rfl (by decide) rfl ?_
  refine z_aload_n X dd_Graph_changeMarks_7 rfl 1 rfl ?_
  obtain ⟨v3, ev3, h⟩ := zb h
  refine z_get (j := 0) X dd_Graph_changeMarks_8 kc_0 ki_0 (by decide) km_164 (zgr_v ev3) ?_
  refine z_iload_n X dd_Graph_changeMarks_11 rfl 2 rfl ?_
  refine z_iload_n X dd_Graph_changeMarks_12 rfl 3 rfl ?_
  obtain ⟨c4, ec4, h⟩ := zb h
  refine z_iastore X dd_Graph_changeMarks_13 rfl ec4 ?_
  refine z_aload_n X dd_Graph_changeMarks_14 rfl 1 rfl ?_
  refine z_dup X dd_Graph_changeMarks_15 rfl ?_
  obtain ⟨v5, ev5, h⟩ := zb h
  refine z_get (j := 9) X dd_Graph_changeMarks_16 kc_0 ki_0 (by decide) km_180 (zgi_v ev5) ?_
  refine z_iconst (v := 1) X dd_Graph_changeMarks_19 (by decide) ?_
  refine z_iadd X dd_Graph_changeMarks_20 ?_
  obtain ⟨c6, ec6, h⟩ := zb h
  refine z_put (j := 9) X dd_Graph_changeMarks_21 kc_0 ki_0 tt_Graph tk_Graph nn_Graph (by decide) km_180 rfl (tk_Graph 9 (by decide)) rfl rfl ec6 ?_
  refine z_iload_n X dd_Graph_changeMarks_24 rfl 0 rfl ?_
  obtain rfl := Option.some.inj h
  exact z_iret X H.1 H.2.1 H.2.2.1 dd_Graph_changeMarks_25
theorem dd_Graph_changeColumn_0 : decode bb_Graph_changeColumn 0 = .ok (.aload_n 0, 1) := by decide +kernel
theorem dd_Graph_changeColumn_1 : decode bb_Graph_changeColumn 1 = .ok (.getfield 15, 3) := by decide +kernel
theorem dd_Graph_changeColumn_4 : decode bb_Graph_changeColumn 4 = .ok (.iload_n 1, 1) := by decide +kernel
theorem dd_Graph_changeColumn_5 : decode bb_Graph_changeColumn 5 = .ok (.iconst 4, 1) := by decide +kernel
theorem dd_Graph_changeColumn_6 : decode bb_Graph_changeColumn 6 = .ok (.imul, 1) := by decide +kernel
theorem dd_Graph_changeColumn_7 : decode bb_Graph_changeColumn 7 = .ok (.iload_n 2, 1) := by decide +kernel
theorem dd_Graph_changeColumn_8 : decode bb_Graph_changeColumn 8 = .ok (.iadd, 1) := by decide +kernel
theorem dd_Graph_changeColumn_9 : decode bb_Graph_changeColumn 9 = .ok (.iaload, 1) := by decide +kernel
theorem dd_Graph_changeColumn_10 : decode bb_Graph_changeColumn 10 = .ok (.istore 4, 2) := by decide +kernel
theorem dd_Graph_changeColumn_12 : decode bb_Graph_changeColumn 12 = .ok (.aload_n 0, 1) := by decide +kernel
theorem dd_Graph_changeColumn_13 : decode bb_Graph_changeColumn 13 = .ok (.getfield 15, 3) := by decide +kernel
theorem dd_Graph_changeColumn_16 : decode bb_Graph_changeColumn 16 = .ok (.iload_n 1, 1) := by decide +kernel
theorem dd_Graph_changeColumn_17 : decode bb_Graph_changeColumn 17 = .ok (.iconst 4, 1) := by decide +kernel
theorem dd_Graph_changeColumn_18 : decode bb_Graph_changeColumn 18 = .ok (.imul, 1) := by decide +kernel
theorem dd_Graph_changeColumn_19 : decode bb_Graph_changeColumn 19 = .ok (.iload_n 2, 1) := by decide +kernel
theorem dd_Graph_changeColumn_20 : decode bb_Graph_changeColumn 20 = .ok (.iadd, 1) := by decide +kernel
theorem dd_Graph_changeColumn_21 : decode bb_Graph_changeColumn 21 = .ok (.iload_n 3, 1) := by decide +kernel
theorem dd_Graph_changeColumn_22 : decode bb_Graph_changeColumn 22 = .ok (.iastore, 1) := by decide +kernel
theorem dd_Graph_changeColumn_23 : decode bb_Graph_changeColumn 23 = .ok (.aload_n 0, 1) := by decide +kernel
theorem dd_Graph_changeColumn_24 : decode bb_Graph_changeColumn 24 = .ok (.dup, 1) := by decide +kernel
theorem dd_Graph_changeColumn_25 : decode bb_Graph_changeColumn 25 = .ok (.getfield 40, 3) := by decide +kernel
theorem dd_Graph_changeColumn_28 : decode bb_Graph_changeColumn 28 = .ok (.iconst 1, 1) := by decide +kernel
theorem dd_Graph_changeColumn_29 : decode bb_Graph_changeColumn 29 = .ok (.iadd, 1) := by decide +kernel
theorem dd_Graph_changeColumn_30 : decode bb_Graph_changeColumn 30 = .ok (.putfield 40, 3) := by decide +kernel
theorem dd_Graph_changeColumn_33 : decode bb_Graph_changeColumn 33 = .ok (.iload 4, 2) := by decide +kernel
theorem dd_Graph_changeColumn_35 : decode bb_Graph_changeColumn 35 = .ok (.ireturn, 1) := by decide +kernel
set_option maxRecDepth 100000 in
set_option maxHeartbeats 4000000 in
theorem c_Graph_changeColumn (l : Launch) {nf : Nat} {a0 : Nat} {a1 : Int32} {a2 : Int32} {a3 : Int32} {c : Zc} {res : Int32 × Zc} (h : f_Graph_changeColumn nf a0 a1 a2 a3 c = some res) : zM l yy_Graph_changeColumn ww_Graph_changeColumn 0 0 0 0 [.ref a0, .int a1, .int a2, .int a3] c (fun D cid B => zQi D cid B res.1 res.2 c.length 0) := by
  refine z_met (cc := bb_Graph_changeColumn) (maxL := 5) (ret := (some (.int))) (by decide +kernel) rfl (Nat.le_of_ble_eq_true rfl) ?_
  intro p e s m args below meth cd D cid B X h1 h2 h3 h4
  have X : zX p s m args cd D cid B bb_Graph_changeColumn 5 rr_Graph zT := X
  have H : zH s meth B c.length (some (.int)) "changeColumn" := ⟨h1, h2, h4, h3⟩
  unfold f_Graph_changeColumn at h
  show Zz p l e (zRm 0 0 0 0) s m args below meth cd _ D cid B 5 0 0 c 0 [(0, .ref a0), (1, .int a1), (2, .int a2), (3, .int a3)] []
  refine z_aload_n X dd_Graph_changeColumn_0 rfl 0 rfl ?_
  obtain ⟨v1, ev1, h⟩ := zb h
  refine z_get (j := 1) X dd_Graph_changeColumn_1 kc_0 ki_0 (by decide) km_165 (zgr_v ev1) ?_
  refine z_iload_n X dd_Graph_changeColumn_4 rfl 1 rfl ?_
  refine z_iconst (v := 4) X dd_Graph_changeColumn_5 (by decide) ?_
  refine z_imul X dd_Graph_changeColumn_6 ?_
  refine z_iload_n X dd_Graph_changeColumn_7 rfl 2 rfl ?_
  refine z_iadd X dd_Graph_changeColumn_8 ?_
  obtain ⟨v2, ev2, h⟩ := zb h
  refine z_iaload X dd_Graph_changeColumn_9 rfl ev2 ?_
  refine z_istore (lv' := [(4, .int v2), (0, .ref a0), (1, .int a1), (2, .int a2), (3, .int a3)]) X dd_Graph_changeColumn_10 (by decide) rfl ?_
  refine z_aload_n X dd_Graph_changeColumn_12 rfl 1 rfl ?_
  obtain ⟨v3, ev3, h⟩ := zb h
  refine z_get (j := 1) X dd_Graph_changeColumn_13 kc_0 ki_0 (by decide) km_165 (zgr_v ev3) ?_
  refine z_iload_n X dd_Graph_changeColumn_16 rfl 2 rfl ?_
  refine z_iconst (v := 4) X dd_Graph_changeColumn_17 (by decide) ?_
  refine z_imul X dd_Graph_changeColumn_18 ?_
  refine z_iload_n X dd_Graph_changeColumn_19 rfl 3 rfl ?_
  refine z_iadd X dd_Graph_changeColumn_20 ?_
  refine z_iload_n X dd_Graph_changeColumn_21 rfl 4 rfl ?_
  obtain ⟨c4, ec4, h⟩ := zb h
  refine z_iastore X dd_Graph_changeColumn_22 rfl ec4 ?_
  refine z_aload_n X dd_Graph_changeColumn_23 rfl 1 rfl ?_
  refine z_dup X dd_Graph_changeColumn_24 rfl ?_
  obtain ⟨v5, ev5, h⟩ := zb h
  refine z_get (j := 9) X dd_Graph_changeColumn_25 kc_0 ki_0 (by decide) km_180 (zgi_v ev5) ?_
  refine z_iconst (v := 1) X dd_Graph_changeColumn_28 (by decide) ?_
  refine z_iadd X dd_Graph_changeColumn_29 ?_
  obtain ⟨c6, ec6, h⟩ := zb h
  refine z_put (j := 9) X dd_Graph_changeColumn_30 kc_0 ki_0 tt_Graph tk_Graph nn_Graph (by decide) km_180 rfl (tk_Graph 9 (by decide)) rfl rfl ec6 ?_
  refine z_iload X dd_Graph_changeColumn_33 0 rfl ?_
  obtain rfl := Option.some.inj h
  exact z_iret X H.1 H.2.1 H.2.2.1 dd_Graph_changeColumn_35
theorem dd_Graph_addArc_0 : decode bb_Graph_addArc 0 = .ok (.iconst 0, 1) := by decide +kernel
theorem dd_Graph_addArc_1 : decode bb_Graph_addArc 1 = .ok (.istore 5, 2) := by decide +kernel
theorem dd_Graph_addArc_3 : decode bb_Graph_addArc 3 = .ok (.iload 5, 2) := by decide +kernel
theorem dd_Graph_addArc_5 : decode bb_Graph_addArc 5 = .ok (.bipush 100, 2) := by decide +kernel
theorem dd_Graph_addArc_7 : decode bb_Graph_addArc 7 = .ok (.if_icmp .ge 76, 3) := by decide +kernel
theorem dd_Graph_addArc_10 : decode bb_Graph_addArc 10 = .ok (.aload_n 0, 1) := by decide +kernel
theorem dd_Graph_addArc_11 : decode bb_Graph_addArc 11 = .ok (.getfield 24, 3) := by decide +kernel
theorem dd_Graph_addArc_14 : decode bb_Graph_addArc 14 = .ok (.iload 5, 2) := by decide +kernel
theorem dd_Graph_addArc_16 : decode bb_Graph_addArc 16 = .ok (.iaload, 1) := by decide +kernel
theorem dd_Graph_addArc_17 : decode bb_Graph_addArc 17 = .ok (.iconst (-1), 1) := by decide +kernel
theorem dd_Graph_addArc_18 : decode bb_Graph_addArc 18 = .ok (.if_icmp .ne 59, 3) := by decide +kernel
theorem dd_Graph_addArc_21 : decode bb_Graph_addArc 21 = .ok (.aload_n 0, 1) := by decide +kernel
theorem dd_Graph_addArc_22 : decode bb_Graph_addArc 22 = .ok (.getfield 18, 3) := by decide +kernel
theorem dd_Graph_addArc_25 : decode bb_Graph_addArc 25 = .ok (.iload 5, 2) := by decide +kernel
theorem dd_Graph_addArc_27 : decode bb_Graph_addArc 27 = .ok (.iload_n 1, 1) := by decide +kernel
theorem dd_Graph_addArc_28 : decode bb_Graph_addArc 28 = .ok (.iastore, 1) := by decide +kernel
theorem dd_Graph_addArc_29 : decode bb_Graph_addArc 29 = .ok (.aload_n 0, 1) := by decide +kernel
theorem dd_Graph_addArc_30 : decode bb_Graph_addArc 30 = .ok (.getfield 21, 3) := by decide +kernel
theorem dd_Graph_addArc_33 : decode bb_Graph_addArc 33 = .ok (.iload 5, 2) := by decide +kernel
theorem dd_Graph_addArc_35 : decode bb_Graph_addArc 35 = .ok (.iload_n 2, 1) := by decide +kernel
theorem dd_Graph_addArc_36 : decode bb_Graph_addArc 36 = .ok (.iastore, 1) := by decide +kernel
theorem dd_Graph_addArc_37 : decode bb_Graph_addArc 37 = .ok (.aload_n 0, 1) := by decide +kernel
theorem dd_Graph_addArc_38 : decode bb_Graph_addArc 38 = .ok (.getfield 24, 3) := by decide +kernel
theorem dd_Graph_addArc_41 : decode bb_Graph_addArc 41 = .ok (.iload 5, 2) := by decide +kernel
theorem dd_Graph_addArc_43 : decode bb_Graph_addArc 43 = .ok (.iload_n 3, 1) := by decide +kernel
theorem dd_Graph_addArc_44 : decode bb_Graph_addArc 44 = .ok (.iastore, 1) := by decide +kernel
theorem dd_Graph_addArc_45 : decode bb_Graph_addArc 45 = .ok (.aload_n 0, 1) := by decide +kernel
theorem dd_Graph_addArc_46 : decode bb_Graph_addArc 46 = .ok (.getfield 27, 3) := by decide +kernel
theorem dd_Graph_addArc_49 : decode bb_Graph_addArc 49 = .ok (.iload 5, 2) := by decide +kernel
theorem dd_Graph_addArc_51 : decode bb_Graph_addArc 51 = .ok (.iload 4, 2) := by decide +kernel
theorem dd_Graph_addArc_53 : decode bb_Graph_addArc 53 = .ok (.iastore, 1) := by decide +kernel
theorem dd_Graph_addArc_54 : decode bb_Graph_addArc 54 = .ok (.aload_n 0, 1) := by decide +kernel
theorem dd_Graph_addArc_55 : decode bb_Graph_addArc 55 = .ok (.dup, 1) := by decide +kernel
theorem dd_Graph_addArc_56 : decode bb_Graph_addArc 56 = .ok (.getfield 37, 3) := by decide +kernel
theorem dd_Graph_addArc_59 : decode bb_Graph_addArc 59 = .ok (.iconst 1, 1) := by decide +kernel
theorem dd_Graph_addArc_60 : decode bb_Graph_addArc 60 = .ok (.iadd, 1) := by decide +kernel
theorem dd_Graph_addArc_61 : decode bb_Graph_addArc 61 = .ok (.putfield 37, 3) := by decide +kernel
theorem dd_Graph_addArc_64 : decode bb_Graph_addArc 64 = .ok (.aload_n 0, 1) := by decide +kernel
theorem dd_Graph_addArc_65 : decode bb_Graph_addArc 65 = .ok (.dup, 1) := by decide +kernel
theorem dd_Graph_addArc_66 : decode bb_Graph_addArc 66 = .ok (.getfield 40, 3) := by decide +kernel
theorem dd_Graph_addArc_69 : decode bb_Graph_addArc 69 = .ok (.iconst 1, 1) := by decide +kernel
theorem dd_Graph_addArc_70 : decode bb_Graph_addArc 70 = .ok (.iadd, 1) := by decide +kernel
theorem dd_Graph_addArc_71 : decode bb_Graph_addArc 71 = .ok (.putfield 40, 3) := by decide +kernel
theorem dd_Graph_addArc_74 : decode bb_Graph_addArc 74 = .ok (.iload 5, 2) := by decide +kernel
theorem dd_Graph_addArc_76 : decode bb_Graph_addArc 76 = .ok (.ireturn, 1) := by decide +kernel
theorem dd_Graph_addArc_77 : decode bb_Graph_addArc 77 = .ok (.iinc 5 1, 3) := by decide +kernel
theorem dd_Graph_addArc_80 : decode bb_Graph_addArc 80 = .ok (.goto (-77), 3) := by decide +kernel
theorem dd_Graph_addArc_83 : decode bb_Graph_addArc 83 = .ok (.bipush (-3), 2) := by decide +kernel
theorem dd_Graph_addArc_85 : decode bb_Graph_addArc 85 = .ok (.ireturn, 1) := by decide +kernel
set_option maxRecDepth 100000 in
set_option maxHeartbeats 4000000 in
theorem u_Graph_addArc_3  (X : zX p s m args cd D cid B bb_Graph_addArc 6 rr_Graph zT) (H : zH s meth B n0 (some (.int)) "addArc") {nf : Nat} {x0 : Nat} {x1 : Int32} {x2 : Int32} {x3 : Int32} {x4 : Int32} {x5 : Int32} {c : Zc} {r : (Nat × Int32 × Int32 × Int32 × Int32 × Int32 × Zc) ⊕ ((Nat × Int32 × Int32 × Int32 × Int32 × Int32 × Zc) ⊕ (Zc))} (h : g_Graph_addArc_3 nf x0 x1 x2 x3 x4 x5 c = some r) (k0 : ∀ a, r = .inl a → (fun a : Nat × Int32 × Int32 × Int32 × Int32 × Int32 × Zc => Zz p l e (zRm 0 0 0 0) s m args below meth cd Q D cid B 6 0 0 a.2.2.2.2.2.2 3 [(0, .ref a.1), (1, .int a.2.1), (2, .int a.2.2.1), (3, .int a.2.2.2.1), (4, .int a.2.2.2.2.1), (5, .int a.2.2.2.2.2.1)] []) a) (k1 : ∀ b, r = .inr b → (fun b : (Nat × Int32 × Int32 × Int32 × Int32 × Int32 × Zc) ⊕ (Zc) => Sum.elim (fun b => Zz p l e (zRm 0 0 0 0) s m args below meth cd Q D cid B 6 0 0 b.2.2.2.2.2.2 21 [(0, .ref b.1), (1, .int b.2.1), (2, .int b.2.2.1), (3, .int b.2.2.2.1), (4, .int b.2.2.2.2.1), (5, .int b.2.2.2.2.2.1)] []) (fun b => Zz p l e (zRm 0 0 0 0) s m args below meth cd Q D cid B 6 0 0 b 83 [] []) b) b) : Zz p l e (zRm 0 0 0 0) s m args below meth cd Q D cid B 6 0 0 c 3 [(0, .ref x0), (1, .int x1), (2, .int x2), (3, .int x3), (4, .int x4), (5, .int x5)] [] := by
  unfold g_Graph_addArc_3 at h
  refine z_iload X dd_Graph_addArc_3 5 rfl ?_
  refine z_bipush (v := 100) X dd_Graph_addArc_5 (by decide) ?_
  refine z_icmp_ge (tgt := 83) X dd_Graph_addArc_7 (by decide) (fun q1 => ?_) (fun q1 => ?_)
  · rw [if_pos q1] at h
    refine z_sub [] rfl ?_
    obtain rfl := Option.some.inj h
    exact k1 _ rfl
  · rw [if_neg q1] at h
    refine z_aload_n X dd_Graph_addArc_10 rfl 0 rfl ?_
    obtain ⟨v2, ev2, h⟩ := zb h
    refine z_get (j := 4) X dd_Graph_addArc_11 kc_0 ki_0 (by decide) km_169 (zgr_v ev2) ?_
    refine z_iload X dd_Graph_addArc_14 5 rfl ?_
    obtain ⟨v3, ev3, h⟩ := zb h
    refine z_iaload X dd_Graph_addArc_16 rfl ev3 ?_
    refine z_iconst (v := (-1)) X dd_Graph_addArc_17 (by decide) ?_
    refine z_icmp_ne (tgt := 77) X dd_Graph_addArc_18 (by decide) (fun q4 => ?_) (fun q4 => ?_)
    · rw [if_neg q4] at h
      refine z_iinc (v := (x5 + 1)) (lv' := [(5, .int (x5 + 1)), (0, .ref x0), (1, .int x1), (2, .int x2), (3, .int x3), (4, .int x4)]) X dd_Graph_addArc_77 5 rfl rfl (by decide) rfl ?_
      refine z_goto (tgt := 3) X dd_Graph_addArc_80 (by decide) ?_
      refine z_sub [1, 2, 3, 4, 5, 0] rfl ?_
      obtain rfl := Option.some.inj h
      exact k0 _ rfl
    · rw [if_pos q4] at h
      obtain rfl := Option.some.inj h
      exact k1 _ rfl
set_option maxRecDepth 100000 in
set_option maxHeartbeats 4000000 in
theorem t_Graph_addArc_3  (X : zX p s m args cd D cid B bb_Graph_addArc 6 rr_Graph zT) (H : zH s meth B n0 (some (.int)) "addArc") {nf : Nat} {x0 : Nat} {x1 : Int32} {x2 : Int32} {x3 : Int32} {x4 : Int32} {x5 : Int32} {c : Zc} {res : Int32 × Zc} (h : f_Graph_addArc_3 nf x0 x1 x2 x3 x4 x5 c = some res) : Zz p l e (zRm 0 0 0 0) s m args below meth cd (MQ below (zQi D cid B res.1 res.2 n0 0) args s 0 0 (fun q => B ≤ q)) D cid B 6 0 0 c 3 [(0, .ref x0), (1, .int x1), (2, .int x2), (3, .int x3), (4, .int x4), (5, .int x5)] [] := by
  unfold f_Graph_addArc_3 at h
  obtain ⟨b, eb, h⟩ := zb h
  refine zlp_ok (P := fun a : Nat × Int32 × Int32 × Int32 × Int32 × Int32 × Zc => Zz p l e (zRm 0 0 0 0) s m args below meth cd _ D cid B 6 0 0 a.2.2.2.2.2.2 3 [(0, .ref a.1), (1, .int a.2.1), (2, .int a.2.2.1), (3, .int a.2.2.2.1), (4, .int a.2.2.2.2.1), (5, .int a.2.2.2.2.2.1)] []) (G := fun b : (Nat × Int32 × Int32 × Int32 × Int32 × Int32 × Zc) ⊕ (Zc) => Sum.elim (fun b => Zz p l e (zRm 0 0 0 0) s m args below meth cd _ D cid B 6 0 0 b.2.2.2.2.2.2 21 [(0, .ref b.1), (1, .int b.2.1), (2, .int b.2.2.1), (3, .int b.2.2.2.1), (4, .int b.2.2.2.2.1), (5, .int b.2.2.2.2.2.1)] []) (fun b => Zz p l e (zRm 0 0 0 0) s m args below meth cd _ D cid B 6 0 0 b 83 [] []) b) (fun a r ha k0 k1 => u_Graph_addArc_3 X H ha k0 k1) nf _ b eb ?_
  rcases b with b | b
  · simp only [Sum.elim_inl] at h ⊢
    refine z_aload_n X dd_Graph_addArc_21 rfl 0 rfl ?_
    obtain ⟨v5, ev5, h⟩ := zb h
    refine z_get (j := 2) X dd_Graph_addArc_22 kc_0 ki_0 (by decide) km_167 (zgr_v ev5) ?_
    refine z_iload X dd_Graph_addArc_25 5 rfl ?_
    refine z_iload_n X dd_Graph_addArc_27 rfl 1 rfl ?_
    obtain ⟨c6, ec6, h⟩ := zb h
    refine z_iastore X dd_Graph_addArc_28 rfl ec6 ?_
    refine z_aload_n X dd_Graph_addArc_29 rfl 0 rfl ?_
    obtain ⟨v7, ev7, h⟩ := zb h
    refine z_get (j := 3) X dd_Graph_addArc_30 kc_0 ki_0 (by decide) km_168 (zgr_v ev7) ?_
    refine z_iload X dd_Graph_addArc_33 5 rfl ?_
    refine z_iload_n X dd_Graph_addArc_35 rfl 2 rfl ?_
    obtain ⟨c8, ec8, h⟩ := zb h
    refine z_iastore X dd_Graph_addArc_36 rfl ec8 ?_
    refine z_aload_n X dd_Graph_addArc_37 rfl 0 rfl ?_
    obtain ⟨v9, ev9, h⟩ := zb h
    refine z_get (j := 4) X dd_Graph_addArc_38 kc_0 ki_0 (by decide) km_169 (zgr_v ev9) ?_
    refine z_iload X dd_Graph_addArc_41 5 rfl ?_
    refine z_iload_n X dd_Graph_addArc_43 rfl 3 rfl ?_
    obtain ⟨c10, ec10, h⟩ := zb h
    refine z_iastore X dd_Graph_addArc_44 rfl ec10 ?_
    refine z_aload_n X dd_Graph_addArc_45 rfl 0 rfl ?_
    obtain ⟨v11, ev11, h⟩ := zb h
    refine z_get (j := 5) X dd_Graph_addArc_46 kc_0 ki_0 (by decide) km_170 (zgr_v ev11) ?_
    refine z_iload X dd_Graph_addArc_49 5 rfl ?_
    refine z_iload X dd_Graph_addArc_51 4 rfl ?_
    obtain ⟨c12, ec12, h⟩ := zb h
    refine z_iastore X dd_Graph_addArc_53 rfl ec12 ?_
    refine z_aload_n X dd_Graph_addArc_54 rfl 0 rfl ?_
    refine z_dup X dd_Graph_addArc_55 rfl ?_
    obtain ⟨v13, ev13, h⟩ := zb h
    refine z_get (j := 8) X dd_Graph_addArc_56 kc_0 ki_0 (by decide) km_178 (zgi_v ev13) ?_
    refine z_iconst (v := 1) X dd_Graph_addArc_59 (by decide) ?_
    refine z_iadd X dd_Graph_addArc_60 ?_
    obtain ⟨c14, ec14, h⟩ := zb h
    refine z_put (j := 8) X dd_Graph_addArc_61 kc_0 ki_0 tt_Graph tk_Graph nn_Graph (by decide) km_178 rfl (tk_Graph 8 (by decide)) rfl rfl ec14 ?_
    refine z_aload_n X dd_Graph_addArc_64 rfl 0 rfl ?_
    refine z_dup X dd_Graph_addArc_65 rfl ?_
    obtain ⟨v15, ev15, h⟩ := zb h
    refine z_get (j := 9) X dd_Graph_addArc_66 kc_0 ki_0 (by decide) km_180 (zgi_v ev15) ?_
    refine z_iconst (v := 1) X dd_Graph_addArc_69 (by decide) ?_
    refine z_iadd X dd_Graph_addArc_70 ?_
    obtain ⟨c16, ec16, h⟩ := zb h
    refine z_put (j := 9) X dd_Graph_addArc_71 kc_0 ki_0 tt_Graph tk_Graph nn_Graph (by decide) km_180 rfl (tk_Graph 9 (by decide)) rfl rfl ec16 ?_
    refine z_iload X dd_Graph_addArc_74 5 rfl ?_
    obtain rfl := Option.some.inj h
    exact z_iret X H.1 H.2.1 H.2.2.1 dd_Graph_addArc_76
  · simp only [Sum.elim_inr] at h ⊢
    refine z_bipush (v := (-3)) X dd_Graph_addArc_83 (by decide) ?_
    obtain rfl := Option.some.inj h
    exact z_iret X H.1 H.2.1 H.2.2.1 dd_Graph_addArc_85
set_option maxRecDepth 100000 in
set_option maxHeartbeats 4000000 in
theorem c_Graph_addArc (l : Launch) {nf : Nat} {a0 : Nat} {a1 : Int32} {a2 : Int32} {a3 : Int32} {a4 : Int32} {c : Zc} {res : Int32 × Zc} (h : f_Graph_addArc nf a0 a1 a2 a3 a4 c = some res) : zM l yy_Graph_addArc ww_Graph_addArc 0 0 0 0 [.ref a0, .int a1, .int a2, .int a3, .int a4] c (fun D cid B => zQi D cid B res.1 res.2 c.length 0) := by
  refine z_met (cc := bb_Graph_addArc) (maxL := 6) (ret := (some (.int))) (by decide +kernel) rfl (Nat.le_of_ble_eq_true rfl) ?_
  intro p e s m args below meth cd D cid B X h1 h2 h3 h4
  have X : zX p s m args cd D cid B bb_Graph_addArc 6 rr_Graph zT := X
  have H : zH s meth B c.length (some (.int)) "addArc" := ⟨h1, h2, h4, h3⟩
  unfold f_Graph_addArc at h
  show Zz p l e (zRm 0 0 0 0) s m args below meth cd _ D cid B 6 0 0 c 0 [(0, .ref a0), (1, .int a1), (2, .int a2), (3, .int a3), (4, .int a4)] []
  refine z_iconst (v := 0) X dd_Graph_addArc_0 (by decide) ?_
  refine z_istore (lv' := [(5, .int 0), (0, .ref a0), (1, .int a1), (2, .int a2), (3, .int a3), (4, .int a4)]) X dd_Graph_addArc_1 (by decide) rfl ?_
  refine z_sub [1, 2, 3, 4, 5, 0] rfl ?_
  exact t_Graph_addArc_3 X H h
theorem dd_Graph_removeArc_0 : decode bb_Graph_removeArc 0 = .ok (.aload_n 0, 1) := by decide +kernel
theorem dd_Graph_removeArc_1 : decode bb_Graph_removeArc 1 = .ok (.getfield 24, 3) := by decide +kernel
theorem dd_Graph_removeArc_4 : decode bb_Graph_removeArc 4 = .ok (.iload_n 1, 1) := by decide +kernel
theorem dd_Graph_removeArc_5 : decode bb_Graph_removeArc 5 = .ok (.iconst (-1), 1) := by decide +kernel
theorem dd_Graph_removeArc_6 : decode bb_Graph_removeArc 6 = .ok (.iastore, 1) := by decide +kernel
theorem dd_Graph_removeArc_7 : decode bb_Graph_removeArc 7 = .ok (.aload_n 0, 1) := by decide +kernel
theorem dd_Graph_removeArc_8 : decode bb_Graph_removeArc 8 = .ok (.dup, 1) := by decide +kernel
theorem dd_Graph_removeArc_9 : decode bb_Graph_removeArc 9 = .ok (.getfield 37, 3) := by decide +kernel
theorem dd_Graph_removeArc_12 : decode bb_Graph_removeArc 12 = .ok (.iconst 1, 1) := by decide +kernel
theorem dd_Graph_removeArc_13 : decode bb_Graph_removeArc 13 = .ok (.isub, 1) := by decide +kernel
theorem dd_Graph_removeArc_14 : decode bb_Graph_removeArc 14 = .ok (.putfield 37, 3) := by decide +kernel
theorem dd_Graph_removeArc_17 : decode bb_Graph_removeArc 17 = .ok (.aload_n 0, 1) := by decide +kernel
theorem dd_Graph_removeArc_18 : decode bb_Graph_removeArc 18 = .ok (.dup, 1) := by decide +kernel
theorem dd_Graph_removeArc_19 : decode bb_Graph_removeArc 19 = .ok (.getfield 40, 3) := by decide +kernel
theorem dd_Graph_removeArc_22 : decode bb_Graph_removeArc 22 = .ok (.iconst 1, 1) := by decide +kernel
theorem dd_Graph_removeArc_23 : decode bb_Graph_removeArc 23 = .ok (.iadd, 1) := by decide +kernel
theorem dd_Graph_removeArc_24 : decode bb_Graph_removeArc 24 = .ok (.putfield 40, 3) := by decide +kernel
theorem dd_Graph_removeArc_27 : decode bb_Graph_removeArc 27 = .ok (.return_, 1) := by decide +kernel
set_option maxRecDepth 100000 in
set_option maxHeartbeats 4000000 in
theorem c_Graph_removeArc (l : Launch) {nf : Nat} {a0 : Nat} {a1 : Int32} {c : Zc} {res : Zc} (h : f_Graph_removeArc nf a0 a1 c = some res) : zM l yy_Graph_removeArc ww_Graph_removeArc 0 0 0 0 [.ref a0, .int a1] c (fun D cid B => zQv D cid B res c.length 0) := by
  refine z_met (cc := bb_Graph_removeArc) (maxL := 2) (ret := none) (by decide +kernel) rfl (Nat.le_of_ble_eq_true rfl) ?_
  intro p e s m args below meth cd D cid B X h1 h2 h3 h4
  have X : zX p s m args cd D cid B bb_Graph_removeArc 2 rr_Graph zT := X
  have H : zH s meth B c.length none "removeArc" := ⟨h1, h2, h4, h3⟩
  unfold f_Graph_removeArc at h
  show Zz p l e (zRm 0 0 0 0) s m args below meth cd _ D cid B 2 0 0 c 0 [(0, .ref a0), (1, .int a1)] []
  refine z_aload_n X dd_Graph_removeArc_0 rfl 0 rfl ?_
  obtain ⟨v1, ev1, h⟩ := zb h
  refine z_get (j := 4) X dd_Graph_removeArc_1 kc_0 ki_0 (by decide) km_169 (zgr_v ev1) ?_
  refine z_iload_n X dd_Graph_removeArc_4 rfl 1 rfl ?_
  refine z_iconst (v := (-1)) X dd_Graph_removeArc_5 (by decide) ?_
  obtain ⟨c2, ec2, h⟩ := zb h
  refine z_iastore X dd_Graph_removeArc_6 rfl ec2 ?_
  refine z_aload_n X dd_Graph_removeArc_7 rfl 0 rfl ?_
  refine z_dup X dd_Graph_removeArc_8 rfl ?_
  obtain ⟨v3, ev3, h⟩ := zb h
  refine z_get (j := 8) X dd_Graph_removeArc_9 kc_0 ki_0 (by decide) km_178 (zgi_v ev3) ?_
  refine z_iconst (v := 1) X dd_Graph_removeArc_12 (by decide) ?_
  refine z_isub X dd_Graph_removeArc_13 ?_
  obtain ⟨c4, ec4, h⟩ := zb h
  refine z_put (j := 8) X dd_Graph_removeArc_14 kc_0 ki_0 tt_Graph tk_Graph nn_Graph (by decide) km_178 rfl (tk_Graph 8 (by decide)) rfl rfl ec4 ?_
  refine z_aload_n X dd_Graph_removeArc_17 rfl 0 rfl ?_
  refine z_dup X dd_Graph_removeArc_18 rfl ?_
  obtain ⟨v5, ev5, h⟩ := zb h
  refine z_get (j := 9) X dd_Graph_removeArc_19 kc_0 ki_0 (by decide) km_180 (zgi_v ev5) ?_
  refine z_iconst (v := 1) X dd_Graph_removeArc_22 (by decide) ?_
  refine z_iadd X dd_Graph_removeArc_23 ?_
  obtain ⟨c6, ec6, h⟩ := zb h
  refine z_put (j := 9) X dd_Graph_removeArc_24 kc_0 ki_0 tt_Graph tk_Graph nn_Graph (by decide) km_180 rfl (tk_Graph 9 (by decide)) rfl rfl ec6 ?_
  obtain rfl := Option.some.inj h
  exact z_vret X H.1 H.2.1 H.2.2.1 dd_Graph_removeArc_27
theorem dd_Graph_strip_0 : decode bb_Graph_strip 0 = .ok (.iconst 0, 1) := by decide +kernel
theorem dd_Graph_strip_1 : decode bb_Graph_strip 1 = .ok (.istore_n 2, 1) := by decide +kernel
theorem dd_Graph_strip_2 : decode bb_Graph_strip 2 = .ok (.iconst 0, 1) := by decide +kernel
theorem dd_Graph_strip_3 : decode bb_Graph_strip 3 = .ok (.istore_n 3, 1) := by decide +kernel
theorem dd_Graph_strip_4 : decode bb_Graph_strip 4 = .ok (.iload_n 3, 1) := by decide +kernel
theorem dd_Graph_strip_5 : decode bb_Graph_strip 5 = .ok (.bipush 100, 2) := by decide +kernel
theorem dd_Graph_strip_7 : decode bb_Graph_strip 7 = .ok (.if_icmp .ge 47, 3) := by decide +kernel
theorem dd_Graph_strip_10 : decode bb_Graph_strip 10 = .ok (.aload_n 0, 1) := by decide +kernel
theorem dd_Graph_strip_11 : decode bb_Graph_strip 11 = .ok (.getfield 24, 3) := by decide +kernel
theorem dd_Graph_strip_14 : decode bb_Graph_strip 14 = .ok (.iload_n 3, 1) := by decide +kernel
theorem dd_Graph_strip_15 : decode bb_Graph_strip 15 = .ok (.iaload, 1) := by decide +kernel
theorem dd_Graph_strip_16 : decode bb_Graph_strip 16 = .ok (.iconst (-1), 1) := by decide +kernel
theorem dd_Graph_strip_17 : decode bb_Graph_strip 17 = .ok (.if_icmp .eq 31, 3) := by decide +kernel
theorem dd_Graph_strip_20 : decode bb_Graph_strip 20 = .ok (.aload_n 0, 1) := by decide +kernel
theorem dd_Graph_strip_21 : decode bb_Graph_strip 21 = .ok (.getfield 18, 3) := by decide +kernel
theorem dd_Graph_strip_24 : decode bb_Graph_strip 24 = .ok (.iload_n 3, 1) := by decide +kernel
theorem dd_Graph_strip_25 : decode bb_Graph_strip 25 = .ok (.iaload, 1) := by decide +kernel
theorem dd_Graph_strip_26 : decode bb_Graph_strip 26 = .ok (.iload_n 1, 1) := by decide +kernel
theorem dd_Graph_strip_27 : decode bb_Graph_strip 27 = .ok (.if_icmp .eq 13, 3) := by decide +kernel
theorem dd_Graph_strip_30 : decode bb_Graph_strip 30 = .ok (.aload_n 0, 1) := by decide +kernel
theorem dd_Graph_strip_31 : decode bb_Graph_strip 31 = .ok (.getfield 21, 3) := by decide +kernel
theorem dd_Graph_strip_34 : decode bb_Graph_strip 34 = .ok (.iload_n 3, 1) := by decide +kernel
theorem dd_Graph_strip_35 : decode bb_Graph_strip 35 = .ok (.iaload, 1) := by decide +kernel
theorem dd_Graph_strip_36 : decode bb_Graph_strip 36 = .ok (.iload_n 1, 1) := by decide +kernel
theorem dd_Graph_strip_37 : decode bb_Graph_strip 37 = .ok (.if_icmp .ne 11, 3) := by decide +kernel
theorem dd_Graph_strip_40 : decode bb_Graph_strip 40 = .ok (.aload_n 0, 1) := by decide +kernel
theorem dd_Graph_strip_41 : decode bb_Graph_strip 41 = .ok (.iload_n 3, 1) := by decide +kernel
theorem dd_Graph_strip_42 : decode bb_Graph_strip 42 = .ok (.invokevirtual 49, 3) := by decide +kernel
theorem dd_Graph_strip_45 : decode bb_Graph_strip 45 = .ok (.iinc 2 1, 3) := by decide +kernel
theorem dd_Graph_strip_48 : decode bb_Graph_strip 48 = .ok (.iinc 3 1, 3) := by decide +kernel
theorem dd_Graph_strip_51 : decode bb_Graph_strip 51 = .ok (.goto (-47), 3) := by decide +kernel
theorem dd_Graph_strip_54 : decode bb_Graph_strip 54 = .ok (.aload_n 0, 1) := by decide +kernel
theorem dd_Graph_strip_55 : decode bb_Graph_strip 55 = .ok (.getfield 9, 3) := by decide +kernel
theorem dd_Graph_strip_58 : decode bb_Graph_strip 58 = .ok (.iload_n 1, 1) := by decide +kernel
theorem dd_Graph_strip_59 : decode bb_Graph_strip 59 = .ok (.iconst 0, 1) := by decide +kernel
theorem dd_Graph_strip_60 : decode bb_Graph_strip 60 = .ok (.iastore, 1) := by decide +kernel
theorem dd_Graph_strip_61 : decode bb_Graph_strip 61 = .ok (.iconst 0, 1) := by decide +kernel
theorem dd_Graph_strip_62 : decode bb_Graph_strip 62 = .ok (.istore_n 3, 1) := by decide +kernel
theorem dd_Graph_strip_63 : decode bb_Graph_strip 63 = .ok (.iload_n 3, 1) := by decide +kernel
theorem dd_Graph_strip_64 : decode bb_Graph_strip 64 = .ok (.iconst 4, 1) := by decide +kernel
theorem dd_Graph_strip_65 : decode bb_Graph_strip 65 = .ok (.if_icmp .ge 20, 3) := by decide +kernel
theorem dd_Graph_strip_68 : decode bb_Graph_strip 68 = .ok (.aload_n 0, 1) := by decide +kernel
theorem dd_Graph_strip_69 : decode bb_Graph_strip 69 = .ok (.getfield 15, 3) := by decide +kernel
theorem dd_Graph_strip_72 : decode bb_Graph_strip 72 = .ok (.iload_n 1, 1) := by decide +kernel
theorem dd_Graph_strip_73 : decode bb_Graph_strip 73 = .ok (.iconst 4, 1) := by decide +kernel
theorem dd_Graph_strip_74 : decode bb_Graph_strip 74 = .ok (.imul, 1) := by decide +kernel
theorem dd_Graph_strip_75 : decode bb_Graph_strip 75 = .ok (.iload_n 3, 1) := by decide +kernel
theorem dd_Graph_strip_76 : decode bb_Graph_strip 76 = .ok (.iadd, 1) := by decide +kernel
theorem dd_Graph_strip_77 : decode bb_Graph_strip 77 = .ok (.iconst 0, 1) := by decide +kernel
theorem dd_Graph_strip_78 : decode bb_Graph_strip 78 = .ok (.iastore, 1) := by decide +kernel
theorem dd_Graph_strip_79 : decode bb_Graph_strip 79 = .ok (.iinc 3 1, 3) := by decide +kernel
theorem dd_Graph_strip_82 : decode bb_Graph_strip 82 = .ok (.goto (-19), 3) := by decide +kernel
theorem dd_Graph_strip_85 : decode bb_Graph_strip 85 = .ok (.aload_n 0, 1) := by decide +kernel
theorem dd_Graph_strip_86 : decode bb_Graph_strip 86 = .ok (.dup, 1) := by decide +kernel
theorem dd_Graph_strip_87 : decode bb_Graph_strip 87 = .ok (.getfield 40, 3) := by decide +kernel
theorem dd_Graph_strip_90 : decode bb_Graph_strip 90 = .ok (.iconst 1, 1) := by decide +kernel
theorem dd_Graph_strip_91 : decode bb_Graph_strip 91 = .ok (.iadd, 1) := by decide +kernel
theorem dd_Graph_strip_92 : decode bb_Graph_strip 92 = .ok (.putfield 40, 3) := by decide +kernel
theorem dd_Graph_strip_95 : decode bb_Graph_strip 95 = .ok (.iload_n 2, 1) := by decide +kernel
theorem dd_Graph_strip_96 : decode bb_Graph_strip 96 = .ok (.ireturn, 1) := by decide +kernel
set_option maxRecDepth 100000 in
set_option maxHeartbeats 4000000 in
theorem t_Graph_strip_48  (X : zX p s m args cd D cid B bb_Graph_strip 4 rr_Graph zT) (H : zH s meth B n0 (some (.int)) "strip") {nf : Nat} {x0 : Nat} {x1 : Int32} {x2 : Int32} {x3 : Int32} {c : Zc} {r : (Nat × Int32 × Int32 × Int32 × Zc) ⊕ (Nat × Int32 × Int32 × Zc)} (h : f_Graph_strip_48 nf x0 x1 x2 x3 c = some r) (k0 : ∀ a, r = .inl a → (fun a : Nat × Int32 × Int32 × Int32 × Zc => Zz p l e (zRm 1 21 0 0) s m args below meth cd Q D cid B 4 0 0 a.2.2.2.2 4 [(0, .ref a.1), (1, .int a.2.1), (2, .int a.2.2.1), (3, .int a.2.2.2.1)] []) a) (k1 : ∀ b, r = .inr b → (fun b : Nat × Int32 × Int32 × Zc => Zz p l e (zRm 1 21 0 0) s m args below meth cd Q D cid B 4 0 0 b.2.2.2 54 [(0, .ref b.1), (1, .int b.2.1), (2, .int b.2.2.1)] []) b) : Zz p l e (zRm 1 21 0 0) s m args below meth cd Q D cid B 4 0 0 c 48 [(0, .ref x0), (1, .int x1), (2, .int x2), (3, .int x3)] [] := by
  unfold f_Graph_strip_48 at h
  refine z_iinc (v := (x3 + 1)) (lv' := [(3, .int (x3 + 1)), (0, .ref x0), (1, .int x1), (2, .int x2)]) X dd_Graph_strip_48 3 rfl rfl (by decide) rfl ?_
  refine z_goto (tgt := 4) X dd_Graph_strip_51 (by decide) ?_
  refine z_sub [1, 2, 3, 0] rfl ?_
  obtain rfl := Option.some.inj h
  exact k0 _ rfl
set_option maxRecDepth 100000 in
set_option maxHeartbeats 4000000 in
theorem t_Graph_strip_40  (X : zX p s m args cd D cid B bb_Graph_strip 4 rr_Graph zT) (H : zH s meth B n0 (some (.int)) "strip") {nf : Nat} {x0 : Nat} {x1 : Int32} {x2 : Int32} {x3 : Int32} {c : Zc} {r : (Nat × Int32 × Int32 × Int32 × Zc) ⊕ (Nat × Int32 × Int32 × Zc)} (h : f_Graph_strip_40 nf x0 x1 x2 x3 c = some r) (k0 : ∀ a, r = .inl a → (fun a : Nat × Int32 × Int32 × Int32 × Zc => Zz p l e (zRm 1 21 0 0) s m args below meth cd Q D cid B 4 0 0 a.2.2.2.2 4 [(0, .ref a.1), (1, .int a.2.1), (2, .int a.2.2.1), (3, .int a.2.2.2.1)] []) a) (k1 : ∀ b, r = .inr b → (fun b : Nat × Int32 × Int32 × Zc => Zz p l e (zRm 1 21 0 0) s m args below meth cd Q D cid B 4 0 0 b.2.2.2 54 [(0, .ref b.1), (1, .int b.2.1), (2, .int b.2.2.1)] []) b) : Zz p l e (zRm 1 21 0 0) s m args below meth cd Q D cid B 4 0 0 c 40 [(0, .ref x0), (1, .int x1), (2, .int x2), (3, .int x3)] [] := by
  unfold f_Graph_strip_40 at h
  refine z_aload_n X dd_Graph_strip_40 rfl 0 rfl ?_
  refine z_iload_n X dd_Graph_strip_41 rfl 3 rfl ?_
  obtain ⟨w9, ew9, h⟩ := zb h
  obtain ⟨q8, eq8, h⟩ := zb h
  refine z_callVv X [.int x3] rfl dd_Graph_strip_42 (c_Graph_removeArc l eq8) (cwV 1 X.1.2.2.2.2 (zg_V km_807 km_780 km_781 km_126 km_782) rfl rfl rfl (by decide +kernel) ⟨Nat.le_of_ble_eq_true rfl, Nat.le_of_ble_eq_true rfl⟩) (zob_s ew9) kc_0 rfl (Nat.le_of_ble_eq_true rfl) ⟨Nat.le_of_ble_eq_true rfl, Nat.le_of_ble_eq_true rfl⟩ ?_
  refine z_iinc (v := (x2 + 1)) (lv' := [(2, .int (x2 + 1)), (0, .ref x0), (1, .int x1), (3, .int x3)]) X dd_Graph_strip_45 2 rfl rfl (by decide) rfl ?_
  refine z_sub [1, 2, 0, 3] rfl ?_
  exact t_Graph_strip_48 X H h k0 k1
set_option maxRecDepth 100000 in
set_option maxHeartbeats 4000000 in
theorem u_Graph_strip_4  (X : zX p s m args cd D cid B bb_Graph_strip 4 rr_Graph zT) (H : zH s meth B n0 (some (.int)) "strip") {nf : Nat} {x0 : Nat} {x1 : Int32} {x2 : Int32} {x3 : Int32} {c : Zc} {r : (Nat × Int32 × Int32 × Int32 × Zc) ⊕ (Nat × Int32 × Int32 × Zc)} (h : g_Graph_strip_4 nf x0 x1 x2 x3 c = some r) (k0 : ∀ a, r = .inl a → (fun a : Nat × Int32 × Int32 × Int32 × Zc => Zz p l e (zRm 1 21 0 0) s m args below meth cd Q D cid B 4 0 0 a.2.2.2.2 4 [(0, .ref a.1), (1, .int a.2.1), (2, .int a.2.2.1), (3, .int a.2.2.2.1)] []) a) (k1 : ∀ b, r = .inr b → (fun b : Nat × Int32 × Int32 × Zc => Zz p l e (zRm 1 21 0 0) s m args below meth cd Q D cid B 4 0 0 b.2.2.2 54 [(0, .ref b.1), (1, .int b.2.1), (2, .int b.2.2.1)] []) b) : Zz p l e (zRm 1 21 0 0) s m args below meth cd Q D cid B 4 0 0 c 4 [(0, .ref x0), (1, .int x1), (2, .int x2), (3, .int x3)] [] := by
  unfold g_Graph_strip_4 at h
  refine z_iload_n X dd_Graph_strip_4 rfl 3 rfl ?_
  refine z_bipush (v := 100) X dd_Graph_strip_5 (by decide) ?_
  refine z_icmp_ge (tgt := 54) X dd_Graph_strip_7 (by decide) (fun q1 => ?_) (fun q1 => ?_)
  · rw [if_pos q1] at h
    refine z_sub [0, 1, 2] rfl ?_
    obtain rfl := Option.some.inj h
    exact k1 _ rfl
  · rw [if_neg q1] at h
    refine z_aload_n X dd_Graph_strip_10 rfl 0 rfl ?_
    obtain ⟨v2, ev2, h⟩ := zb h
    refine z_get (j := 4) X dd_Graph_strip_11 kc_0 ki_0 (by decide) km_169 (zgr_v ev2) ?_
    refine z_iload_n X dd_Graph_strip_14 rfl 3 rfl ?_
    obtain ⟨v3, ev3, h⟩ := zb h
    refine z_iaload X dd_Graph_strip_15 rfl ev3 ?_
    refine z_iconst (v := (-1)) X dd_Graph_strip_16 (by decide) ?_
    refine z_icmp_eq (tgt := 48) X dd_Graph_strip_17 (by decide) (fun q4 => ?_) (fun q4 => ?_)
    · rw [if_pos q4] at h
      exact t_Graph_strip_48 X H h k0 k1
    · rw [if_neg q4] at h
      refine z_aload_n X dd_Graph_strip_20 rfl 0 rfl ?_
      obtain ⟨v5, ev5, h⟩ := zb h
      refine z_get (j := 2) X dd_Graph_strip_21 kc_0 ki_0 (by decide) km_167 (zgr_v ev5) ?_
      refine z_iload_n X dd_Graph_strip_24 rfl 3 rfl ?_
      obtain ⟨v6, ev6, h⟩ := zb h
      refine z_iaload X dd_Graph_strip_25 rfl ev6 ?_
      refine z_iload_n X dd_Graph_strip_26 rfl 1 rfl ?_
      refine z_icmp_eq (tgt := 40) X dd_Graph_strip_27 (by decide) (fun q7 => ?_) (fun q7 => ?_)
      · rw [if_pos q7] at h
        exact t_Graph_strip_40 X H h k0 k1
      · rw [if_neg q7] at h
        refine z_aload_n X dd_Graph_strip_30 rfl 0 rfl ?_
        obtain ⟨v10, ev10, h⟩ := zb h
        refine z_get (j := 3) X dd_Graph_strip_31 kc_0 ki_0 (by decide) km_168 (zgr_v ev10) ?_
        refine z_iload_n X dd_Graph_strip_34 rfl 3 rfl ?_
        obtain ⟨v11, ev11, h⟩ := zb h
        refine z_iaload X dd_Graph_strip_35 rfl ev11 ?_
        refine z_iload_n X dd_Graph_strip_36 rfl 1 rfl ?_
        refine z_icmp_ne (tgt := 48) X dd_Graph_strip_37 (by decide) (fun q12 => ?_) (fun q12 => ?_)
        · rw [if_neg q12] at h
          exact t_Graph_strip_48 X H h k0 k1
        · rw [if_pos q12] at h
          exact t_Graph_strip_40 X H h k0 k1
set_option maxRecDepth 100000 in
set_option maxHeartbeats 4000000 in
theorem u_Graph_strip_63  (X : zX p s m args cd D cid B bb_Graph_strip 4 rr_Graph zT) (H : zH s meth B n0 (some (.int)) "strip") {nf : Nat} {x0 : Nat} {x1 : Int32} {x2 : Int32} {x3 : Int32} {c : Zc} {r : (Nat × Int32 × Int32 × Int32 × Zc) ⊕ (Nat × Int32 × Zc)} (h : g_Graph_strip_63 nf x0 x1 x2 x3 c = some r) (k0 : ∀ a, r = .inl a → (fun a : Nat × Int32 × Int32 × Int32 × Zc => Zz p l e (zRm 1 21 0 0) s m args below meth cd Q D cid B 4 0 0 a.2.2.2.2 63 [(0, .ref a.1), (1, .int a.2.1), (2, .int a.2.2.1), (3, .int a.2.2.2.1)] []) a) (k1 : ∀ b, r = .inr b → (fun b : Nat × Int32 × Zc => Zz p l e (zRm 1 21 0 0) s m args below meth cd Q D cid B 4 0 0 b.2.2 85 [(0, .ref b.1), (2, .int b.2.1)] []) b) : Zz p l e (zRm 1 21 0 0) s m args below meth cd Q D cid B 4 0 0 c 63 [(0, .ref x0), (1, .int x1), (2, .int x2), (3, .int x3)] [] := by
  unfold g_Graph_strip_63 at h
  refine z_iload_n X dd_Graph_strip_63 rfl 3 rfl ?_
  refine z_iconst (v := 4) X dd_Graph_strip_64 (by decide) ?_
  refine z_icmp_ge (tgt := 85) X dd_Graph_strip_65 (by decide) (fun q15 => ?_) (fun q15 => ?_)
  · rw [if_pos q15] at h
    refine z_sub [0, 2] rfl ?_
    obtain rfl := Option.some.inj h
    exact k1 _ rfl
  · rw [if_neg q15] at h
    refine z_aload_n X dd_Graph_strip_68 rfl 0 rfl ?_
    obtain ⟨v16, ev16, h⟩ := zb h
    refine z_get (j := 1) X dd_Graph_strip_69 kc_0 ki_0 (by decide) km_165 (zgr_v ev16) ?_
    refine z_iload_n X dd_Graph_strip_72 rfl 1 rfl ?_
    refine z_iconst (v := 4) X dd_Graph_strip_73 (by decide) ?_
    refine z_imul X dd_Graph_strip_74 ?_
    refine z_iload_n X dd_Graph_strip_75 rfl 3 rfl ?_
    refine z_iadd X dd_Graph_strip_76 ?_
    refine z_iconst (v := 0) X dd_Graph_strip_77 (by decide) ?_
    obtain ⟨c17, ec17, h⟩ := zb h
    refine z_iastore X dd_Graph_strip_78 rfl ec17 ?_
    refine z_iinc (v := (x3 + 1)) (lv' := [(3, .int (x3 + 1)), (0, .ref x0), (1, .int x1), (2, .int x2)]) X dd_Graph_strip_79 3 rfl rfl (by decide) rfl ?_
    refine z_goto (tgt := 63) X dd_Graph_strip_82 (by decide) ?_
    refine z_sub [1, 2, 3, 0] rfl ?_
    obtain rfl := Option.some.inj h
    exact k0 _ rfl
set_option maxRecDepth 100000 in
set_option maxHeartbeats 4000000 in
theorem t_Graph_strip_63  (X : zX p s m args cd D cid B bb_Graph_strip 4 rr_Graph zT) (H : zH s meth B n0 (some (.int)) "strip") {nf : Nat} {x0 : Nat} {x1 : Int32} {x2 : Int32} {x3 : Int32} {c : Zc} {res : Int32 × Zc} (h : f_Graph_strip_63 nf x0 x1 x2 x3 c = some res) : Zz p l e (zRm 1 21 0 0) s m args below meth cd (MQ below (zQi D cid B res.1 res.2 n0 0) args s 0 0 (fun q => B ≤ q)) D cid B 4 0 0 c 63 [(0, .ref x0), (1, .int x1), (2, .int x2), (3, .int x3)] [] := by
  unfold f_Graph_strip_63 at h
  obtain ⟨b, eb, h⟩ := zb h
  refine zlp_ok (P := fun a : Nat × Int32 × Int32 × Int32 × Zc => Zz p l e (zRm 1 21 0 0) s m args below meth cd _ D cid B 4 0 0 a.2.2.2.2 63 [(0, .ref a.1), (1, .int a.2.1), (2, .int a.2.2.1), (3, .int a.2.2.2.1)] []) (G := fun b : Nat × Int32 × Zc => Zz p l e (zRm 1 21 0 0) s m args below meth cd _ D cid B 4 0 0 b.2.2 85 [(0, .ref b.1), (2, .int b.2.1)] []) (fun a r ha k0 k1 => u_Graph_strip_63 X H ha k0 k1) nf _ b eb ?_
  refine z_aload_n X dd_Graph_strip_85 rfl 0 rfl ?_
  refine z_dup X dd_Graph_strip_86 rfl ?_
  obtain ⟨v18, ev18, h⟩ := zb h
  refine z_get (j := 9) X dd_Graph_strip_87 kc_0 ki_0 (by decide) km_180 (zgi_v ev18) ?_
  refine z_iconst (v := 1) X dd_Graph_strip_90 (by decide) ?_
  refine z_iadd X dd_Graph_strip_91 ?_
  obtain ⟨c19, ec19, h⟩ := zb h
  refine z_put (j := 9) X dd_Graph_strip_92 kc_0 ki_0 tt_Graph tk_Graph nn_Graph (by decide) km_180 rfl (tk_Graph 9 (by decide)) rfl rfl ec19 ?_
  refine z_iload_n X dd_Graph_strip_95 rfl 1 rfl ?_
  obtain rfl := Option.some.inj h
  exact z_iret X H.1 H.2.1 H.2.2.1 dd_Graph_strip_96
set_option maxRecDepth 100000 in
set_option maxHeartbeats 4000000 in
theorem t_Graph_strip_4  (X : zX p s m args cd D cid B bb_Graph_strip 4 rr_Graph zT) (H : zH s meth B n0 (some (.int)) "strip") {nf : Nat} {x0 : Nat} {x1 : Int32} {x2 : Int32} {x3 : Int32} {c : Zc} {res : Int32 × Zc} (h : f_Graph_strip_4 nf x0 x1 x2 x3 c = some res) : Zz p l e (zRm 1 21 0 0) s m args below meth cd (MQ below (zQi D cid B res.1 res.2 n0 0) args s 0 0 (fun q => B ≤ q)) D cid B 4 0 0 c 4 [(0, .ref x0), (1, .int x1), (2, .int x2), (3, .int x3)] [] := by
  unfold f_Graph_strip_4 at h
  obtain ⟨b, eb, h⟩ := zb h
  refine zlp_ok (P := fun a : Nat × Int32 × Int32 × Int32 × Zc => Zz p l e (zRm 1 21 0 0) s m args below meth cd _ D cid B 4 0 0 a.2.2.2.2 4 [(0, .ref a.1), (1, .int a.2.1), (2, .int a.2.2.1), (3, .int a.2.2.2.1)] []) (G := fun b : Nat × Int32 × Int32 × Zc => Zz p l e (zRm 1 21 0 0) s m args below meth cd _ D cid B 4 0 0 b.2.2.2 54 [(0, .ref b.1), (1, .int b.2.1), (2, .int b.2.2.1)] []) (fun a r ha k0 k1 => u_Graph_strip_4 X H ha k0 k1) nf _ b eb ?_
  refine z_aload_n X dd_Graph_strip_54 rfl 0 rfl ?_
  obtain ⟨v13, ev13, h⟩ := zb h
  refine z_get (j := 0) X dd_Graph_strip_55 kc_0 ki_0 (by decide) km_164 (zgr_v ev13) ?_
  refine z_iload_n X dd_Graph_strip_58 rfl 1 rfl ?_
  refine z_iconst (v := 0) X dd_Graph_strip_59 (by decide) ?_
  obtain ⟨c14, ec14, h⟩ := zb h
  refine z_iastore X dd_Graph_strip_60 rfl ec14 ?_
  refine z_iconst (v := 0) X dd_Graph_strip_61 (by decide) ?_
  refine z_istore_n (lv' := [(3, .int 0), (0, .ref b.1), (1, .int b.2.1), (2, .int b.2.2.1)]) X dd_Graph_strip_62 rfl (by decide) rfl ?_
  refine z_sub [1, 2, 3, 0] rfl ?_
  exact t_Graph_strip_63 X H h
set_option maxRecDepth 100000 in
set_option maxHeartbeats 4000000 in
theorem c_Graph_strip (l : Launch) {nf : Nat} {a0 : Nat} {a1 : Int32} {c : Zc} {res : Int32 × Zc} (h : f_Graph_strip nf a0 a1 c = some res) : zM l yy_Graph_strip ww_Graph_strip 1 21 0 0 [.ref a0, .int a1] c (fun D cid B => zQi D cid B res.1 res.2 c.length 0) := by
  refine z_met (cc := bb_Graph_strip) (maxL := 4) (ret := (some (.int))) (by decide +kernel) rfl (Nat.le_of_ble_eq_true rfl) ?_
  intro p e s m args below meth cd D cid B X h1 h2 h3 h4
  have X : zX p s m args cd D cid B bb_Graph_strip 4 rr_Graph zT := X
  have H : zH s meth B c.length (some (.int)) "strip" := ⟨h1, h2, h4, h3⟩
  unfold f_Graph_strip at h
  show Zz p l e (zRm 1 21 0 0) s m args below meth cd _ D cid B 4 0 0 c 0 [(0, .ref a0), (1, .int a1)] []
  refine z_iconst (v := 0) X dd_Graph_strip_0 (by decide) ?_
  refine z_istore_n (lv' := [(2, .int 0), (0, .ref a0), (1, .int a1)]) X dd_Graph_strip_1 rfl (by decide) rfl ?_
  refine z_iconst (v := 0) X dd_Graph_strip_2 (by decide) ?_
  refine z_istore_n (lv' := [(3, .int 0), (2, .int 0), (0, .ref a0), (1, .int a1)]) X dd_Graph_strip_3 rfl (by decide) rfl ?_
  refine z_sub [2, 3, 1, 0] rfl ?_
  exact t_Graph_strip_4 X H h
theorem dd_Graph_ofNode_0 : decode bb_Graph_ofNode 0 = .ok (.iload_n 1, 1) := by decide +kernel
theorem dd_Graph_ofNode_1 : decode bb_Graph_ofNode 1 = .ok (.iconst 3, 1) := by decide +kernel
theorem dd_Graph_ofNode_2 : decode bb_Graph_ofNode 2 = .ok (.if_icmp .ne 10, 3) := by decide +kernel
theorem dd_Graph_ofNode_5 : decode bb_Graph_ofNode 5 = .ok (.aload_n 0, 1) := by decide +kernel
theorem dd_Graph_ofNode_6 : decode bb_Graph_ofNode 6 = .ok (.getfield 9, 3) := by decide +kernel
theorem dd_Graph_ofNode_9 : decode bb_Graph_ofNode 9 = .ok (.iload_n 2, 1) := by decide +kernel
theorem dd_Graph_ofNode_10 : decode bb_Graph_ofNode 10 = .ok (.iaload, 1) := by decide +kernel
theorem dd_Graph_ofNode_11 : decode bb_Graph_ofNode 11 = .ok (.ireturn, 1) := by decide +kernel
theorem dd_Graph_ofNode_12 : decode bb_Graph_ofNode 12 = .ok (.iload_n 1, 1) := by decide +kernel
theorem dd_Graph_ofNode_13 : decode bb_Graph_ofNode 13 = .ok (.bipush 7, 2) := by decide +kernel
theorem dd_Graph_ofNode_15 : decode bb_Graph_ofNode 15 = .ok (.if_icmp .gt 16, 3) := by decide +kernel
theorem dd_Graph_ofNode_18 : decode bb_Graph_ofNode 18 = .ok (.aload_n 0, 1) := by decide +kernel
theorem dd_Graph_ofNode_19 : decode bb_Graph_ofNode 19 = .ok (.getfield 15, 3) := by decide +kernel
theorem dd_Graph_ofNode_22 : decode bb_Graph_ofNode 22 = .ok (.iload_n 2, 1) := by decide +kernel
theorem dd_Graph_ofNode_23 : decode bb_Graph_ofNode 23 = .ok (.iconst 4, 1) := by decide +kernel
theorem dd_Graph_ofNode_24 : decode bb_Graph_ofNode 24 = .ok (.imul, 1) := by decide +kernel
theorem dd_Graph_ofNode_25 : decode bb_Graph_ofNode 25 = .ok (.iload_n 1, 1) := by decide +kernel
theorem dd_Graph_ofNode_26 : decode bb_Graph_ofNode 26 = .ok (.iadd, 1) := by decide +kernel
theorem dd_Graph_ofNode_27 : decode bb_Graph_ofNode 27 = .ok (.iconst 4, 1) := by decide +kernel
theorem dd_Graph_ofNode_28 : decode bb_Graph_ofNode 28 = .ok (.isub, 1) := by decide +kernel
theorem dd_Graph_ofNode_29 : decode bb_Graph_ofNode 29 = .ok (.iaload, 1) := by decide +kernel
theorem dd_Graph_ofNode_30 : decode bb_Graph_ofNode 30 = .ok (.ireturn, 1) := by decide +kernel
theorem dd_Graph_ofNode_31 : decode bb_Graph_ofNode 31 = .ok (.iconst 0, 1) := by decide +kernel
theorem dd_Graph_ofNode_32 : decode bb_Graph_ofNode 32 = .ok (.istore_n 3, 1) := by decide +kernel
theorem dd_Graph_ofNode_33 : decode bb_Graph_ofNode 33 = .ok (.iconst 0, 1) := by decide +kernel
theorem dd_Graph_ofNode_34 : decode bb_Graph_ofNode 34 = .ok (.istore 4, 2) := by decide +kernel
theorem dd_Graph_ofNode_36 : decode bb_Graph_ofNode 36 = .ok (.iload 4, 2) := by decide +kernel
theorem dd_Graph_ofNode_38 : decode bb_Graph_ofNode 38 = .ok (.bipush 100, 2) := by decide +kernel
theorem dd_Graph_ofNode_40 : decode bb_Graph_ofNode 40 = .ok (.if_icmp .ge 50, 3) := by decide +kernel
theorem dd_Graph_ofNode_43 : decode bb_Graph_ofNode 43 = .ok (.aload_n 0, 1) := by decide +kernel
theorem dd_Graph_ofNode_44 : decode bb_Graph_ofNode 44 = .ok (.getfield 24, 3) := by decide +kernel
theorem dd_Graph_ofNode_47 : decode bb_Graph_ofNode 47 = .ok (.iload 4, 2) := by decide +kernel
theorem dd_Graph_ofNode_49 : decode bb_Graph_ofNode 49 = .ok (.iaload, 1) := by decide +kernel
theorem dd_Graph_ofNode_50 : decode bb_Graph_ofNode 50 = .ok (.iconst (-1), 1) := by decide +kernel
theorem dd_Graph_ofNode_51 : decode bb_Graph_ofNode 51 = .ok (.if_icmp .eq 33, 3) := by decide +kernel
theorem dd_Graph_ofNode_54 : decode bb_Graph_ofNode 54 = .ok (.iload_n 1, 1) := by decide +kernel
theorem dd_Graph_ofNode_55 : decode bb_Graph_ofNode 55 = .ok (.bipush 8, 2) := by decide +kernel
theorem dd_Graph_ofNode_57 : decode bb_Graph_ofNode 57 = .ok (.if_icmp .ne 13, 3) := by decide +kernel
theorem dd_Graph_ofNode_60 : decode bb_Graph_ofNode 60 = .ok (.aload_n 0, 1) := by decide +kernel
theorem dd_Graph_ofNode_61 : decode bb_Graph_ofNode 61 = .ok (.getfield 18, 3) := by decide +kernel
theorem dd_Graph_ofNode_64 : decode bb_Graph_ofNode 64 = .ok (.iload 4, 2) := by decide +kernel
theorem dd_Graph_ofNode_66 : decode bb_Graph_ofNode 66 = .ok (.iaload, 1) := by decide +kernel
theorem dd_Graph_ofNode_67 : decode bb_Graph_ofNode 67 = .ok (.goto 10, 3) := by decide +kernel
theorem dd_Graph_ofNode_70 : decode bb_Graph_ofNode 70 = .ok (.aload_n 0, 1) := by decide +kernel
theorem dd_Graph_ofNode_71 : decode bb_Graph_ofNode 71 = .ok (.getfield 21, 3) := by decide +kernel
theorem dd_Graph_ofNode_74 : decode bb_Graph_ofNode 74 = .ok (.iload 4, 2) := by decide +kernel
theorem dd_Graph_ofNode_76 : decode bb_Graph_ofNode 76 = .ok (.iaload, 1) := by decide +kernel
theorem dd_Graph_ofNode_77 : decode bb_Graph_ofNode 77 = .ok (.iload_n 2, 1) := by decide +kernel
theorem dd_Graph_ofNode_78 : decode bb_Graph_ofNode 78 = .ok (.if_icmp .ne 6, 3) := by decide +kernel
theorem dd_Graph_ofNode_81 : decode bb_Graph_ofNode 81 = .ok (.iinc 3 1, 3) := by decide +kernel
theorem dd_Graph_ofNode_84 : decode bb_Graph_ofNode 84 = .ok (.iinc 4 1, 3) := by decide +kernel
theorem dd_Graph_ofNode_87 : decode bb_Graph_ofNode 87 = .ok (.goto (-51), 3) := by decide +kernel
theorem dd_Graph_ofNode_90 : decode bb_Graph_ofNode 90 = .ok (.iload_n 3, 1) := by decide +kernel
theorem dd_Graph_ofNode_91 : decode bb_Graph_ofNode 91 = .ok (.ireturn, 1) := by decide +kernel
set_option maxRecDepth 100000 in
set_option maxHeartbeats 4000000 in
theorem t_Graph_ofNode_84  (X : zX p s m args cd D cid B bb_Graph_ofNode 5 rr_Graph zT) (H : zH s meth B n0 (some (.int)) "ofNode") {nf : Nat} {x0 : Nat} {x1 : Int32} {x2 : Int32} {x3 : Int32} {x4 : Int32} {c : Zc} {r : (Nat × Int32 × Int32 × Int32 × Int32 × Zc) ⊕ (Int32 × Zc)} (h : f_Graph_ofNode_84 nf x0 x1 x2 x3 x4 c = some r) (k0 : ∀ a, r = .inl a → (fun a : Nat × Int32 × Int32 × Int32 × Int32 × Zc => Zz p l e (zRm 0 0 0 0) s m args below meth cd Q D cid B 5 0 0 a.2.2.2.2.2 36 [(0, .ref a.1), (1, .int a.2.1), (2, .int a.2.2.1), (3, .int a.2.2.2.1), (4, .int a.2.2.2.2.1)] []) a) (k1 : ∀ b, r = .inr b → (fun b : Int32 × Zc => Zz p l e (zRm 0 0 0 0) s m args below meth cd Q D cid B 5 0 0 b.2 90 [(3, .int b.1)] []) b) : Zz p l e (zRm 0 0 0 0) s m args below meth cd Q D cid B 5 0 0 c 84 [(0, .ref x0), (1, .int x1), (2, .int x2), (3, .int x3), (4, .int x4)] [] := by
  unfold f_Graph_ofNode_84 at h
  refine z_iinc (v := (x4 + 1)) (lv' := [(4, .int (x4 + 1)), (0, .ref x0), (1, .int x1), (2, .int x2), (3, .int x3)]) X dd_Graph_ofNode_84 4 rfl rfl (by decide) rfl ?_
  refine z_goto (tgt := 36) X dd_Graph_ofNode_87 (by decide) ?_
  refine z_sub [1, 2, 3, 4, 0] rfl ?_
  obtain rfl := Option.some.inj h
  exact k0 _ rfl
set_option maxRecDepth 100000 in
set_option maxHeartbeats 4000000 in
theorem t_Graph_ofNode_77  (X : zX p s m args cd D cid B bb_Graph_ofNode 5 rr_Graph zT) (H : zH s meth B n0 (some (.int)) "ofNode") {nf : Nat} {x0 : Nat} {x1 : Int32} {x2 : Int32} {x3 : Int32} {x4 : Int32} {s0 : Int32} {c : Zc} {r : (Nat × Int32 × Int32 × Int32 × Int32 × Zc) ⊕ (Int32 × Zc)} (h : f_Graph_ofNode_77 nf x0 x1 x2 x3 x4 s0 c = some r) (k0 : ∀ a, r = .inl a → (fun a : Nat × Int32 × Int32 × Int32 × Int32 × Zc => Zz p l e (zRm 0 0 0 0) s m args below meth cd Q D cid B 5 0 0 a.2.2.2.2.2 36 [(0, .ref a.1), (1, .int a.2.1), (2, .int a.2.2.1), (3, .int a.2.2.2.1), (4, .int a.2.2.2.2.1)] []) a) (k1 : ∀ b, r = .inr b → (fun b : Int32 × Zc => Zz p l e (zRm 0 0 0 0) s m args below meth cd Q D cid B 5 0 0 b.2 90 [(3, .int b.1)] []) b) : Zz p l e (zRm 0 0 0 0) s m args below meth cd Q D cid B 5 0 0 c 77 [(0, .ref x0), (1, .int x1), (2, .int x2), (3, .int x3), (4, .int x4)] [.int s0] := by
  unfold f_Graph_ofNode_77 at h
  refine z_iload_n X dd_Graph_ofNode_77 rfl 2 rfl ?_
  refine z_icmp_ne (tgt := 84) X dd_Graph_ofNode_78 (by decide) (fun q10 => ?_) (fun q10 => ?_)
  · rw [if_neg q10] at h
    exact t_Graph_ofNode_84 X H h k0 k1
  · rw [if_pos q10] at h
    refine z_iinc (v := (x3 + 1)) (lv' := [(3, .int (x3 + 1)), (0, .ref x0), (1, .int x1), (2, .int x2), (4, .int x4)]) X dd_Graph_ofNode_81 3 rfl rfl (by decide) rfl ?_
    refine z_sub [1, 2, 3, 0, 4] rfl ?_
    exact t_Graph_ofNode_84 X H h k0 k1
set_option maxRecDepth 100000 in
set_option maxHeartbeats 4000000 in
theorem u_Graph_ofNode_36  (X : zX p s m args cd D cid B bb_Graph_ofNode 5 rr_Graph zT) (H : zH s meth B n0 (some (.int)) "ofNode") {nf : Nat} {x0 : Nat} {x1 : Int32} {x2 : Int32} {x3 : Int32} {x4 : Int32} {c : Zc} {r : (Nat × Int32 × Int32 × Int32 × Int32 × Zc) ⊕ (Int32 × Zc)} (h : g_Graph_ofNode_36 nf x0 x1 x2 x3 x4 c = some r) (k0 : ∀ a, r = .inl a → (fun a : Nat × Int32 × Int32 × Int32 × Int32 × Zc => Zz p l e (zRm 0 0 0 0) s m args below meth cd Q D cid B 5 0 0 a.2.2.2.2.2 36 [(0, .ref a.1), (1, .int a.2.1), (2, .int a.2.2.1), (3, .int a.2.2.2.1), (4, .int a.2.2.2.2.1)] []) a) (k1 : ∀ b, r = .inr b → (fun b : Int32 × Zc => Zz p l e (zRm 0 0 0 0) s m args below meth cd Q D cid B 5 0 0 b.2 90 [(3, .int b.1)] []) b) : Zz p l e (zRm 0 0 0 0) s m args below meth cd Q D cid B 5 0 0 c 36 [(0, .ref x0), (1, .int x1), (2, .int x2), (3, .int x3), (4, .int x4)] [] := by
  unfold g_Graph_ofNode_36 at h
  refine z_iload X dd_Graph_ofNode_36 4 rfl ?_
  refine z_bipush (v := 100) X dd_Graph_ofNode_38 (by decide) ?_
  refine z_icmp_ge (tgt := 90) X dd_Graph_ofNode_40 (by decide) (fun q3 => ?_) (fun q3 => ?_)
  · rw [if_pos q3] at h
    refine z_sub [3] rfl ?_
    obtain rfl := Option.some.inj h
    exact k1 _ rfl
  · rw [if_neg q3] at h
    refine z_aload_n X dd_Graph_ofNode_43 rfl 0 rfl ?_
    obtain ⟨v4, ev4, h⟩ := zb h
    refine z_get (j := 4) X dd_Graph_ofNode_44 kc_0 ki_0 (by decide) km_169 (zgr_v ev4) ?_
    refine z_iload X dd_Graph_ofNode_47 4 rfl ?_
    obtain ⟨v5, ev5, h⟩ := zb h
    refine z_iaload X dd_Graph_ofNode_49 rfl ev5 ?_
    refine z_iconst (v := (-1)) X dd_Graph_ofNode_50 (by decide) ?_
    refine z_icmp_eq (tgt := 84) X dd_Graph_ofNode_51 (by decide) (fun q6 => ?_) (fun q6 => ?_)
    · rw [if_pos q6] at h
      exact t_Graph_ofNode_84 X H h k0 k1
    · rw [if_neg q6] at h
      refine z_iload_n X dd_Graph_ofNode_54 rfl 1 rfl ?_
      refine z_bipush (v := 8) X dd_Graph_ofNode_55 (by decide) ?_
      refine z_icmp_ne (tgt := 70) X dd_Graph_ofNode_57 (by decide) (fun q7 => ?_) (fun q7 => ?_)
      · rw [if_neg q7] at h
        refine z_aload_n X dd_Graph_ofNode_70 rfl 0 rfl ?_
        obtain ⟨v8, ev8, h⟩ := zb h
        refine z_get (j := 3) X dd_Graph_ofNode_71 kc_0 ki_0 (by decide) km_168 (zgr_v ev8) ?_
        refine z_iload X dd_Graph_ofNode_74 4 rfl ?_
        obtain ⟨v9, ev9, h⟩ := zb h
        refine z_iaload X dd_Graph_ofNode_76 rfl ev9 ?_
        exact t_Graph_ofNode_77 X H h k0 k1
      · rw [if_pos q7] at h
        refine z_aload_n X dd_Graph_ofNode_60 rfl 0 rfl ?_
        obtain ⟨v11, ev11, h⟩ := zb h
        refine z_get (j := 2) X dd_Graph_ofNode_61 kc_0 ki_0 (by decide) km_167 (zgr_v ev11) ?_
        refine z_iload X dd_Graph_ofNode_64 4 rfl ?_
        obtain ⟨v12, ev12, h⟩ := zb h
        refine z_iaload X dd_Graph_ofNode_66 rfl ev12 ?_
        refine z_goto (tgt := 77) X dd_Graph_ofNode_67 (by decide) ?_
        exact t_Graph_ofNode_77 X H h k0 k1
set_option maxRecDepth 100000 in
set_option maxHeartbeats 4000000 in
theorem t_Graph_ofNode_36  (X : zX p s m args cd D cid B bb_Graph_ofNode 5 rr_Graph zT) (H : zH s meth B n0 (some (.int)) "ofNode") {nf : Nat} {x0 : Nat} {x1 : Int32} {x2 : Int32} {x3 : Int32} {x4 : Int32} {c : Zc} {res : Int32 × Zc} (h : f_Graph_ofNode_36 nf x0 x1 x2 x3 x4 c = some res) : Zz p l e (zRm 0 0 0 0) s m args below meth cd (MQ below (zQi D cid B res.1 res.2 n0 0) args s 0 0 (fun q => B ≤ q)) D cid B 5 0 0 c 36 [(0, .ref x0), (1, .int x1), (2, .int x2), (3, .int x3), (4, .int x4)] [] := by
  unfold f_Graph_ofNode_36 at h
  obtain ⟨b, eb, h⟩ := zb h
  refine zlp_ok (P := fun a : Nat × Int32 × Int32 × Int32 × Int32 × Zc => Zz p l e (zRm 0 0 0 0) s m args below meth cd _ D cid B 5 0 0 a.2.2.2.2.2 36 [(0, .ref a.1), (1, .int a.2.1), (2, .int a.2.2.1), (3, .int a.2.2.2.1), (4, .int a.2.2.2.2.1)] []) (G := fun b : Int32 × Zc => Zz p l e (zRm 0 0 0 0) s m args below meth cd _ D cid B 5 0 0 b.2 90 [(3, .int b.1)] []) (fun a r ha k0 k1 => u_Graph_ofNode_36 X H ha k0 k1) nf _ b eb ?_
  refine z_iload_n X dd_Graph_ofNode_90 rfl 0 rfl ?_
  obtain rfl := Option.some.inj h
  exact z_iret X H.1 H.2.1 H.2.2.1 dd_Graph_ofNode_91
set_option maxRecDepth 100000 in
set_option maxHeartbeats 4000000 in
theorem c_Graph_ofNode (l : Launch) {nf : Nat} {a0 : Nat} {a1 : Int32} {a2 : Int32} {c : Zc} {res : Int32 × Zc} (h : f_Graph_ofNode nf a0 a1 a2 c = some res) : zM l yy_Graph_ofNode ww_Graph_ofNode 0 0 0 0 [.ref a0, .int a1, .int a2] c (fun D cid B => zQi D cid B res.1 res.2 c.length 0) := by
  refine z_met (cc := bb_Graph_ofNode) (maxL := 5) (ret := (some (.int))) (by decide +kernel) rfl (Nat.le_of_ble_eq_true rfl) ?_
  intro p e s m args below meth cd D cid B X h1 h2 h3 h4
  have X : zX p s m args cd D cid B bb_Graph_ofNode 5 rr_Graph zT := X
  have H : zH s meth B c.length (some (.int)) "ofNode" := ⟨h1, h2, h4, h3⟩
  unfold f_Graph_ofNode at h
  show Zz p l e (zRm 0 0 0 0) s m args below meth cd _ D cid B 5 0 0 c 0 [(0, .ref a0), (1, .int a1), (2, .int a2)] []
  refine z_iload_n X dd_Graph_ofNode_0 rfl 1 rfl ?_
  refine z_iconst (v := 3) X dd_Graph_ofNode_1 (by decide) ?_
  refine z_icmp_ne (tgt := 12) X dd_Graph_ofNode_2 (by decide) (fun q1 => ?_) (fun q1 => ?_)
  · rw [if_neg q1] at h
    refine z_iload_n X dd_Graph_ofNode_12 rfl 1 rfl ?_
    refine z_bipush (v := 7) X dd_Graph_ofNode_13 (by decide) ?_
    refine z_icmp_gt (tgt := 31) X dd_Graph_ofNode_15 (by decide) (fun q2 => ?_) (fun q2 => ?_)
    · rw [if_pos q2] at h
      refine z_iconst (v := 0) X dd_Graph_ofNode_31 (by decide) ?_
      refine z_istore_n (lv' := [(3, .int 0), (0, .ref a0), (1, .int a1), (2, .int a2)]) X dd_Graph_ofNode_32 rfl (by decide) rfl ?_
      refine z_iconst (v := 0) X dd_Graph_ofNode_33 (by decide) ?_
      refine z_istore (lv' := [(4, .int 0), (3, .int 0), (0, .ref a0), (1, .int a1), (2, .int a2)]) X dd_Graph_ofNode_34 (by decide) rfl ?_
      refine z_sub [2, 3, 4, 1, 0] rfl ?_
      exact t_Graph_ofNode_36 X H h
    · rw [if_neg q2] at h
      refine z_aload_n X dd_Graph_ofNode_18 rfl 0 rfl ?_
      obtain ⟨v13, ev13, h⟩ := zb h
      refine z_get (j := 1) X dd_Graph_ofNode_19 kc_0 ki_0 (by decide) km_165 (zgr_v ev13) ?_
      refine z_iload_n X dd_Graph_ofNode_22 rfl 2 rfl ?_
      refine z_iconst (v := 4) X dd_Graph_ofNode_23 (by decide) ?_
      refine z_imul X dd_Graph_ofNode_24 ?_
      refine z_iload_n X dd_Graph_ofNode_25 rfl 1 rfl ?_
      refine z_iadd X dd_Graph_ofNode_26 ?_
      refine z_iconst (v := 4) X dd_Graph_ofNode_27 (by decide) ?_
      refine z_isub X dd_Graph_ofNode_28 ?_
      obtain ⟨v14, ev14, h⟩ := zb h
      refine z_iaload X dd_Graph_ofNode_29 rfl ev14 ?_
      obtain rfl := Option.some.inj h
      exact z_iret X H.1 H.2.1 H.2.2.1 dd_Graph_ofNode_30
  · rw [if_pos q1] at h
    refine z_aload_n X dd_Graph_ofNode_5 rfl 0 rfl ?_
    obtain ⟨v15, ev15, h⟩ := zb h
    refine z_get (j := 0) X dd_Graph_ofNode_6 kc_0 ki_0 (by decide) km_164 (zgr_v ev15) ?_
    refine z_iload_n X dd_Graph_ofNode_9 rfl 2 rfl ?_
    obtain ⟨v16, ev16, h⟩ := zb h
    refine z_iaload X dd_Graph_ofNode_10 rfl ev16 ?_
    obtain rfl := Option.some.inj h
    exact z_iret X H.1 H.2.1 H.2.2.1 dd_Graph_ofNode_11
theorem dd_Graph_nodesWith_0 : decode bb_Graph_nodesWith 0 = .ok (.iconst 0, 1) := by decide +kernel
theorem dd_Graph_nodesWith_1 : decode bb_Graph_nodesWith 1 = .ok (.istore_n 2, 1) := by decide +kernel
theorem dd_Graph_nodesWith_2 : decode bb_Graph_nodesWith 2 = .ok (.iconst 0, 1) := by decide +kernel
theorem dd_Graph_nodesWith_3 : decode bb_Graph_nodesWith 3 = .ok (.istore_n 3, 1) := by decide +kernel
theorem dd_Graph_nodesWith_4 : decode bb_Graph_nodesWith 4 = .ok (.iload_n 3, 1) := by decide +kernel
theorem dd_Graph_nodesWith_5 : decode bb_Graph_nodesWith 5 = .ok (.aload_n 0, 1) := by decide +kernel
theorem dd_Graph_nodesWith_6 : decode bb_Graph_nodesWith 6 = .ok (.getfield 33, 3) := by decide +kernel
theorem dd_Graph_nodesWith_9 : decode bb_Graph_nodesWith 9 = .ok (.if_icmp .ge 27, 3) := by decide +kernel
theorem dd_Graph_nodesWith_12 : decode bb_Graph_nodesWith 12 = .ok (.aload_n 0, 1) := by decide +kernel
theorem dd_Graph_nodesWith_13 : decode bb_Graph_nodesWith 13 = .ok (.getfield 9, 3) := by decide +kernel
theorem dd_Graph_nodesWith_16 : decode bb_Graph_nodesWith 16 = .ok (.iload_n 3, 1) := by decide +kernel
theorem dd_Graph_nodesWith_17 : decode bb_Graph_nodesWith 17 = .ok (.iaload, 1) := by decide +kernel
theorem dd_Graph_nodesWith_18 : decode bb_Graph_nodesWith 18 = .ok (.iload_n 1, 1) := by decide +kernel
theorem dd_Graph_nodesWith_19 : decode bb_Graph_nodesWith 19 = .ok (.iand, 1) := by decide +kernel
theorem dd_Graph_nodesWith_20 : decode bb_Graph_nodesWith 20 = .ok (.iload_n 1, 1) := by decide +kernel
theorem dd_Graph_nodesWith_21 : decode bb_Graph_nodesWith 21 = .ok (.if_icmp .ne 9, 3) := by decide +kernel
theorem dd_Graph_nodesWith_24 : decode bb_Graph_nodesWith 24 = .ok (.iload_n 2, 1) := by decide +kernel
theorem dd_Graph_nodesWith_25 : decode bb_Graph_nodesWith 25 = .ok (.iconst 1, 1) := by decide +kernel
theorem dd_Graph_nodesWith_26 : decode bb_Graph_nodesWith 26 = .ok (.iload_n 3, 1) := by decide +kernel
theorem dd_Graph_nodesWith_27 : decode bb_Graph_nodesWith 27 = .ok (.ishl, 1) := by decide +kernel
theorem dd_Graph_nodesWith_28 : decode bb_Graph_nodesWith 28 = .ok (.ior, 1) := by decide +kernel
theorem dd_Graph_nodesWith_29 : decode bb_Graph_nodesWith 29 = .ok (.istore_n 2, 1) := by decide +kernel
theorem dd_Graph_nodesWith_30 : decode bb_Graph_nodesWith 30 = .ok (.iinc 3 1, 3) := by decide +kernel
theorem dd_Graph_nodesWith_33 : decode bb_Graph_nodesWith 33 = .ok (.goto (-29), 3) := by decide +kernel
theorem dd_Graph_nodesWith_36 : decode bb_Graph_nodesWith 36 = .ok (.iload_n 2, 1) := by decide +kernel
theorem dd_Graph_nodesWith_37 : decode bb_Graph_nodesWith 37 = .ok (.ireturn, 1) := by decide +kernel
set_option maxRecDepth 100000 in
set_option maxHeartbeats 4000000 in
theorem t_Graph_nodesWith_30  (X : zX p s m args cd D cid B bb_Graph_nodesWith 4 rr_Graph zT) (H : zH s meth B n0 (some (.int)) "nodesWith") {nf : Nat} {x0 : Nat} {x1 : Int32} {x2 : Int32} {x3 : Int32} {c : Zc} {r : (Nat × Int32 × Int32 × Int32 × Zc) ⊕ (Int32 × Zc)} (h : f_Graph_nodesWith_30 nf x0 x1 x2 x3 c = some r) (k0 : ∀ a, r = .inl a → (fun a : Nat × Int32 × Int32 × Int32 × Zc => Zz p l e (zRm 0 0 0 0) s m args below meth cd Q D cid B 4 0 0 a.2.2.2.2 4 [(0, .ref a.1), (1, .int a.2.1), (2, .int a.2.2.1), (3, .int a.2.2.2.1)] []) a) (k1 : ∀ b, r = .inr b → (fun b : Int32 × Zc => Zz p l e (zRm 0 0 0 0) s m args below meth cd Q D cid B 4 0 0 b.2 36 [(2, .int b.1)] []) b) : Zz p l e (zRm 0 0 0 0) s m args below meth cd Q D cid B 4 0 0 c 30 [(0, .ref x0), (1, .int x1), (2, .int x2), (3, .int x3)] [] := by
  unfold f_Graph_nodesWith_30 at h
  refine z_iinc (v := (x3 + 1)) (lv' := [(3, .int (x3 + 1)), (0, .ref x0), (1, .int x1), (2, .int x2)]) X dd_Graph_nodesWith_30 3 rfl rfl (by decide) rfl ?_
  refine z_goto (tgt := 4) X dd_Graph_nodesWith_33 (by decide) ?_
  refine z_sub [1, 2, 3, 0] rfl ?_
  obtain rfl := Option.some.inj h
  exact k0 _ rfl
set_option maxRecDepth 100000 in
set_option maxHeartbeats 4000000 in
theorem u_Graph_nodesWith_4  (X : zX p s m args cd D cid B bb_Graph_nodesWith 4 rr_Graph zT) (H : zH s meth B n0 (some (.int)) "nodesWith") {nf : Nat} {x0 : Nat} {x1 : Int32} {x2 : Int32} {x3 : Int32} {c : Zc} {r : (Nat × Int32 × Int32 × Int32 × Zc) ⊕ (Int32 × Zc)} (h : g_Graph_nodesWith_4 nf x0 x1 x2 x3 c = some r) (k0 : ∀ a, r = .inl a → (fun a : Nat × Int32 × Int32 × Int32 × Zc => Zz p l e (zRm 0 0 0 0) s m args below meth cd Q D cid B 4 0 0 a.2.2.2.2 4 [(0, .ref a.1), (1, .int a.2.1), (2, .int a.2.2.1), (3, .int a.2.2.2.1)] []) a) (k1 : ∀ b, r = .inr b → (fun b : Int32 × Zc => Zz p l e (zRm 0 0 0 0) s m args below meth cd Q D cid B 4 0 0 b.2 36 [(2, .int b.1)] []) b) : Zz p l e (zRm 0 0 0 0) s m args below meth cd Q D cid B 4 0 0 c 4 [(0, .ref x0), (1, .int x1), (2, .int x2), (3, .int x3)] [] := by
  unfold g_Graph_nodesWith_4 at h
  refine z_iload_n X dd_Graph_nodesWith_4 rfl 3 rfl ?_
  refine z_aload_n X dd_Graph_nodesWith_5 rfl 0 rfl ?_
  obtain ⟨v1, ev1, h⟩ := zb h
  refine z_get (j := 7) X dd_Graph_nodesWith_6 kc_0 ki_0 (by decide) km_173 (zgi_v ev1) ?_
  refine z_icmp_ge (tgt := 36) X dd_Graph_nodesWith_9 (by decide) (fun q2 => ?_) (fun q2 => ?_)
  · rw [if_pos q2] at h
    refine z_sub [2] rfl ?_
    obtain rfl := Option.some.inj h
    exact k1 _ rfl
  · rw [if_neg q2] at h
    refine z_aload_n X dd_Graph_nodesWith_12 rfl 0 rfl ?_
    obtain ⟨v3, ev3, h⟩ := zb h
    refine z_get (j := 0) X dd_Graph_nodesWith_13 kc_0 ki_0 (by decide) km_164 (zgr_v ev3) ?_
    refine z_iload_n X dd_Graph_nodesWith_16 rfl 3 rfl ?_
    obtain ⟨v4, ev4, h⟩ := zb h
    refine z_iaload X dd_Graph_nodesWith_17 rfl ev4 ?_
    refine z_iload_n X dd_Graph_nodesWith_18 rfl 1 rfl ?_
    refine z_iand X dd_Graph_nodesWith_19 ?_
    refine z_iload_n X dd_Graph_nodesWith_20 rfl 1 rfl ?_
    refine z_icmp_ne (tgt := 30) X dd_Graph_nodesWith_21 (by decide) (fun q5 => ?_) (fun q5 => ?_)
    · rw [if_neg q5] at h
      exact t_Graph_nodesWith_30 X H h k0 k1
    · rw [if_pos q5] at h
      refine z_iload_n X dd_Graph_nodesWith_24 rfl 2 rfl ?_
      refine z_iconst (v := 1) X dd_Graph_nodesWith_25 (by decide) ?_
      refine z_iload_n X dd_Graph_nodesWith_26 rfl 3 rfl ?_
      refine z_ishl X dd_Graph_nodesWith_27 ?_
      refine z_ior X dd_Graph_nodesWith_28 ?_
      refine z_istore_n (lv' := [(2, .int (x2 ||| (1 <<< (x3 &&& 31)))), (0, .ref x0), (1, .int x1), (3, .int x3)]) X dd_Graph_nodesWith_29 rfl (by decide) rfl ?_
      refine z_sub [1, 2, 0, 3] rfl ?_
      exact t_Graph_nodesWith_30 X H h k0 k1
set_option maxRecDepth 100000 in
set_option maxHeartbeats 4000000 in
theorem t_Graph_nodesWith_4  (X : zX p s m args cd D cid B bb_Graph_nodesWith 4 rr_Graph zT) (H : zH s meth B n0 (some (.int)) "nodesWith") {nf : Nat} {x0 : Nat} {x1 : Int32} {x2 : Int32} {x3 : Int32} {c : Zc} {res : Int32 × Zc} (h : f_Graph_nodesWith_4 nf x0 x1 x2 x3 c = some res) : Zz p l e (zRm 0 0 0 0) s m args below meth cd (MQ below (zQi D cid B res.1 res.2 n0 0) args s 0 0 (fun q => B ≤ q)) D cid B 4 0 0 c 4 [(0, .ref x0), (1, .int x1), (2, .int x2), (3, .int x3)] [] := by
  unfold f_Graph_nodesWith_4 at h
  obtain ⟨b, eb, h⟩ := zb h
  refine zlp_ok (P := fun a : Nat × Int32 × Int32 × Int32 × Zc => Zz p l e (zRm 0 0 0 0) s m args below meth cd _ D cid B 4 0 0 a.2.2.2.2 4 [(0, .ref a.1), (1, .int a.2.1), (2, .int a.2.2.1), (3, .int a.2.2.2.1)] []) (G := fun b : Int32 × Zc => Zz p l e (zRm 0 0 0 0) s m args below meth cd _ D cid B 4 0 0 b.2 36 [(2, .int b.1)] []) (fun a r ha k0 k1 => u_Graph_nodesWith_4 X H ha k0 k1) nf _ b eb ?_
  refine z_iload_n X dd_Graph_nodesWith_36 rfl 0 rfl ?_
  obtain rfl := Option.some.inj h
  exact z_iret X H.1 H.2.1 H.2.2.1 dd_Graph_nodesWith_37
set_option maxRecDepth 100000 in
set_option maxHeartbeats 4000000 in
theorem c_Graph_nodesWith (l : Launch) {nf : Nat} {a0 : Nat} {a1 : Int32} {c : Zc} {res : Int32 × Zc} (h : f_Graph_nodesWith nf a0 a1 c = some res) : zM l yy_Graph_nodesWith ww_Graph_nodesWith 0 0 0 0 [.ref a0, .int a1] c (fun D cid B => zQi D cid B res.1 res.2 c.length 0) := by
  refine z_met (cc := bb_Graph_nodesWith) (maxL := 4) (ret := (some (.int))) (by decide +kernel) rfl (Nat.le_of_ble_eq_true rfl) ?_
  intro p e s m args below meth cd D cid B X h1 h2 h3 h4
  have X : zX p s m args cd D cid B bb_Graph_nodesWith 4 rr_Graph zT := X
  have H : zH s meth B c.length (some (.int)) "nodesWith" := ⟨h1, h2, h4, h3⟩
  unfold f_Graph_nodesWith at h
  show Zz p l e (zRm 0 0 0 0) s m args below meth cd _ D cid B 4 0 0 c 0 [(0, .ref a0), (1, .int a1)] []
  refine z_iconst (v := 0) X dd_Graph_nodesWith_0 (by decide) ?_
  refine z_istore_n (lv' := [(2, .int 0), (0, .ref a0), (1, .int a1)]) X dd_Graph_nodesWith_1 rfl (by decide) rfl ?_
  refine z_iconst (v := 0) X dd_Graph_nodesWith_2 (by decide) ?_
  refine z_istore_n (lv' := [(3, .int 0), (2, .int 0), (0, .ref a0), (1, .int a1)]) X dd_Graph_nodesWith_3 rfl (by decide) rfl ?_
  refine z_sub [2, 3, 1, 0] rfl ?_
  exact t_Graph_nodesWith_4 X H h
theorem dd_Graph_ofArc_0 : decode bb_Graph_ofArc 0 = .ok (.iload_n 1, 1) := by decide +kernel
theorem dd_Graph_ofArc_1 : decode bb_Graph_ofArc 1 = .ok (.tableswitch 48 10 12 #[27, 34, 41], 27) := by decide +kernel
theorem dd_Graph_ofArc_28 : decode bb_Graph_ofArc 28 = .ok (.aload_n 0, 1) := by decide +kernel
theorem dd_Graph_ofArc_29 : decode bb_Graph_ofArc 29 = .ok (.getfield 18, 3) := by decide +kernel
theorem dd_Graph_ofArc_32 : decode bb_Graph_ofArc 32 = .ok (.iload_n 2, 1) := by decide +kernel
theorem dd_Graph_ofArc_33 : decode bb_Graph_ofArc 33 = .ok (.iaload, 1) := by decide +kernel
theorem dd_Graph_ofArc_34 : decode bb_Graph_ofArc 34 = .ok (.ireturn, 1) := by decide +kernel
theorem dd_Graph_ofArc_35 : decode bb_Graph_ofArc 35 = .ok (.aload_n 0, 1) := by decide +kernel
theorem dd_Graph_ofArc_36 : decode bb_Graph_ofArc 36 = .ok (.getfield 21, 3) := by decide +kernel
theorem dd_Graph_ofArc_39 : decode bb_Graph_ofArc 39 = .ok (.iload_n 2, 1) := by decide +kernel
theorem dd_Graph_ofArc_40 : decode bb_Graph_ofArc 40 = .ok (.iaload, 1) := by decide +kernel
theorem dd_Graph_ofArc_41 : decode bb_Graph_ofArc 41 = .ok (.ireturn, 1) := by decide +kernel
theorem dd_Graph_ofArc_42 : decode bb_Graph_ofArc 42 = .ok (.aload_n 0, 1) := by decide +kernel
theorem dd_Graph_ofArc_43 : decode bb_Graph_ofArc 43 = .ok (.getfield 24, 3) := by decide +kernel
theorem dd_Graph_ofArc_46 : decode bb_Graph_ofArc 46 = .ok (.iload_n 2, 1) := by decide +kernel
theorem dd_Graph_ofArc_47 : decode bb_Graph_ofArc 47 = .ok (.iaload, 1) := by decide +kernel
theorem dd_Graph_ofArc_48 : decode bb_Graph_ofArc 48 = .ok (.ireturn, 1) := by decide +kernel
theorem dd_Graph_ofArc_49 : decode bb_Graph_ofArc 49 = .ok (.aload_n 0, 1) := by decide +kernel
theorem dd_Graph_ofArc_50 : decode bb_Graph_ofArc 50 = .ok (.getfield 27, 3) := by decide +kernel
theorem dd_Graph_ofArc_53 : decode bb_Graph_ofArc 53 = .ok (.iload_n 2, 1) := by decide +kernel
theorem dd_Graph_ofArc_54 : decode bb_Graph_ofArc 54 = .ok (.iaload, 1) := by decide +kernel
theorem dd_Graph_ofArc_55 : decode bb_Graph_ofArc 55 = .ok (.ireturn, 1) := by decide +kernel
set_option maxRecDepth 100000 in
set_option maxHeartbeats 4000000 in
theorem c_Graph_ofArc (l : Launch) {nf : Nat} {a0 : Nat} {a1 : Int32} {a2 : Int32} {c : Zc} {res : Int32 × Zc} (h : f_Graph_ofArc nf a0 a1 a2 c = some res) : zM l yy_Graph_ofArc ww_Graph_ofArc 0 0 0 0 [.ref a0, .int a1, .int a2] c (fun D cid B => zQi D cid B res.1 res.2 c.length 0) := by
  refine z_met (cc := bb_Graph_ofArc) (maxL := 3) (ret := (some (.int))) (by decide +kernel) rfl (Nat.le_of_ble_eq_true rfl) ?_
  intro p e s m args below meth cd D cid B X h1 h2 h3 h4
  have X : zX p s m args cd D cid B bb_Graph_ofArc 3 rr_Graph zT := X
  have H : zH s meth B c.length (some (.int)) "ofArc" := ⟨h1, h2, h4, h3⟩
  unfold f_Graph_ofArc at h
  show Zz p l e (zRm 0 0 0 0) s m args below meth cd _ D cid B 3 0 0 c 0 [(0, .ref a0), (1, .int a1), (2, .int a2)] []
  refine z_iload_n X dd_Graph_ofArc_0 rfl 1 rfl ?_
  by_cases q1 : a1 = 10
  · rw [if_pos q1] at h
    refine z_tableIn (tgt := 28) (off := 27) X dd_Graph_ofArc_1 (by rw [q1]; decide) (by rw [q1]; decide) (by rw [q1]; rfl) (by decide) ?_
    refine z_aload_n X dd_Graph_ofArc_28 rfl 0 rfl ?_
    obtain ⟨v2, ev2, h⟩ := zb h
    refine z_get (j := 2) X dd_Graph_ofArc_29 kc_0 ki_0 (by decide) km_167 (zgr_v ev2) ?_
    refine z_iload_n X dd_Graph_ofArc_32 rfl 2 rfl ?_
    obtain ⟨v3, ev3, h⟩ := zb h
    refine z_iaload X dd_Graph_ofArc_33 rfl ev3 ?_
    obtain rfl := Option.some.inj h
    exact z_iret X H.1 H.2.1 H.2.2.1 dd_Graph_ofArc_34
  rw [if_neg q1] at h
  by_cases q4 : a1 = 11
  · rw [if_pos q4] at h
    refine z_tableIn (tgt := 35) (off := 34) X dd_Graph_ofArc_1 (by rw [q4]; decide) (by rw [q4]; decide) (by rw [q4]; rfl) (by decide) ?_
    refine z_aload_n X dd_Graph_ofArc_35 rfl 0 rfl ?_
    obtain ⟨v5, ev5, h⟩ := zb h
    refine z_get (j := 3) X dd_Graph_ofArc_36 kc_0 ki_0 (by decide) km_168 (zgr_v ev5) ?_
    refine z_iload_n X dd_Graph_ofArc_39 rfl 2 rfl ?_
    obtain ⟨v6, ev6, h⟩ := zb h
    refine z_iaload X dd_Graph_ofArc_40 rfl ev6 ?_
    obtain rfl := Option.some.inj h
    exact z_iret X H.1 H.2.1 H.2.2.1 dd_Graph_ofArc_41
  rw [if_neg q4] at h
  by_cases q7 : a1 = 12
  · rw [if_pos q7] at h
    refine z_tableIn (tgt := 42) (off := 41) X dd_Graph_ofArc_1 (by rw [q7]; decide) (by rw [q7]; decide) (by rw [q7]; rfl) (by decide) ?_
    refine z_aload_n X dd_Graph_ofArc_42 rfl 0 rfl ?_
    obtain ⟨v8, ev8, h⟩ := zb h
    refine z_get (j := 4) X dd_Graph_ofArc_43 kc_0 ki_0 (by decide) km_169 (zgr_v ev8) ?_
    refine z_iload_n X dd_Graph_ofArc_46 rfl 2 rfl ?_
    obtain ⟨v9, ev9, h⟩ := zb h
    refine z_iaload X dd_Graph_ofArc_47 rfl ev9 ?_
    obtain rfl := Option.some.inj h
    exact z_iret X H.1 H.2.1 H.2.2.1 dd_Graph_ofArc_48
  rw [if_neg q7] at h
  refine z_tableOut (tgt := 49) X dd_Graph_ofArc_1 (by have yq1 := lv_neT q1 (a := 10) (by decide); have yq4 := lv_neT q4 (a := 11) (by decide); have yq7 := lv_neT q7 (a := 12) (by decide); omega) (by decide) ?_
  refine z_aload_n X dd_Graph_ofArc_49 rfl 0 rfl ?_
  obtain ⟨v10, ev10, h⟩ := zb h
  refine z_get (j := 5) X dd_Graph_ofArc_50 kc_0 ki_0 (by decide) km_170 (zgr_v ev10) ?_
  refine z_iload_n X dd_Graph_ofArc_53 rfl 2 rfl ?_
  obtain ⟨v11, ev11, h⟩ := zb h
  refine z_iaload X dd_Graph_ofArc_54 rfl ev11 ?_
  obtain rfl := Option.some.inj h
  exact z_iret X H.1 H.2.1 H.2.2.1 dd_Graph_ofArc_55
theorem dd_Graph_countArcs_0 : decode bb_Graph_countArcs 0 = .ok (.iconst 0, 1) := by decide +kernel
theorem dd_Graph_countArcs_1 : decode bb_Graph_countArcs 1 = .ok (.istore 4, 2) := by decide +kernel
theorem dd_Graph_countArcs_3 : decode bb_Graph_countArcs 3 = .ok (.iconst 0, 1) := by decide +kernel
theorem dd_Graph_countArcs_4 : decode bb_Graph_countArcs 4 = .ok (.istore 5, 2) := by decide +kernel
theorem dd_Graph_countArcs_6 : decode bb_Graph_countArcs 6 = .ok (.iload 5, 2) := by decide +kernel
theorem dd_Graph_countArcs_8 : decode bb_Graph_countArcs 8 = .ok (.bipush 100, 2) := by decide +kernel
theorem dd_Graph_countArcs_10 : decode bb_Graph_countArcs 10 = .ok (.if_icmp .ge 45, 3) := by decide +kernel
theorem dd_Graph_countArcs_13 : decode bb_Graph_countArcs 13 = .ok (.aload_n 0, 1) := by decide +kernel
theorem dd_Graph_countArcs_14 : decode bb_Graph_countArcs 14 = .ok (.getfield 24, 3) := by decide +kernel
theorem dd_Graph_countArcs_17 : decode bb_Graph_countArcs 17 = .ok (.iload 5, 2) := by decide +kernel
theorem dd_Graph_countArcs_19 : decode bb_Graph_countArcs 19 = .ok (.iaload, 1) := by decide +kernel
theorem dd_Graph_countArcs_20 : decode bb_Graph_countArcs 20 = .ok (.iload_n 3, 1) := by decide +kernel
theorem dd_Graph_countArcs_21 : decode bb_Graph_countArcs 21 = .ok (.if_icmp .ne 28, 3) := by decide +kernel
theorem dd_Graph_countArcs_24 : decode bb_Graph_countArcs 24 = .ok (.aload_n 0, 1) := by decide +kernel
theorem dd_Graph_countArcs_25 : decode bb_Graph_countArcs 25 = .ok (.getfield 18, 3) := by decide +kernel
theorem dd_Graph_countArcs_28 : decode bb_Graph_countArcs 28 = .ok (.iload 5, 2) := by decide +kernel
theorem dd_Graph_countArcs_30 : decode bb_Graph_countArcs 30 = .ok (.iaload, 1) := by decide +kernel
theorem dd_Graph_countArcs_31 : decode bb_Graph_countArcs 31 = .ok (.iload_n 1, 1) := by decide +kernel
theorem dd_Graph_countArcs_32 : decode bb_Graph_countArcs 32 = .ok (.if_icmp .ne 17, 3) := by decide +kernel
theorem dd_Graph_countArcs_35 : decode bb_Graph_countArcs 35 = .ok (.aload_n 0, 1) := by decide +kernel
theorem dd_Graph_countArcs_36 : decode bb_Graph_countArcs 36 = .ok (.getfield 21, 3) := by decide +kernel
theorem dd_Graph_countArcs_39 : decode bb_Graph_countArcs 39 = .ok (.iload 5, 2) := by decide +kernel
theorem dd_Graph_countArcs_41 : decode bb_Graph_countArcs 41 = .ok (.iaload, 1) := by decide +kernel
theorem dd_Graph_countArcs_42 : decode bb_Graph_countArcs 42 = .ok (.iload_n 2, 1) := by decide +kernel
theorem dd_Graph_countArcs_43 : decode bb_Graph_countArcs 43 = .ok (.if_icmp .ne 6, 3) := by decide +kernel
theorem dd_Graph_countArcs_46 : decode bb_Graph_countArcs 46 = .ok (.iinc 4 1, 3) := by decide +kernel
theorem dd_Graph_countArcs_49 : decode bb_Graph_countArcs 49 = .ok (.iinc 5 1, 3) := by decide +kernel
theorem dd_Graph_countArcs_52 : decode bb_Graph_countArcs 52 = .ok (.goto (-46), 3) := by decide +kernel
theorem dd_Graph_countArcs_55 : decode bb_Graph_countArcs 55 = .ok (.iload 4, 2) := by decide +kernel
theorem dd_Graph_countArcs_57 : decode bb_Graph_countArcs 57 = .ok (.ireturn, 1) := by decide +kernel
set_option maxRecDepth 100000 in
set_option maxHeartbeats 4000000 in
theorem t_Graph_countArcs_49  (X : zX p s m args cd D cid B bb_Graph_countArcs 6 rr_Graph zT) (H : zH s meth B n0 (some (.int)) "countArcs") {nf : Nat} {x0 : Nat} {x1 : Int32} {x2 : Int32} {x3 : Int32} {x4 : Int32} {x5 : Int32} {c : Zc} {r : (Nat × Int32 × Int32 × Int32 × Int32 × Int32 × Zc) ⊕ (Int32 × Zc)} (h : f_Graph_countArcs_49 nf x0 x1 x2 x3 x4 x5 c = some r) (k0 : ∀ a, r = .inl a → (fun a : Nat × Int32 × Int32 × Int32 × Int32 × Int32 × Zc => Zz p l e (zRm 0 0 0 0) s m args below meth cd Q D cid B 6 0 0 a.2.2.2.2.2.2 6 [(0, .ref a.1), (1, .int a.2.1), (2, .int a.2.2.1), (3, .int a.2.2.2.1), (4, .int a.2.2.2.2.1), (5, .int a.2.2.2.2.2.1)] []) a) (k1 : ∀ b, r = .inr b → (fun b : Int32 × Zc => Zz p l e (zRm 0 0 0 0) s m args below meth cd Q D cid B 6 0 0 b.2 55 [(4, .int b.1)] []) b) : Zz p l e (zRm 0 0 0 0) s m args below meth cd Q D cid B 6 0 0 c 49 [(0, .ref x0), (1, .int x1), (2, .int x2), (3, .int x3), (4, .int x4), (5, .int x5)] [] := by
  unfold f_Graph_countArcs_49 at h
  refine z_iinc (v := (x5 + 1)) (lv' := [(5, .int (x5 + 1)), (0, .ref x0), (1, .int x1), (2, .int x2), (3, .int x3), (4, .int x4)]) X dd_Graph_countArcs_49 5 rfl rfl (by decide) rfl ?_
  refine z_goto (tgt := 6) X dd_Graph_countArcs_52 (by decide) ?_
  refine z_sub [1, 2, 3, 4, 5, 0] rfl ?_
  obtain rfl := Option.some.inj h
  exact k0 _ rfl
set_option maxRecDepth 100000 in
set_option maxHeartbeats 4000000 in
theorem u_Graph_countArcs_6  (X : zX p s m args cd D cid B bb_Graph_countArcs 6 rr_Graph zT) (H : zH s meth B n0 (some (.int)) "countArcs") {nf : Nat} {x0 : Nat} {x1 : Int32} {x2 : Int32} {x3 : Int32} {x4 : Int32} {x5 : Int32} {c : Zc} {r : (Nat × Int32 × Int32 × Int32 × Int32 × Int32 × Zc) ⊕ (Int32 × Zc)} (h : g_Graph_countArcs_6 nf x0 x1 x2 x3 x4 x5 c = some r) (k0 : ∀ a, r = .inl a → (fun a : Nat × Int32 × Int32 × Int32 × Int32 × Int32 × Zc => Zz p l e (zRm 0 0 0 0) s m args below meth cd Q D cid B 6 0 0 a.2.2.2.2.2.2 6 [(0, .ref a.1), (1, .int a.2.1), (2, .int a.2.2.1), (3, .int a.2.2.2.1), (4, .int a.2.2.2.2.1), (5, .int a.2.2.2.2.2.1)] []) a) (k1 : ∀ b, r = .inr b → (fun b : Int32 × Zc => Zz p l e (zRm 0 0 0 0) s m args below meth cd Q D cid B 6 0 0 b.2 55 [(4, .int b.1)] []) b) : Zz p l e (zRm 0 0 0 0) s m args below meth cd Q D cid B 6 0 0 c 6 [(0, .ref x0), (1, .int x1), (2, .int x2), (3, .int x3), (4, .int x4), (5, .int x5)] [] := by
  unfold g_Graph_countArcs_6 at h
  refine z_iload X dd_Graph_countArcs_6 5 rfl ?_
  refine z_bipush (v := 100) X dd_Graph_countArcs_8 (by decide) ?_
  refine z_icmp_ge (tgt := 55) X dd_Graph_countArcs_10 (by decide) (fun q1 => ?_) (fun q1 => ?_)
  · rw [if_pos q1] at h
    refine z_sub [4] rfl ?_
    obtain rfl := Option.some.inj h
    exact k1 _ rfl
  · rw [if_neg q1] at h
    refine z_aload_n X dd_Graph_countArcs_13 rfl 0 rfl ?_
    obtain ⟨v2, ev2, h⟩ := zb h
    refine z_get (j := 4) X dd_Graph_countArcs_14 kc_0 ki_0 (by decide) km_169 (zgr_v ev2) ?_
    refine z_iload X dd_Graph_countArcs_17 5 rfl ?_
    obtain ⟨v3, ev3, h⟩ := zb h
    refine z_iaload X dd_Graph_countArcs_19 rfl ev3 ?_
    refine z_iload_n X dd_Graph_countArcs_20 rfl 3 rfl ?_
    refine z_icmp_ne (tgt := 49) X dd_Graph_countArcs_21 (by decide) (fun q4 => ?_) (fun q4 => ?_)
    · rw [if_neg q4] at h
      exact t_Graph_countArcs_49 X H h k0 k1
    · rw [if_pos q4] at h
      refine z_aload_n X dd_Graph_countArcs_24 rfl 0 rfl ?_
      obtain ⟨v5, ev5, h⟩ := zb h
      refine z_get (j := 2) X dd_Graph_countArcs_25 kc_0 ki_0 (by decide) km_167 (zgr_v ev5) ?_
      refine z_iload X dd_Graph_countArcs_28 5 rfl ?_
      obtain ⟨v6, ev6, h⟩ := zb h
      refine z_iaload X dd_Graph_countArcs_30 rfl ev6 ?_
      refine z_iload_n X dd_Graph_countArcs_31 rfl 1 rfl ?_
      refine z_icmp_ne (tgt := 49) X dd_Graph_countArcs_32 (by decide) (fun q7 => ?_) (fun q7 => ?_)
      · rw [if_neg q7] at h
        exact t_Graph_countArcs_49 X H h k0 k1
      · rw [if_pos q7] at h
        refine z_aload_n X dd_Graph_countArcs_35 rfl 0 rfl ?_
        obtain ⟨v8, ev8, h⟩ := zb h
        refine z_get (j := 3) X dd_Graph_countArcs_36 kc_0 ki_0 (by decide) km_168 (zgr_v ev8) ?_
        refine z_iload X dd_Graph_countArcs_39 5 rfl ?_
        obtain ⟨v9, ev9, h⟩ := zb h
        refine z_iaload X dd_Graph_countArcs_41 rfl ev9 ?_
        refine z_iload_n X dd_Graph_countArcs_42 rfl 2 rfl ?_
        refine z_icmp_ne (tgt := 49) X dd_Graph_countArcs_43 (by decide) (fun q10 => ?_) (fun q10 => ?_)
        · rw [if_neg q10] at h
          exact t_Graph_countArcs_49 X H h k0 k1
        · rw [if_pos q10] at h
          refine z_iinc (v := (x4 + 1)) (lv' := [(4, .int (x4 + 1)), (0, .ref x0), (1, .int x1), (2, .int x2), (3, .int x3), (5, .int x5)]) X dd_Graph_countArcs_46 4 rfl rfl (by decide) rfl ?_
          refine z_sub [1, 2, 3, 4, 0, 5] rfl ?_
          exact t_Graph_countArcs_49 X H h k0 k1
set_option maxRecDepth 100000 in
set_option maxHeartbeats 4000000 in
theorem t_Graph_countArcs_6  (X : zX p s m args cd D cid B bb_Graph_countArcs 6 rr_Graph zT) (H : zH s meth B n0 (some (.int)) "countArcs") {nf : Nat} {x0 : Nat} {x1 : Int32} {x2 : Int32} {x3 : Int32} {x4 : Int32} {x5 : Int32} {c : Zc} {res : Int32 × Zc} (h : f_Graph_countArcs_6 nf x0 x1 x2 x3 x4 x5 c = some res) : Zz p l e (zRm 0 0 0 0) s m args below meth cd (MQ below (zQi D cid B res.1 res.2 n0 0) args s 0 0 (fun q => B ≤ q)) D cid B 6 0 0 c 6 [(0, .ref x0), (1, .int x1), (2, .int x2), (3, .int x3), (4, .int x4), (5, .int x5)] [] := by
  unfold f_Graph_countArcs_6 at h
  obtain ⟨b, eb, h⟩ := zb h
  refine zlp_ok (P := fun a : Nat × Int32 × Int32 × Int32 × Int32 × Int32 × Zc => Zz p l e (zRm 0 0 0 0) s m args below meth cd _ D cid B 6 0 0 a.2.2.2.2.2.2 6 [(0, .ref a.1), (1, .int a.2.1), (2, .int a.2.2.1), (3, .int a.2.2.2.1), (4, .int a.2.2.2.2.1), (5, .int a.2.2.2.2.2.1)] []) (G := fun b : Int32 × Zc => Zz p l e (zRm 0 0 0 0) s m args below meth cd _ D cid B 6 0 0 b.2 55 [(4, .int b.1)] []) (fun a r ha k0 k1 => u_Graph_countArcs_6 X H ha k0 k1) nf _ b eb ?_
  refine z_iload X dd_Graph_countArcs_55 0 rfl ?_
  obtain rfl := Option.some.inj h
  exact z_iret X H.1 H.2.1 H.2.2.1 dd_Graph_countArcs_57
set_option maxRecDepth 100000 in
set_option maxHeartbeats 4000000 in
theorem c_Graph_countArcs (l : Launch) {nf : Nat} {a0 : Nat} {a1 : Int32} {a2 : Int32} {a3 : Int32} {c : Zc} {res : Int32 × Zc} (h : f_Graph_countArcs nf a0 a1 a2 a3 c = some res) : zM l yy_Graph_countArcs ww_Graph_countArcs 0 0 0 0 [.ref a0, .int a1, .int a2, .int a3] c (fun D cid B => zQi D cid B res.1 res.2 c.length 0) := by
  refine z_met (cc := bb_Graph_countArcs) (maxL := 6) (ret := (some (.int))) (by decide +kernel) rfl (Nat.le_of_ble_eq_true rfl) ?_
  intro p e s m args below meth cd D cid B X h1 h2 h3 h4
  have X : zX p s m args cd D cid B bb_Graph_countArcs 6 rr_Graph zT := X
  have H : zH s meth B c.length (some (.int)) "countArcs" := ⟨h1, h2, h4, h3⟩
  unfold f_Graph_countArcs at h
  show Zz p l e (zRm 0 0 0 0) s m args below meth cd _ D cid B 6 0 0 c 0 [(0, .ref a0), (1, .int a1), (2, .int a2), (3, .int a3)] []
  refine z_iconst (v := 0) X dd_Graph_countArcs_0 (by decide) ?_
  refine z_istore (lv' := [(4, .int 0), (0, .ref a0), (1, .int a1), (2, .int a2), (3, .int a3)]) X dd_Graph_countArcs_1 (by decide) rfl ?_
  refine z_iconst (v := 0) X dd_Graph_countArcs_3 (by decide) ?_
  refine z_istore (lv' := [(5, .int 0), (4, .int 0), (0, .ref a0), (1, .int a1), (2, .int a2), (3, .int a3)]) X dd_Graph_countArcs_4 (by decide) rfl ?_
  refine z_sub [2, 3, 4, 5, 1, 0] rfl ?_
  exact t_Graph_countArcs_6 X H h
theorem dd_Graph_link_0 : decode bb_Graph_link 0 = .ok (.aload_n 0, 1) := by decide +kernel
theorem dd_Graph_link_1 : decode bb_Graph_link 1 = .ok (.getfield 30, 3) := by decide +kernel
theorem dd_Graph_link_4 : decode bb_Graph_link 4 = .ok (.iconst 2, 1) := by decide +kernel
theorem dd_Graph_link_5 : decode bb_Graph_link 5 = .ok (.iload_n 1, 1) := by decide +kernel
theorem dd_Graph_link_6 : decode bb_Graph_link 6 = .ok (.imul, 1) := by decide +kernel
theorem dd_Graph_link_7 : decode bb_Graph_link 7 = .ok (.bipush 16, 2) := by decide +kernel
theorem dd_Graph_link_9 : decode bb_Graph_link 9 = .ok (.imul, 1) := by decide +kernel
theorem dd_Graph_link_10 : decode bb_Graph_link 10 = .ok (.iload_n 2, 1) := by decide +kernel
theorem dd_Graph_link_11 : decode bb_Graph_link 11 = .ok (.iadd, 1) := by decide +kernel
theorem dd_Graph_link_12 : decode bb_Graph_link 12 = .ok (.dup2, 1) := by decide +kernel
theorem dd_Graph_link_13 : decode bb_Graph_link 13 = .ok (.iaload, 1) := by decide +kernel
theorem dd_Graph_link_14 : decode bb_Graph_link 14 = .ok (.iconst 1, 1) := by decide +kernel
theorem dd_Graph_link_15 : decode bb_Graph_link 15 = .ok (.iload_n 3, 1) := by decide +kernel
theorem dd_Graph_link_16 : decode bb_Graph_link 16 = .ok (.ishl, 1) := by decide +kernel
theorem dd_Graph_link_17 : decode bb_Graph_link 17 = .ok (.ior, 1) := by decide +kernel
theorem dd_Graph_link_18 : decode bb_Graph_link 18 = .ok (.iastore, 1) := by decide +kernel
theorem dd_Graph_link_19 : decode bb_Graph_link 19 = .ok (.aload_n 0, 1) := by decide +kernel
theorem dd_Graph_link_20 : decode bb_Graph_link 20 = .ok (.getfield 30, 3) := by decide +kernel
theorem dd_Graph_link_23 : decode bb_Graph_link 23 = .ok (.iconst 2, 1) := by decide +kernel
theorem dd_Graph_link_24 : decode bb_Graph_link 24 = .ok (.iload_n 1, 1) := by decide +kernel
theorem dd_Graph_link_25 : decode bb_Graph_link 25 = .ok (.imul, 1) := by decide +kernel
theorem dd_Graph_link_26 : decode bb_Graph_link 26 = .ok (.iconst 1, 1) := by decide +kernel
theorem dd_Graph_link_27 : decode bb_Graph_link 27 = .ok (.iadd, 1) := by decide +kernel
theorem dd_Graph_link_28 : decode bb_Graph_link 28 = .ok (.bipush 16, 2) := by decide +kernel
theorem dd_Graph_link_30 : decode bb_Graph_link 30 = .ok (.imul, 1) := by decide +kernel
theorem dd_Graph_link_31 : decode bb_Graph_link 31 = .ok (.iload_n 3, 1) := by decide +kernel
theorem dd_Graph_link_32 : decode bb_Graph_link 32 = .ok (.iadd, 1) := by decide +kernel
theorem dd_Graph_link_33 : decode bb_Graph_link 33 = .ok (.dup2, 1) := by decide +kernel
theorem dd_Graph_link_34 : decode bb_Graph_link 34 = .ok (.iaload, 1) := by decide +kernel
theorem dd_Graph_link_35 : decode bb_Graph_link 35 = .ok (.iconst 1, 1) := by decide +kernel
theorem dd_Graph_link_36 : decode bb_Graph_link 36 = .ok (.iload_n 2, 1) := by decide +kernel
theorem dd_Graph_link_37 : decode bb_Graph_link 37 = .ok (.ishl, 1) := by decide +kernel
theorem dd_Graph_link_38 : decode bb_Graph_link 38 = .ok (.ior, 1) := by decide +kernel
theorem dd_Graph_link_39 : decode bb_Graph_link 39 = .ok (.iastore, 1) := by decide +kernel
theorem dd_Graph_link_40 : decode bb_Graph_link 40 = .ok (.return_, 1) := by decide +kernel
set_option maxRecDepth 100000 in
set_option maxHeartbeats 4000000 in
theorem c_Graph_link (l : Launch) {nf : Nat} {a0 : Nat} {a1 : Int32} {a2 : Int32} {a3 : Int32} {c : Zc} {res : Zc} (h : f_Graph_link nf a0 a1 a2 a3 c = some res) : zM l yy_Graph_link ww_Graph_link 0 0 0 0 [.ref a0, .int a1, .int a2, .int a3] c (fun D cid B => zQv D cid B res c.length 0) := by
  refine z_met (cc := bb_Graph_link) (maxL := 4) (ret := none) (by decide +kernel) rfl (Nat.le_of_ble_eq_true rfl) ?_
  intro p e s m args below meth cd D cid B X h1 h2 h3 h4
  have X : zX p s m args cd D cid B bb_Graph_link 4 rr_Graph zT := X
  have H : zH s meth B c.length none "link" := ⟨h1, h2, h4, h3⟩
  unfold f_Graph_link at h
  show Zz p l e (zRm 0 0 0 0) s m args below meth cd _ D cid B 4 0 0 c 0 [(0, .ref a0), (1, .int a1), (2, .int a2), (3, .int a3)] []
  refine z_aload_n X dd_Graph_link_0 rfl 0 rfl ?_
  obtain ⟨v1, ev1, h⟩ := zb h
  refine z_get (j := 6) X dd_Graph_link_1 kc_0 ki_0 (by decide) km_171 (zgr_v ev1) ?_
  refine z_iconst (v := 2) X dd_Graph_link_4 (by decide) ?_
  refine z_iload_n X dd_Graph_link_5 rfl 1 rfl ?_
  refine z_imul X dd_Graph_link_6 ?_
  refine z_bipush (v := 16) X dd_Graph_link_7 (by decide) ?_
  refine z_imul X dd_Graph_link_9 ?_
  refine z_iload_n X dd_Graph_link_10 rfl 2 rfl ?_
  refine z_iadd X dd_Graph_link_11 ?_
  refine z_dup2_11 X dd_Graph_link_12 rfl rfl ?_
  obtain ⟨v2, ev2, h⟩ := zb h
  refine z_iaload X dd_Graph_link_13 rfl ev2 ?_
  refine z_iconst (v := 1) X dd_Graph_link_14 (by decide) ?_
  refine z_iload_n X dd_Graph_link_15 rfl 3 rfl ?_
  refine z_ishl X dd_Graph_link_16 ?_
  refine z_ior X dd_Graph_link_17 ?_
  obtain ⟨c3, ec3, h⟩ := zb h
  refine z_iastore X dd_Graph_link_18 rfl ec3 ?_
  refine z_aload_n X dd_Graph_link_19 rfl 0 rfl ?_
  obtain ⟨v4, ev4, h⟩ := zb h
  refine z_get (j := 6) X dd_Graph_link_20 kc_0 ki_0 (by decide) km_171 (zgr_v ev4) ?_
  refine z_iconst (v := 2) X dd_Graph_link_23 (by decide) ?_
  refine z_iload_n X dd_Graph_link_24 rfl 1 rfl ?_
  refine z_imul X dd_Graph_link_25 ?_
  refine z_iconst (v := 1) X dd_Graph_link_26 (by decide) ?_
  refine z_iadd X dd_Graph_link_27 ?_
  refine z_bipush (v := 16) X dd_Graph_link_28 (by decide) ?_
  refine z_imul X dd_Graph_link_30 ?_
  refine z_iload_n X dd_Graph_link_31 rfl 3 rfl ?_
  refine z_iadd X dd_Graph_link_32 ?_
  refine z_dup2_11 X dd_Graph_link_33 rfl rfl ?_
  obtain ⟨v5, ev5, h⟩ := zb h
  refine z_iaload X dd_Graph_link_34 rfl ev5 ?_
  refine z_iconst (v := 1) X dd_Graph_link_35 (by decide) ?_
  refine z_iload_n X dd_Graph_link_36 rfl 2 rfl ?_
  refine z_ishl X dd_Graph_link_37 ?_
  refine z_ior X dd_Graph_link_38 ?_
  obtain ⟨c6, ec6, h⟩ := zb h
  refine z_iastore X dd_Graph_link_39 rfl ec6 ?_
  obtain rfl := Option.some.inj h
  exact z_vret X H.1 H.2.1 H.2.2.1 dd_Graph_link_40
end ZzM
