section ZzM
variable {p : Program} {l : Launch} {e : Env} {s : State} {m : MethodId} {args : Array Value} {below : List Frame} {meth : Method} {cd : Code} {Q : State → Prop} {D : va_G} {cid : Nat → ClassId} {B n0 : Nat}
theorem dd_Way_arcsBetween_0 : decode bb_Way_arcsBetween 0 = .ok (.aload_n 0, 1) := by decide +kernel
theorem dd_Way_arcsBetween_1 : decode bb_Way_arcsBetween 1 = .ok (.getfield 57, 3) := by decide +kernel
theorem dd_Way_arcsBetween_4 : decode bb_Way_arcsBetween 4 = .ok (.iload_n 1, 1) := by decide +kernel
theorem dd_Way_arcsBetween_5 : decode bb_Way_arcsBetween 5 = .ok (.bipush 16, 2) := by decide +kernel
theorem dd_Way_arcsBetween_7 : decode bb_Way_arcsBetween 7 = .ok (.imul, 1) := by decide +kernel
theorem dd_Way_arcsBetween_8 : decode bb_Way_arcsBetween 8 = .ok (.iload_n 2, 1) := by decide +kernel
theorem dd_Way_arcsBetween_9 : decode bb_Way_arcsBetween 9 = .ok (.iadd, 1) := by decide +kernel
theorem dd_Way_arcsBetween_10 : decode bb_Way_arcsBetween 10 = .ok (.iaload, 1) := by decide +kernel
theorem dd_Way_arcsBetween_11 : decode bb_Way_arcsBetween 11 = .ok (.ireturn, 1) := by decide +kernel
set_option maxRecDepth 100000 in
set_option maxHeartbeats 4000000 in
theorem c_Way_arcsBetween (l : Launch) {nf : Nat} {a0 : Nat} {a1 : Int32} {a2 : Int32} {c : Zc} {res : Int32 × Zc} (h : f_Way_arcsBetween nf a0 a1 a2 c = some res) : zM l yy_Way_arcsBetween ww_Way_arcsBetween 0 0 0 0 [.ref a0, .int a1, .int a2] c (fun D cid B => zQi D cid B res.1 res.2 c.length 0) := by
  refine z_met (cc := bb_Way_arcsBetween) (maxL := 3) (ret := (some (.int))) (by decide +kernel) rfl (Nat.le_of_ble_eq_true rfl) ?_
  intro p e s m args below meth cd D cid B X h1 h2 h3 h4
  have X : zX p s m args cd D cid B bb_Way_arcsBetween 3 rr_Way zT := X
  have H : zH s meth B c.length (some (.int)) "arcsBetween" := ⟨h1, h2, h4, h3⟩
  unfold f_Way_arcsBetween at h
  show Zz p l e (zRm 0 0 0 0) s m args below meth cd _ D cid B 3 0 0 c 0 [(0, .ref a0), (1, .int a1), (2, .int a2)] []
  refine z_aload_n X dd_Way_arcsBetween_0 rfl 0 rfl ?_
  obtain ⟨v1, ev1, h⟩ := zb h
  refine z_get (j := 13) X dd_Way_arcsBetween_1 kc_1 ki_1 (by decide) km_249 (zgr_v ev1) ?_
  refine z_iload_n X dd_Way_arcsBetween_4 rfl 1 rfl ?_
  refine z_bipush (v := 16) X dd_Way_arcsBetween_5 (by decide) ?_
  refine z_imul X dd_Way_arcsBetween_7 ?_
  refine z_iload_n X dd_Way_arcsBetween_8 rfl 2 rfl ?_
  refine z_iadd X dd_Way_arcsBetween_9 ?_
  obtain ⟨v2, ev2, h⟩ := zb h
  refine z_iaload X dd_Way_arcsBetween_10 rfl ev2 ?_
  obtain rfl := Option.some.inj h
  exact z_iret X H.1 H.2.1 H.2.2.1 dd_Way_arcsBetween_11
theorem dd_Text_init_0 : decode bb_Text_init 0 = .ok (.aload_n 0, 1) := by decide +kernel
theorem dd_Text_init_1 : decode bb_Text_init 1 = .ok (.invokespecial 3, 3) := by decide +kernel
theorem dd_Text_init_4 : decode bb_Text_init 4 = .ok (.aload_n 0, 1) := by decide +kernel
theorem dd_Text_init_5 : decode bb_Text_init 5 = .ok (.iconst 0, 1) := by decide +kernel
theorem dd_Text_init_6 : decode bb_Text_init 6 = .ok (.putfield 9, 3) := by decide +kernel
theorem dd_Text_init_9 : decode bb_Text_init 9 = .ok (.aload_n 0, 1) := by decide +kernel
theorem dd_Text_init_10 : decode bb_Text_init 10 = .ok (.iconst 0, 1) := by decide +kernel
theorem dd_Text_init_11 : decode bb_Text_init 11 = .ok (.putfield 15, 3) := by decide +kernel
theorem dd_Text_init_14 : decode bb_Text_init 14 = .ok (.aload_n 0, 1) := by decide +kernel
theorem dd_Text_init_15 : decode bb_Text_init 15 = .ok (.iconst 0, 1) := by decide +kernel
theorem dd_Text_init_16 : decode bb_Text_init 16 = .ok (.putfield 19, 3) := by decide +kernel
theorem dd_Text_init_19 : decode bb_Text_init 19 = .ok (.aload_n 0, 1) := by decide +kernel
theorem dd_Text_init_20 : decode bb_Text_init 20 = .ok (.iconst 0, 1) := by decide +kernel
theorem dd_Text_init_21 : decode bb_Text_init 21 = .ok (.putfield 22, 3) := by decide +kernel
theorem dd_Text_init_24 : decode bb_Text_init 24 = .ok (.aload_n 0, 1) := by decide +kernel
theorem dd_Text_init_25 : decode bb_Text_init 25 = .ok (.bipush 10, 2) := by decide +kernel
theorem dd_Text_init_27 : decode bb_Text_init 27 = .ok (.anewarray 25, 3) := by decide +kernel
theorem dd_Text_init_30 : decode bb_Text_init 30 = .ok (.putfield 27, 3) := by decide +kernel
theorem dd_Text_init_33 : decode bb_Text_init 33 = .ok (.aload_n 0, 1) := by decide +kernel
theorem dd_Text_init_34 : decode bb_Text_init 34 = .ok (.iconst 0, 1) := by decide +kernel
theorem dd_Text_init_35 : decode bb_Text_init 35 = .ok (.putfield 31, 3) := by decide +kernel
theorem dd_Text_init_38 : decode bb_Text_init 38 = .ok (.aload_n 0, 1) := by decide +kernel
theorem dd_Text_init_39 : decode bb_Text_init 39 = .ok (.bipush 70, 2) := by decide +kernel
theorem dd_Text_init_41 : decode bb_Text_init 41 = .ok (.newarray .int, 2) := by decide +kernel
theorem dd_Text_init_43 : decode bb_Text_init 43 = .ok (.putfield 34, 3) := by decide +kernel
theorem dd_Text_init_46 : decode bb_Text_init 46 = .ok (.aload_n 0, 1) := by decide +kernel
theorem dd_Text_init_47 : decode bb_Text_init 47 = .ok (.bipush 70, 2) := by decide +kernel
theorem dd_Text_init_49 : decode bb_Text_init 49 = .ok (.newarray .int, 2) := by decide +kernel
theorem dd_Text_init_51 : decode bb_Text_init 51 = .ok (.putfield 38, 3) := by decide +kernel
theorem dd_Text_init_54 : decode bb_Text_init 54 = .ok (.aload_n 0, 1) := by decide +kernel
theorem dd_Text_init_55 : decode bb_Text_init 55 = .ok (.iconst 0, 1) := by decide +kernel
theorem dd_Text_init_56 : decode bb_Text_init 56 = .ok (.putfield 41, 3) := by decide +kernel
theorem dd_Text_init_59 : decode bb_Text_init 59 = .ok (.aload_n 0, 1) := by decide +kernel
theorem dd_Text_init_60 : decode bb_Text_init 60 = .ok (.bipush 70, 2) := by decide +kernel
theorem dd_Text_init_62 : decode bb_Text_init 62 = .ok (.newarray .int, 2) := by decide +kernel
theorem dd_Text_init_64 : decode bb_Text_init 64 = .ok (.putfield 44, 3) := by decide +kernel
theorem dd_Text_init_67 : decode bb_Text_init 67 = .ok (.aload_n 0, 1) := by decide +kernel
theorem dd_Text_init_68 : decode bb_Text_init 68 = .ok (.bipush 70, 2) := by decide +kernel
theorem dd_Text_init_70 : decode bb_Text_init 70 = .ok (.newarray .int, 2) := by decide +kernel
theorem dd_Text_init_72 : decode bb_Text_init 72 = .ok (.putfield 47, 3) := by decide +kernel
theorem dd_Text_init_75 : decode bb_Text_init 75 = .ok (.aload_n 0, 1) := by decide +kernel
theorem dd_Text_init_76 : decode bb_Text_init 76 = .ok (.bipush 70, 2) := by decide +kernel
theorem dd_Text_init_78 : decode bb_Text_init 78 = .ok (.newarray .int, 2) := by decide +kernel
theorem dd_Text_init_80 : decode bb_Text_init 80 = .ok (.putfield 50, 3) := by decide +kernel
theorem dd_Text_init_83 : decode bb_Text_init 83 = .ok (.aload_n 0, 1) := by decide +kernel
theorem dd_Text_init_84 : decode bb_Text_init 84 = .ok (.iconst 0, 1) := by decide +kernel
theorem dd_Text_init_85 : decode bb_Text_init 85 = .ok (.putfield 53, 3) := by decide +kernel
theorem dd_Text_init_88 : decode bb_Text_init 88 = .ok (.aload_n 0, 1) := by decide +kernel
theorem dd_Text_init_89 : decode bb_Text_init 89 = .ok (.sipush 202, 3) := by decide +kernel
theorem dd_Text_init_92 : decode bb_Text_init 92 = .ok (.newarray .int, 2) := by decide +kernel
theorem dd_Text_init_94 : decode bb_Text_init 94 = .ok (.putfield 56, 3) := by decide +kernel
theorem dd_Text_init_97 : decode bb_Text_init 97 = .ok (.aload_n 0, 1) := by decide +kernel
theorem dd_Text_init_98 : decode bb_Text_init 98 = .ok (.iconst 0, 1) := by decide +kernel
theorem dd_Text_init_99 : decode bb_Text_init 99 = .ok (.putfield 59, 3) := by decide +kernel
theorem dd_Text_init_102 : decode bb_Text_init 102 = .ok (.aload_n 0, 1) := by decide +kernel
theorem dd_Text_init_103 : decode bb_Text_init 103 = .ok (.iconst 0, 1) := by decide +kernel
theorem dd_Text_init_104 : decode bb_Text_init 104 = .ok (.putfield 62, 3) := by decide +kernel
theorem dd_Text_init_107 : decode bb_Text_init 107 = .ok (.aload_n 0, 1) := by decide +kernel
theorem dd_Text_init_108 : decode bb_Text_init 108 = .ok (.bipush 8, 2) := by decide +kernel
theorem dd_Text_init_110 : decode bb_Text_init 110 = .ok (.newarray .int, 2) := by decide +kernel
theorem dd_Text_init_112 : decode bb_Text_init 112 = .ok (.putfield 65, 3) := by decide +kernel
theorem dd_Text_init_115 : decode bb_Text_init 115 = .ok (.aload_n 0, 1) := by decide +kernel
theorem dd_Text_init_116 : decode bb_Text_init 116 = .ok (.bipush 8, 2) := by decide +kernel
theorem dd_Text_init_118 : decode bb_Text_init 118 = .ok (.newarray .int, 2) := by decide +kernel
theorem dd_Text_init_120 : decode bb_Text_init 120 = .ok (.putfield 68, 3) := by decide +kernel
theorem dd_Text_init_123 : decode bb_Text_init 123 = .ok (.aload_n 0, 1) := by decide +kernel
theorem dd_Text_init_124 : decode bb_Text_init 124 = .ok (.sipush 20000, 3) := by decide +kernel
theorem dd_Text_init_127 : decode bb_Text_init 127 = .ok (.putfield 71, 3) := by decide +kernel
theorem dd_Text_init_130 : decode bb_Text_init 130 = .ok (.aload_n 0, 1) := by decide +kernel
theorem dd_Text_init_131 : decode bb_Text_init 131 = .ok (.iconst 0, 1) := by decide +kernel
theorem dd_Text_init_132 : decode bb_Text_init 132 = .ok (.putfield 74, 3) := by decide +kernel
theorem dd_Text_init_135 : decode bb_Text_init 135 = .ok (.aload_n 0, 1) := by decide +kernel
theorem dd_Text_init_136 : decode bb_Text_init 136 = .ok (.iconst 0, 1) := by decide +kernel
theorem dd_Text_init_137 : decode bb_Text_init 137 = .ok (.putfield 77, 3) := by decide +kernel
theorem dd_Text_init_140 : decode bb_Text_init 140 = .ok (.iconst 0, 1) := by decide +kernel
theorem dd_Text_init_141 : decode bb_Text_init 141 = .ok (.istore_n 1, 1) := by decide +kernel
theorem dd_Text_init_142 : decode bb_Text_init 142 = .ok (.iload_n 1, 1) := by decide +kernel
theorem dd_Text_init_143 : decode bb_Text_init 143 = .ok (.bipush 10, 2) := by decide +kernel
theorem dd_Text_init_145 : decode bb_Text_init 145 = .ok (.if_icmp .ge 22, 3) := by decide +kernel
theorem dd_Text_init_148 : decode bb_Text_init 148 = .ok (.aload_n 0, 1) := by decide +kernel
theorem dd_Text_init_149 : decode bb_Text_init 149 = .ok (.getfield 27, 3) := by decide +kernel
theorem dd_Text_init_152 : decode bb_Text_init 152 = .ok (.iload_n 1, 1) := by decide +kernel
theorem dd_Text_init_153 : decode bb_Text_init 153 = .ok (.new 25, 3) := by decide +kernel
theorem dd_Text_init_156 : decode bb_Text_init 156 = .ok (.dup, 1) := by decide +kernel
theorem dd_Text_init_157 : decode bb_Text_init 157 = .ok (.invokespecial 80, 3) := by decide +kernel
theorem dd_Text_init_160 : decode bb_Text_init 160 = .ok (.aastore, 1) := by decide +kernel
theorem dd_Text_init_161 : decode bb_Text_init 161 = .ok (.iinc 1 1, 3) := by decide +kernel
theorem dd_Text_init_164 : decode bb_Text_init 164 = .ok (.goto (-22), 3) := by decide +kernel
theorem dd_Text_init_167 : decode bb_Text_init 167 = .ok (.return_, 1) := by decide +kernel
set_option maxRecDepth 100000 in
set_option maxHeartbeats 4000000 in
theorem u_Text_init_142  (X : zX p s m args cd D cid B bb_Text_init 2 rr_Text zT) (H : zH s meth B n0 none "<init>") {nf mc ms : Nat} {x0 : Nat} {x1 : Int32} {kk : Nat} {nn : Nat} {c : Zc} {r : (Nat × Int32 × Nat × Nat × Zc) ⊕ (Nat × Nat × Zc)} (h : g_Text_init_142 nf mc ms x0 x1 kk nn c = some r) (k0 : ∀ a, r = .inl a → (fun a : Nat × Int32 × Nat × Nat × Zc => Zz p l e (zRm 2 40 mc ms) s m args below meth cd Q D cid B 2 a.2.2.1 a.2.2.2.1 a.2.2.2.2 142 [(0, .ref a.1), (1, .int a.2.1)] []) a) (k1 : ∀ b, r = .inr b → (fun b : Nat × Nat × Zc => Zz p l e (zRm 2 40 mc ms) s m args below meth cd Q D cid B 2 b.1 b.2.1 b.2.2 167 [] []) b) : Zz p l e (zRm 2 40 mc ms) s m args below meth cd Q D cid B 2 kk nn c 142 [(0, .ref x0), (1, .int x1)] [] := by
  unfold g_Text_init_142 at h
  refine z_iload_n X dd_Text_init_142 rfl 1 rfl ?_
  refine z_bipush (v := 10) X dd_Text_init_143 (by decide) ?_
  refine z_icmp_ge (tgt := 167) X dd_Text_init_145 (by decide) (fun q40 => ?_) (fun q40 => ?_)
  · rw [if_pos q40] at h
    refine z_sub [] rfl ?_
    obtain rfl := Option.some.inj h
    exact k1 _ rfl
  · rw [if_neg q40] at h
    refine z_aload_n X dd_Text_init_148 rfl 0 rfl ?_
    obtain ⟨v41, ev41, h⟩ := zb h
    refine z_get (j := 4) X dd_Text_init_149 kc_2 ki_2 (by decide) km_313 (zgr_v ev41) ?_
    refine z_iload_n X dd_Text_init_152 rfl 1 rfl ?_
    obtain ⟨u43, eu43, h⟩ := zb h
    obtain ⟨c42, ec42, h⟩ := zb h
    refine z_newC X dd_Text_init_153 kc_1 ki_1 tt_Way tk_Way km_213 km_215 km_129 (by decide +kernel) (fun _ _ => rfl) (zlim_s eu43).1 (zlim_s eu43).2 ec42 ?_
    refine z_dup X dd_Text_init_156 rfl ?_
    obtain ⟨u45, eu45, h⟩ := zb h
    obtain ⟨q44, eq44, h⟩ := zb h
    refine z_callIv (ret := none) X [] rfl dd_Text_init_157 (c_Way_init l eq44) (cwI 0 X.1.2.2.2.2 (zg_I km_218) rfl rfl rfl (X.1.2.2.2.2 _ km_129) (X.1.2.2.2.2 _ km_216) (X.1.2.2.2.2 _ km_217) rfl (by decide +kernel) ⟨Nat.le_of_ble_eq_true rfl, Nat.le_of_ble_eq_true rfl⟩) rfl (Nat.le_of_ble_eq_true rfl) (zlim_s eu45) ?_
    obtain ⟨c46, ec46, h⟩ := zb h
    refine z_aastore X dd_Text_init_160 kc_1 rfl ec46 ?_
    refine z_iinc (v := (x1 + 1)) (lv' := [(1, .int (x1 + 1)), (0, .ref x0)]) X dd_Text_init_161 1 rfl rfl (by decide) rfl ?_
    refine z_goto (tgt := 142) X dd_Text_init_164 (by decide) ?_
    refine z_sub [1, 0] rfl ?_
    obtain rfl := Option.some.inj h
    exact k0 _ rfl
set_option maxRecDepth 100000 in
set_option maxHeartbeats 4000000 in
theorem t_Text_init_142  (X : zX p s m args cd D cid B bb_Text_init 2 rr_Text zT) (H : zH s meth B n0 none "<init>") {nf mc ms : Nat} {x0 : Nat} {x1 : Int32} {kk : Nat} {nn : Nat} {c : Zc} {res : Zc} (h : f_Text_init_142 nf mc ms x0 x1 kk nn c = some res) : Zz p l e (zRm 2 40 mc ms) s m args below meth cd (MQ below (zQv D cid B res n0 mc) args s mc ms (fun q => B ≤ q)) D cid B 2 kk nn c 142 [(0, .ref x0), (1, .int x1)] [] := by
  unfold f_Text_init_142 at h
  obtain ⟨b, eb, h⟩ := zb h
  refine zlp_ok (P := fun a : Nat × Int32 × Nat × Nat × Zc => Zz p l e (zRm 2 40 mc ms) s m args below meth cd _ D cid B 2 a.2.2.1 a.2.2.2.1 a.2.2.2.2 142 [(0, .ref a.1), (1, .int a.2.1)] []) (G := fun b : Nat × Nat × Zc => Zz p l e (zRm 2 40 mc ms) s m args below meth cd _ D cid B 2 b.1 b.2.1 b.2.2 167 [] []) (fun a r ha k0 k1 => u_Text_init_142 X H ha k0 k1) nf _ b eb ?_
  obtain ⟨u47, eu47, h⟩ := zb h
  refine z_wid (zend_s eu47).1 (zend_s eu47).2 ?_
  obtain rfl := Option.some.inj h
  exact z_vret X H.1 H.2.1 H.2.2.1 dd_Text_init_167
set_option maxRecDepth 100000 in
set_option maxHeartbeats 4000000 in
theorem c_Text_init (l : Launch) {nf mc ms : Nat} {a0 : Nat} {c : Zc} {res : Zc} (h : f_Text_init nf mc ms a0 c = some res) : zM l yy_Text_init ww_Text_init 2 40 mc ms [.ref a0] c (fun D cid B => zQv D cid B res c.length mc) := by
  refine z_met (cc := bb_Text_init) (maxL := 2) (ret := none) (by decide +kernel) rfl (Nat.le_of_ble_eq_true rfl) ?_
  intro p e s m args below meth cd D cid B X h1 h2 h3 h4
  have X : zX p s m args cd D cid B bb_Text_init 2 rr_Text zT := X
  have H : zH s meth B c.length none "<init>" := ⟨h1, h2, h4, h3⟩
  unfold f_Text_init at h
  show Zz p l e (zRm 2 40 mc ms) s m args below meth cd _ D cid B 2 0 0 c 0 [(0, .ref a0)] []
  refine z_aload_n X dd_Text_init_0 rfl 0 rfl ?_
  refine z_objInit X dd_Text_init_1 km_212 km_153 km_154 (Nat.le_of_ble_eq_true rfl) (Nat.le_of_ble_eq_true rfl) ?_
  refine z_aload_n X dd_Text_init_4 rfl 0 rfl ?_
  refine z_iconst (v := 0) X dd_Text_init_5 (by decide) ?_
  obtain ⟨c1, ec1, h⟩ := zb h
  refine z_put (j := 0) X dd_Text_init_6 kc_2 ki_2 tt_Text tk_Text nn_Text (by decide) km_298 rfl (tk_Text 0 (by decide)) rfl rfl ec1 ?_
  refine z_aload_n X dd_Text_init_9 rfl 0 rfl ?_
  refine z_iconst (v := 0) X dd_Text_init_10 (by decide) ?_
  obtain ⟨c2, ec2, h⟩ := zb h
  refine z_put (j := 1) X dd_Text_init_11 kc_2 ki_2 tt_Text tk_Text nn_Text (by decide) km_302 rfl (tk_Text 1 (by decide)) rfl rfl ec2 ?_
  refine z_aload_n X dd_Text_init_14 rfl 0 rfl ?_
  refine z_iconst (v := 0) X dd_Text_init_15 (by decide) ?_
  obtain ⟨c3, ec3, h⟩ := zb h
  refine z_put (j := 2) X dd_Text_init_16 kc_2 ki_2 tt_Text tk_Text nn_Text (by decide) km_306 rfl (tk_Text 2 (by decide)) rfl rfl ec3 ?_
  refine z_aload_n X dd_Text_init_19 rfl 0 rfl ?_
  refine z_iconst (v := 0) X dd_Text_init_20 (by decide) ?_
  obtain ⟨c4, ec4, h⟩ := zb h
  refine z_put (j := 3) X dd_Text_init_21 kc_2 ki_2 tt_Text tk_Text nn_Text (by decide) km_308 rfl (tk_Text 3 (by decide)) rfl rfl ec4 ?_
  refine z_aload_n X dd_Text_init_24 rfl 0 rfl ?_
  refine z_bipush (v := 10) X dd_Text_init_25 (by decide) ?_
  obtain ⟨u6, eu6, h⟩ := zb h
  obtain ⟨c5, ec5, h⟩ := zb h
  refine z_newqC X dd_Text_init_27 km_213 (by decide +kernel) rfl (by decide) (by decide) (by decide) (zlim_s eu6).1 (zlim_s eu6).2 ec5 ?_
  obtain ⟨c7, ec7, h⟩ := zb h
  refine z_putF (j := 4) X dd_Text_init_30 kc_2 ki_2 tt_Text tk_Text nn_Text (by decide) km_313 rfl H.2.2.2 rfl (tk_Text 4 (by decide)) rfl rfl ec7 ?_
  refine z_aload_n X dd_Text_init_33 rfl 0 rfl ?_
  refine z_iconst (v := 0) X dd_Text_init_34 (by decide) ?_
  obtain ⟨c8, ec8, h⟩ := zb h
  refine z_put (j := 5) X dd_Text_init_35 kc_2 ki_2 tt_Text tk_Text nn_Text (by decide) km_319 rfl (tk_Text 5 (by decide)) rfl rfl ec8 ?_
  refine z_aload_n X dd_Text_init_38 rfl 0 rfl ?_
  refine z_bipush (v := 70) X dd_Text_init_39 (by decide) ?_
  obtain ⟨u10, eu10, h⟩ := zb h
  obtain ⟨c9, ec9, h⟩ := zb h
  refine z_newaC (ty := .int) X dd_Text_init_41 rfl km_206 rfl (fun _ q => by cases q) (fun _ => rfl) (fun _ => rfl) (by decide) (by decide) (by decide) (zlim_s eu10).1 (zlim_s eu10).2 ec9 ?_
  obtain ⟨c11, ec11, h⟩ := zb h
  refine z_putF (j := 6) X dd_Text_init_43 kc_2 ki_2 tt_Text tk_Text nn_Text (by decide) km_321 rfl H.2.2.2 rfl (tk_Text 6 (by decide)) rfl rfl ec11 ?_
  refine z_aload_n X dd_Text_init_46 rfl 0 rfl ?_
  refine z_bipush (v := 70) X dd_Text_init_47 (by decide) ?_
  obtain ⟨u13, eu13, h⟩ := zb h
  obtain ⟨c12, ec12, h⟩ := zb h
  refine z_newaC (ty := .int) X dd_Text_init_49 rfl km_206 rfl (fun _ q => by cases q) (fun _ => rfl) (fun _ => rfl) (by decide) (by decide) (by decide) (zlim_s eu13).1 (zlim_s eu13).2 ec12 ?_
  obtain ⟨c14, ec14, h⟩ := zb h
  refine z_putF (j := 7) X dd_Text_init_51 kc_2 ki_2 tt_Text tk_Text nn_Text (by decide) km_324 rfl H.2.2.2 rfl (tk_Text 7 (by decide)) rfl rfl ec14 ?_
  refine z_aload_n X dd_Text_init_54 rfl 0 rfl ?_
  refine z_iconst (v := 0) X dd_Text_init_55 (by decide) ?_
  obtain ⟨c15, ec15, h⟩ := zb h
  refine z_put (j := 8) X dd_Text_init_56 kc_2 ki_2 tt_Text tk_Text nn_Text (by decide) km_327 rfl (tk_Text 8 (by decide)) rfl rfl ec15 ?_
  refine z_aload_n X dd_Text_init_59 rfl 0 rfl ?_
  refine z_bipush (v := 70) X dd_Text_init_60 (by decide) ?_
  obtain ⟨u17, eu17, h⟩ := zb h
  obtain ⟨c16, ec16, h⟩ := zb h
  refine z_newaC (ty := .int) X dd_Text_init_62 rfl km_206 rfl (fun _ q => by cases q) (fun _ => rfl) (fun _ => rfl) (by decide) (by decide) (by decide) (zlim_s eu17).1 (zlim_s eu17).2 ec16 ?_
  obtain ⟨c18, ec18, h⟩ := zb h
  refine z_putF (j := 9) X dd_Text_init_64 kc_2 ki_2 tt_Text tk_Text nn_Text (by decide) km_329 rfl H.2.2.2 rfl (tk_Text 9 (by decide)) rfl rfl ec18 ?_
  refine z_aload_n X dd_Text_init_67 rfl 0 rfl ?_
  refine z_bipush (v := 70) X dd_Text_init_68 (by decide) ?_
  obtain ⟨u20, eu20, h⟩ := zb h
  obtain ⟨c19, ec19, h⟩ := zb h
  refine z_newaC (ty := .int) X dd_Text_init_70 rfl km_206 rfl (fun _ q => by cases q) (fun _ => rfl) (fun _ => rfl) (by decide) (by decide) (by decide) (zlim_s eu20).1 (zlim_s eu20).2 ec19 ?_
  obtain ⟨c21, ec21, h⟩ := zb h
  refine z_putF (j := 10) X dd_Text_init_72 kc_2 ki_2 tt_Text tk_Text nn_Text (by decide) km_332 rfl H.2.2.2 rfl (tk_Text 10 (by decide)) rfl rfl ec21 ?_
  refine z_aload_n X dd_Text_init_75 rfl 0 rfl ?_
  refine z_bipush (v := 70) X dd_Text_init_76 (by decide) ?_
  obtain ⟨u23, eu23, h⟩ := zb h
  obtain ⟨c22, ec22, h⟩ := zb h
  refine z_newaC (ty := .int) X dd_Text_init_78 rfl km_206 rfl (fun _ q => by cases q) (fun _ => rfl) (fun _ => rfl) (by decide) (by decide) (by decide) (zlim_s eu23).1 (zlim_s eu23).2 ec22 ?_
  obtain ⟨c24, ec24, h⟩ := zb h
  refine z_putF (j := 11) X dd_Text_init_80 kc_2 ki_2 tt_Text tk_Text nn_Text (by decide) km_334 rfl H.2.2.2 rfl (tk_Text 11 (by decide)) rfl rfl ec24 ?_
  refine z_aload_n X dd_Text_init_83 rfl 0 rfl ?_
  refine z_iconst (v := 0) X dd_Text_init_84 (by decide) ?_
  obtain ⟨c25, ec25, h⟩ := zb h
  refine z_put (j := 12) X dd_Text_init_85 kc_2 ki_2 tt_Text tk_Text nn_Text (by decide) km_336 rfl (tk_Text 12 (by decide)) rfl rfl ec25 ?_
  refine z_aload_n X dd_Text_init_88 rfl 0 rfl ?_
  refine z_sipush (v := 202) X dd_Text_init_89 (by decide) ?_
  obtain ⟨u27, eu27, h⟩ := zb h
  obtain ⟨c26, ec26, h⟩ := zb h
  refine z_newaC (ty := .int) X dd_Text_init_92 rfl km_206 rfl (fun _ q => by cases q) (fun _ => rfl) (fun _ => rfl) (by decide) (by decide) (by decide) (zlim_s eu27).1 (zlim_s eu27).2 ec26 ?_
  obtain ⟨c28, ec28, h⟩ := zb h
  refine z_putF (j := 13) X dd_Text_init_94 kc_2 ki_2 tt_Text tk_Text nn_Text (by decide) km_339 rfl H.2.2.2 rfl (tk_Text 13 (by decide)) rfl rfl ec28 ?_
  refine z_aload_n X dd_Text_init_97 rfl 0 rfl ?_
  refine z_iconst (v := 0) X dd_Text_init_98 (by decide) ?_
  obtain ⟨c29, ec29, h⟩ := zb h
  refine z_put (j := 14) X dd_Text_init_99 kc_2 ki_2 tt_Text tk_Text nn_Text (by decide) km_341 rfl (tk_Text 14 (by decide)) rfl rfl ec29 ?_
  refine z_aload_n X dd_Text_init_102 rfl 0 rfl ?_
  refine z_iconst (v := 0) X dd_Text_init_103 (by decide) ?_
  obtain ⟨c30, ec30, h⟩ := zb h
  refine z_put (j := 15) X dd_Text_init_104 kc_2 ki_2 tt_Text tk_Text nn_Text (by decide) km_344 rfl (tk_Text 15 (by decide)) rfl rfl ec30 ?_
  refine z_aload_n X dd_Text_init_107 rfl 0 rfl ?_
  refine z_bipush (v := 8) X dd_Text_init_108 (by decide) ?_
  obtain ⟨u32, eu32, h⟩ := zb h
  obtain ⟨c31, ec31, h⟩ := zb h
  refine z_newaC (ty := .int) X dd_Text_init_110 rfl km_206 rfl (fun _ q => by cases q) (fun _ => rfl) (fun _ => rfl) (by decide) (by decide) (by decide) (zlim_s eu32).1 (zlim_s eu32).2 ec31 ?_
  obtain ⟨c33, ec33, h⟩ := zb h
  refine z_putF (j := 16) X dd_Text_init_112 kc_2 ki_2 tt_Text tk_Text nn_Text (by decide) km_348 rfl H.2.2.2 rfl (tk_Text 16 (by decide)) rfl rfl ec33 ?_
  refine z_aload_n X dd_Text_init_115 rfl 0 rfl ?_
  refine z_bipush (v := 8) X dd_Text_init_116 (by decide) ?_
  obtain ⟨u35, eu35, h⟩ := zb h
  obtain ⟨c34, ec34, h⟩ := zb h
  refine z_newaC (ty := .int) X dd_Text_init_118 rfl km_206 rfl (fun _ q => by cases q) (fun _ => rfl) (fun _ => rfl) (by decide) (by decide) (by decide) (zlim_s eu35).1 (zlim_s eu35).2 ec34 ?_
  obtain ⟨c36, ec36, h⟩ := zb h
  refine z_putF (j := 17) X dd_Text_init_120 kc_2 ki_2 tt_Text tk_Text nn_Text (by decide) km_350 rfl H.2.2.2 rfl (tk_Text 17 (by decide)) rfl rfl ec36 ?_
  refine z_aload_n X dd_Text_init_123 rfl 0 rfl ?_
  refine z_sipush (v := 20000) X dd_Text_init_124 (by decide) ?_
  obtain ⟨c37, ec37, h⟩ := zb h
  refine z_put (j := 18) X dd_Text_init_127 kc_2 ki_2 tt_Text tk_Text nn_Text (by decide) km_352 rfl (tk_Text 18 (by decide)) rfl rfl ec37 ?_
  refine z_aload_n X dd_Text_init_130 rfl 0 rfl ?_
  refine z_iconst (v := 0) X dd_Text_init_131 (by decide) ?_
  obtain ⟨c38, ec38, h⟩ := zb h
  refine z_put (j := 19) X dd_Text_init_132 kc_2 ki_2 tt_Text tk_Text nn_Text (by decide) km_355 rfl (tk_Text 19 (by decide)) rfl rfl ec38 ?_
  refine z_aload_n X dd_Text_init_135 rfl 0 rfl ?_
  refine z_iconst (v := 0) X dd_Text_init_136 (by decide) ?_
  obtain ⟨c39, ec39, h⟩ := zb h
  refine z_put (j := 20) X dd_Text_init_137 kc_2 ki_2 tt_Text tk_Text nn_Text (by decide) km_358 rfl (tk_Text 20 (by decide)) rfl rfl ec39 ?_
  refine z_iconst (v := 0) X dd_Text_init_140 (by decide) ?_
  refine z_istore_n (lv' := [(1, .int 0), (0, .ref a0)]) X dd_Text_init_141 rfl (by decide) rfl ?_
  refine z_sub [1, 0] rfl ?_
  exact t_Text_init_142 X H h
theorem dd_Text_endGroup_0 : decode bb_Text_endGroup 0 = .ok (.aload_n 0, 1) := by decide +kernel
theorem dd_Text_endGroup_1 : decode bb_Text_endGroup 1 = .ok (.getfield 47, 3) := by decide +kernel
theorem dd_Text_endGroup_4 : decode bb_Text_endGroup 4 = .ok (.aload_n 0, 1) := by decide +kernel
theorem dd_Text_endGroup_5 : decode bb_Text_endGroup 5 = .ok (.getfield 41, 3) := by decide +kernel
theorem dd_Text_endGroup_8 : decode bb_Text_endGroup 8 = .ok (.iconst 1, 1) := by decide +kernel
theorem dd_Text_endGroup_9 : decode bb_Text_endGroup 9 = .ok (.isub, 1) := by decide +kernel
theorem dd_Text_endGroup_10 : decode bb_Text_endGroup 10 = .ok (.aload_n 0, 1) := by decide +kernel
theorem dd_Text_endGroup_11 : decode bb_Text_endGroup 11 = .ok (.getfield 22, 3) := by decide +kernel
theorem dd_Text_endGroup_14 : decode bb_Text_endGroup 14 = .ok (.iastore, 1) := by decide +kernel
theorem dd_Text_endGroup_15 : decode bb_Text_endGroup 15 = .ok (.aload_n 0, 1) := by decide +kernel
theorem dd_Text_endGroup_16 : decode bb_Text_endGroup 16 = .ok (.getfield 50, 3) := by decide +kernel
theorem dd_Text_endGroup_19 : decode bb_Text_endGroup 19 = .ok (.aload_n 0, 1) := by decide +kernel
theorem dd_Text_endGroup_20 : decode bb_Text_endGroup 20 = .ok (.getfield 41, 3) := by decide +kernel
theorem dd_Text_endGroup_23 : decode bb_Text_endGroup 23 = .ok (.iconst 1, 1) := by decide +kernel
theorem dd_Text_endGroup_24 : decode bb_Text_endGroup 24 = .ok (.isub, 1) := by decide +kernel
theorem dd_Text_endGroup_25 : decode bb_Text_endGroup 25 = .ok (.aload_n 0, 1) := by decide +kernel
theorem dd_Text_endGroup_26 : decode bb_Text_endGroup 26 = .ok (.getfield 31, 3) := by decide +kernel
theorem dd_Text_endGroup_29 : decode bb_Text_endGroup 29 = .ok (.iastore, 1) := by decide +kernel
theorem dd_Text_endGroup_30 : decode bb_Text_endGroup 30 = .ok (.return_, 1) := by decide +kernel
set_option maxRecDepth 100000 in
set_option maxHeartbeats 4000000 in
theorem c_Text_endGroup (l : Launch) {nf : Nat} {a0 : Nat} {c : Zc} {res : Zc} (h : f_Text_endGroup nf a0 c = some res) : zM l yy_Text_endGroup ww_Text_endGroup 0 0 0 0 [.ref a0] c (fun D cid B => zQv D cid B res c.length 0) := by
  refine z_met (cc := bb_Text_endGroup) (maxL := 1) (ret := none) (by decide +kernel) rfl (Nat.le_of_ble_eq_true rfl) ?_
  intro p e s m args below meth cd D cid B X h1 h2 h3 h4
  have X : zX p s m args cd D cid B bb_Text_endGroup 1 rr_Text zT := X
  have H : zH s meth B c.length none "endGroup" := ⟨h1, h2, h4, h3⟩
  unfold f_Text_endGroup at h
  show Zz p l e (zRm 0 0 0 0) s m args below meth cd _ D cid B 1 0 0 c 0 [(0, .ref a0)] []
  refine z_aload_n X dd_Text_endGroup_0 rfl 0 rfl ?_
  obtain ⟨v1, ev1, h⟩ := zb h
  refine z_get (j := 10) X dd_Text_endGroup_1 kc_2 ki_2 (by decide) km_332 (zgr_v ev1) ?_
  refine z_aload_n X dd_Text_endGroup_4 rfl 0 rfl ?_
  obtain ⟨v2, ev2, h⟩ := zb h
  refine z_get (j := 8) X dd_Text_endGroup_5 kc_2 ki_2 (by decide) km_327 (zgi_v ev2) ?_
  refine z_iconst (v := 1) X dd_Text_endGroup_8 (by decide) ?_
  refine z_isub X dd_Text_endGroup_9 ?_
  refine z_aload_n X dd_Text_endGroup_10 rfl 0 rfl ?_
  obtain ⟨v3, ev3, h⟩ := zb h
  refine z_get (j := 3) X dd_Text_endGroup_11 kc_2 ki_2 (by decide) km_308 (zgi_v ev3) ?_
  obtain ⟨c4, ec4, h⟩ := zb h
  refine z_iastore X dd_Text_endGroup_14 rfl ec4 ?_
  refine z_aload_n X dd_Text_endGroup_15 rfl 0 rfl ?_
  obtain ⟨v5, ev5, h⟩ := zb h
  refine z_get (j := 11) X dd_Text_endGroup_16 kc_2 ki_2 (by decide) km_334 (zgr_v ev5) ?_
  refine z_aload_n X dd_Text_endGroup_19 rfl 0 rfl ?_
  obtain ⟨v6, ev6, h⟩ := zb h
  refine z_get (j := 8) X dd_Text_endGroup_20 kc_2 ki_2 (by decide) km_327 (zgi_v ev6) ?_
  refine z_iconst (v := 1) X dd_Text_endGroup_23 (by decide) ?_
  refine z_isub X dd_Text_endGroup_24 ?_
  refine z_aload_n X dd_Text_endGroup_25 rfl 0 rfl ?_
  obtain ⟨v7, ev7, h⟩ := zb h
  refine z_get (j := 5) X dd_Text_endGroup_26 kc_2 ki_2 (by decide) km_319 (zgi_v ev7) ?_
  obtain ⟨c8, ec8, h⟩ := zb h
  refine z_iastore X dd_Text_endGroup_29 rfl ec8 ?_
  obtain rfl := Option.some.inj h
  exact z_vret X H.1 H.2.1 H.2.2.1 dd_Text_endGroup_30
theorem dd_Text_openGroup_0 : decode bb_Text_openGroup 0 = .ok (.aload_n 0, 1) := by decide +kernel
theorem dd_Text_openGroup_1 : decode bb_Text_openGroup 1 = .ok (.getfield 41, 3) := by decide +kernel
theorem dd_Text_openGroup_4 : decode bb_Text_openGroup 4 = .ok (.bipush 70, 2) := by decide +kernel
theorem dd_Text_openGroup_6 : decode bb_Text_openGroup 6 = .ok (.if_icmp .ge 27, 3) := by decide +kernel
theorem dd_Text_openGroup_9 : decode bb_Text_openGroup 9 = .ok (.aload_n 0, 1) := by decide +kernel
theorem dd_Text_openGroup_10 : decode bb_Text_openGroup 10 = .ok (.getfield 44, 3) := by decide +kernel
theorem dd_Text_openGroup_13 : decode bb_Text_openGroup 13 = .ok (.aload_n 0, 1) := by decide +kernel
theorem dd_Text_openGroup_14 : decode bb_Text_openGroup 14 = .ok (.getfield 41, 3) := by decide +kernel
theorem dd_Text_openGroup_17 : decode bb_Text_openGroup 17 = .ok (.iconst 0, 1) := by decide +kernel
theorem dd_Text_openGroup_18 : decode bb_Text_openGroup 18 = .ok (.iastore, 1) := by decide +kernel
theorem dd_Text_openGroup_19 : decode bb_Text_openGroup 19 = .ok (.aload_n 0, 1) := by decide +kernel
theorem dd_Text_openGroup_20 : decode bb_Text_openGroup 20 = .ok (.dup, 1) := by decide +kernel
theorem dd_Text_openGroup_21 : decode bb_Text_openGroup 21 = .ok (.getfield 41, 3) := by decide +kernel
theorem dd_Text_openGroup_24 : decode bb_Text_openGroup 24 = .ok (.iconst 1, 1) := by decide +kernel
theorem dd_Text_openGroup_25 : decode bb_Text_openGroup 25 = .ok (.iadd, 1) := by decide +kernel
theorem dd_Text_openGroup_26 : decode bb_Text_openGroup 26 = .ok (.putfield 41, 3) := by decide +kernel
theorem dd_Text_openGroup_29 : decode bb_Text_openGroup 29 = .ok (.aload_n 0, 1) := by decide +kernel
theorem dd_Text_openGroup_30 : decode bb_Text_openGroup 30 = .ok (.invokevirtual 84, 3) := by decide +kernel
theorem dd_Text_openGroup_33 : decode bb_Text_openGroup 33 = .ok (.return_, 1) := by decide +kernel
set_option maxRecDepth 100000 in
set_option maxHeartbeats 4000000 in
theorem t_Text_openGroup_33  (X : zX p s m args cd D cid B bb_Text_openGroup 1 rr_Text zT) (H : zH s meth B n0 none "openGroup") {nf : Nat}  {c : Zc} {res : Zc} (h : f_Text_openGroup_33 nf  c = some res) : Zz p l e (zRm 1 20 0 0) s m args below meth cd (MQ below (zQv D cid B res n0 0) args s 0 0 (fun q => B ≤ q)) D cid B 1 0 0 c 33 [] [] := by
  unfold f_Text_openGroup_33 at h
  obtain rfl := Option.some.inj h
  exact z_vret X H.1 H.2.1 H.2.2.1 dd_Text_openGroup_33
set_option maxRecDepth 100000 in
set_option maxHeartbeats 4000000 in
theorem c_Text_openGroup (l : Launch) {nf : Nat} {a0 : Nat} {c : Zc} {res : Zc} (h : f_Text_openGroup nf a0 c = some res) : zM l yy_Text_openGroup ww_Text_openGroup 1 20 0 0 [.ref a0] c (fun D cid B => zQv D cid B res c.length 0) := by
  refine z_met (cc := bb_Text_openGroup) (maxL := 1) (ret := none) (by decide +kernel) rfl (Nat.le_of_ble_eq_true rfl) ?_
  intro p e s m args below meth cd D cid B X h1 h2 h3 h4
  have X : zX p s m args cd D cid B bb_Text_openGroup 1 rr_Text zT := X
  have H : zH s meth B c.length none "openGroup" := ⟨h1, h2, h4, h3⟩
  unfold f_Text_openGroup at h
  show Zz p l e (zRm 1 20 0 0) s m args below meth cd _ D cid B 1 0 0 c 0 [(0, .ref a0)] []
  refine z_aload_n X dd_Text_openGroup_0 rfl 0 rfl ?_
  obtain ⟨v1, ev1, h⟩ := zb h
  refine z_get (j := 8) X dd_Text_openGroup_1 kc_2 ki_2 (by decide) km_327 (zgi_v ev1) ?_
  refine z_bipush (v := 70) X dd_Text_openGroup_4 (by decide) ?_
  refine z_icmp_ge (tgt := 33) X dd_Text_openGroup_6 (by decide) (fun q2 => ?_) (fun q2 => ?_)
  · rw [if_pos q2] at h
    refine z_sub [] rfl ?_
    exact t_Text_openGroup_33 X H h
  · rw [if_neg q2] at h
    refine z_aload_n X dd_Text_openGroup_9 rfl 0 rfl ?_
    obtain ⟨v3, ev3, h⟩ := zb h
    refine z_get (j := 9) X dd_Text_openGroup_10 kc_2 ki_2 (by decide) km_329 (zgr_v ev3) ?_
    refine z_aload_n X dd_Text_openGroup_13 rfl 0 rfl ?_
    obtain ⟨v4, ev4, h⟩ := zb h
    refine z_get (j := 8) X dd_Text_openGroup_14 kc_2 ki_2 (by decide) km_327 (zgi_v ev4) ?_
    refine z_iconst (v := 0) X dd_Text_openGroup_17 (by decide) ?_
    obtain ⟨c5, ec5, h⟩ := zb h
    refine z_iastore X dd_Text_openGroup_18 rfl ec5 ?_
    refine z_aload_n X dd_Text_openGroup_19 rfl 0 rfl ?_
    refine z_dup X dd_Text_openGroup_20 rfl ?_
    obtain ⟨v6, ev6, h⟩ := zb h
    refine z_get (j := 8) X dd_Text_openGroup_21 kc_2 ki_2 (by decide) km_327 (zgi_v ev6) ?_
    refine z_iconst (v := 1) X dd_Text_openGroup_24 (by decide) ?_
    refine z_iadd X dd_Text_openGroup_25 ?_
    obtain ⟨c7, ec7, h⟩ := zb h
    refine z_put (j := 8) X dd_Text_openGroup_26 kc_2 ki_2 tt_Text tk_Text nn_Text (by decide) km_327 rfl (tk_Text 8 (by decide)) rfl rfl ec7 ?_
    refine z_aload_n X dd_Text_openGroup_29 rfl 0 rfl ?_
    obtain ⟨w9, ew9, h⟩ := zb h
    obtain ⟨q8, eq8, h⟩ := zb h
    refine z_callVv X [] rfl dd_Text_openGroup_30 (c_Text_endGroup l eq8) (cwV 0 X.1.2.2.2.2 (zg_V km_828 km_829 km_830 km_128 km_831) rfl rfl rfl (by decide +kernel) ⟨Nat.le_of_ble_eq_true rfl, Nat.le_of_ble_eq_true rfl⟩) (zob_s ew9) kc_2 rfl (Nat.le_of_ble_eq_true rfl) ⟨Nat.le_of_ble_eq_true rfl, Nat.le_of_ble_eq_true rfl⟩ ?_
    refine z_sub [] rfl ?_
    exact t_Text_openGroup_33 X H h
theorem dd_Text_clear_0 : decode bb_Text_clear 0 = .ok (.aload_n 0, 1) := by decide +kernel
theorem dd_Text_clear_1 : decode bb_Text_clear 1 = .ok (.iconst 0, 1) := by decide +kernel
theorem dd_Text_clear_2 : decode bb_Text_clear 2 = .ok (.putfield 9, 3) := by decide +kernel
theorem dd_Text_clear_5 : decode bb_Text_clear 5 = .ok (.aload_n 0, 1) := by decide +kernel
theorem dd_Text_clear_6 : decode bb_Text_clear 6 = .ok (.iconst 0, 1) := by decide +kernel
theorem dd_Text_clear_7 : decode bb_Text_clear 7 = .ok (.putfield 19, 3) := by decide +kernel
theorem dd_Text_clear_10 : decode bb_Text_clear 10 = .ok (.aload_n 0, 1) := by decide +kernel
theorem dd_Text_clear_11 : decode bb_Text_clear 11 = .ok (.iconst 0, 1) := by decide +kernel
theorem dd_Text_clear_12 : decode bb_Text_clear 12 = .ok (.putfield 22, 3) := by decide +kernel
theorem dd_Text_clear_15 : decode bb_Text_clear 15 = .ok (.aload_n 0, 1) := by decide +kernel
theorem dd_Text_clear_16 : decode bb_Text_clear 16 = .ok (.iconst 0, 1) := by decide +kernel
theorem dd_Text_clear_17 : decode bb_Text_clear 17 = .ok (.putfield 31, 3) := by decide +kernel
theorem dd_Text_clear_20 : decode bb_Text_clear 20 = .ok (.aload_n 0, 1) := by decide +kernel
theorem dd_Text_clear_21 : decode bb_Text_clear 21 = .ok (.iconst 0, 1) := by decide +kernel
theorem dd_Text_clear_22 : decode bb_Text_clear 22 = .ok (.putfield 41, 3) := by decide +kernel
theorem dd_Text_clear_25 : decode bb_Text_clear 25 = .ok (.aload_n 0, 1) := by decide +kernel
theorem dd_Text_clear_26 : decode bb_Text_clear 26 = .ok (.iconst 0, 1) := by decide +kernel
theorem dd_Text_clear_27 : decode bb_Text_clear 27 = .ok (.putfield 53, 3) := by decide +kernel
theorem dd_Text_clear_30 : decode bb_Text_clear 30 = .ok (.aload_n 0, 1) := by decide +kernel
theorem dd_Text_clear_31 : decode bb_Text_clear 31 = .ok (.iconst 0, 1) := by decide +kernel
theorem dd_Text_clear_32 : decode bb_Text_clear 32 = .ok (.putfield 59, 3) := by decide +kernel
theorem dd_Text_clear_35 : decode bb_Text_clear 35 = .ok (.aload_n 0, 1) := by decide +kernel
theorem dd_Text_clear_36 : decode bb_Text_clear 36 = .ok (.iconst 0, 1) := by decide +kernel
theorem dd_Text_clear_37 : decode bb_Text_clear 37 = .ok (.putfield 62, 3) := by decide +kernel
theorem dd_Text_clear_40 : decode bb_Text_clear 40 = .ok (.aload_n 0, 1) := by decide +kernel
theorem dd_Text_clear_41 : decode bb_Text_clear 41 = .ok (.sipush 20000, 3) := by decide +kernel
theorem dd_Text_clear_44 : decode bb_Text_clear 44 = .ok (.putfield 71, 3) := by decide +kernel
theorem dd_Text_clear_47 : decode bb_Text_clear 47 = .ok (.aload_n 0, 1) := by decide +kernel
theorem dd_Text_clear_48 : decode bb_Text_clear 48 = .ok (.invokevirtual 81, 3) := by decide +kernel
theorem dd_Text_clear_51 : decode bb_Text_clear 51 = .ok (.return_, 1) := by decide +kernel
set_option maxRecDepth 100000 in
set_option maxHeartbeats 4000000 in
theorem c_Text_clear (l : Launch) {nf : Nat} {a0 : Nat} {c : Zc} {res : Zc} (h : f_Text_clear nf a0 c = some res) : zM l yy_Text_clear ww_Text_clear 2 40 0 0 [.ref a0] c (fun D cid B => zQv D cid B res c.length 0) := by
  refine z_met (cc := bb_Text_clear) (maxL := 1) (ret := none) (by decide +kernel) rfl (Nat.le_of_ble_eq_true rfl) ?_
  intro p e s m args below meth cd D cid B X h1 h2 h3 h4
  have X : zX p s m args cd D cid B bb_Text_clear 1 rr_Text zT := X
  have H : zH s meth B c.length none "clear" := ⟨h1, h2, h4, h3⟩
  unfold f_Text_clear at h
  show Zz p l e (zRm 2 40 0 0) s m args below meth cd _ D cid B 1 0 0 c 0 [(0, .ref a0)] []
  refine z_aload_n X dd_Text_clear_0 rfl 0 rfl ?_
  refine z_iconst (v := 0) X dd_Text_clear_1 (by decide) ?_
  obtain ⟨c1, ec1, h⟩ := zb h
  refine z_put (j := 0) X dd_Text_clear_2 kc_2 ki_2 tt_Text tk_Text nn_Text (by decide) km_298 rfl (tk_Text 0 (by decide)) rfl rfl ec1 ?_
  refine z_aload_n X dd_Text_clear_5 rfl 0 rfl ?_
  refine z_iconst (v := 0) X dd_Text_clear_6 (by decide) ?_
  obtain ⟨c2, ec2, h⟩ := zb h
  refine z_put (j := 2) X dd_Text_clear_7 kc_2 ki_2 tt_Text tk_Text nn_Text (by decide) km_306 rfl (tk_Text 2 (by decide)) rfl rfl ec2 ?_
  refine z_aload_n X dd_Text_clear_10 rfl 0 rfl ?_
  refine z_iconst (v := 0) X dd_Text_clear_11 (by decide) ?_
  obtain ⟨c3, ec3, h⟩ := zb h
  refine z_put (j := 3) X dd_Text_clear_12 kc_2 ki_2 tt_Text tk_Text nn_Text (by decide) km_308 rfl (tk_Text 3 (by decide)) rfl rfl ec3 ?_
  refine z_aload_n X dd_Text_clear_15 rfl 0 rfl ?_
  refine z_iconst (v := 0) X dd_Text_clear_16 (by decide) ?_
  obtain ⟨c4, ec4, h⟩ := zb h
  refine z_put (j := 5) X dd_Text_clear_17 kc_2 ki_2 tt_Text tk_Text nn_Text (by decide) km_319 rfl (tk_Text 5 (by decide)) rfl rfl ec4 ?_
  refine z_aload_n X dd_Text_clear_20 rfl 0 rfl ?_
  refine z_iconst (v := 0) X dd_Text_clear_21 (by decide) ?_
  obtain ⟨c5, ec5, h⟩ := zb h
  refine z_put (j := 8) X dd_Text_clear_22 kc_2 ki_2 tt_Text tk_Text nn_Text (by decide) km_327 rfl (tk_Text 8 (by decide)) rfl rfl ec5 ?_
  refine z_aload_n X dd_Text_clear_25 rfl 0 rfl ?_
  refine z_iconst (v := 0) X dd_Text_clear_26 (by decide) ?_
  obtain ⟨c6, ec6, h⟩ := zb h
  refine z_put (j := 12) X dd_Text_clear_27 kc_2 ki_2 tt_Text tk_Text nn_Text (by decide) km_336 rfl (tk_Text 12 (by decide)) rfl rfl ec6 ?_
  refine z_aload_n X dd_Text_clear_30 rfl 0 rfl ?_
  refine z_iconst (v := 0) X dd_Text_clear_31 (by decide) ?_
  obtain ⟨c7, ec7, h⟩ := zb h
  refine z_put (j := 14) X dd_Text_clear_32 kc_2 ki_2 tt_Text tk_Text nn_Text (by decide) km_341 rfl (tk_Text 14 (by decide)) rfl rfl ec7 ?_
  refine z_aload_n X dd_Text_clear_35 rfl 0 rfl ?_
  refine z_iconst (v := 0) X dd_Text_clear_36 (by decide) ?_
  obtain ⟨c8, ec8, h⟩ := zb h
  refine z_put (j := 15) X dd_Text_clear_37 kc_2 ki_2 tt_Text tk_Text nn_Text (by decide) km_344 rfl (tk_Text 15 (by decide)) rfl rfl ec8 ?_
  refine z_aload_n X dd_Text_clear_40 rfl 0 rfl ?_
  refine z_sipush (v := 20000) X dd_Text_clear_41 (by decide) ?_
  obtain ⟨c9, ec9, h⟩ := zb h
  refine z_put (j := 18) X dd_Text_clear_44 kc_2 ki_2 tt_Text tk_Text nn_Text (by decide) km_352 rfl (tk_Text 18 (by decide)) rfl rfl ec9 ?_
  refine z_aload_n X dd_Text_clear_47 rfl 0 rfl ?_
  obtain ⟨w11, ew11, h⟩ := zb h
  obtain ⟨q10, eq10, h⟩ := zb h
  refine z_callVv X [] rfl dd_Text_clear_48 (c_Text_openGroup l eq10) (cwV 0 X.1.2.2.2.2 (zg_V km_824 km_825 km_826 km_128 km_827) rfl rfl rfl (by decide +kernel) ⟨Nat.le_of_ble_eq_true rfl, Nat.le_of_ble_eq_true rfl⟩) (zob_s ew11) kc_2 rfl (Nat.le_of_ble_eq_true rfl) ⟨Nat.le_of_ble_eq_true rfl, Nat.le_of_ble_eq_true rfl⟩ ?_
  obtain rfl := Option.some.inj h
  exact z_vret X H.1 H.2.1 H.2.2.1 dd_Text_clear_51
theorem dd_Text_addDemand_0 : decode bb_Text_addDemand 0 = .ok (.aload_n 0, 1) := by decide +kernel
theorem dd_Text_addDemand_1 : decode bb_Text_addDemand 1 = .ok (.getfield 31, 3) := by decide +kernel
theorem dd_Text_addDemand_4 : decode bb_Text_addDemand 4 = .ok (.bipush 70, 2) := by decide +kernel
theorem dd_Text_addDemand_6 : decode bb_Text_addDemand 6 = .ok (.if_icmp .ge 29, 3) := by decide +kernel
theorem dd_Text_addDemand_9 : decode bb_Text_addDemand 9 = .ok (.aload_n 0, 1) := by decide +kernel
theorem dd_Text_addDemand_10 : decode bb_Text_addDemand 10 = .ok (.getfield 34, 3) := by decide +kernel
theorem dd_Text_addDemand_13 : decode bb_Text_addDemand 13 = .ok (.aload_n 0, 1) := by decide +kernel
theorem dd_Text_addDemand_14 : decode bb_Text_addDemand 14 = .ok (.getfield 31, 3) := by decide +kernel
theorem dd_Text_addDemand_17 : decode bb_Text_addDemand 17 = .ok (.iload_n 1, 1) := by decide +kernel
theorem dd_Text_addDemand_18 : decode bb_Text_addDemand 18 = .ok (.sipush 256, 3) := by decide +kernel
theorem dd_Text_addDemand_21 : decode bb_Text_addDemand 21 = .ok (.imul, 1) := by decide +kernel
theorem dd_Text_addDemand_22 : decode bb_Text_addDemand 22 = .ok (.iload_n 2, 1) := by decide +kernel
theorem dd_Text_addDemand_23 : decode bb_Text_addDemand 23 = .ok (.iadd, 1) := by decide +kernel
theorem dd_Text_addDemand_24 : decode bb_Text_addDemand 24 = .ok (.iastore, 1) := by decide +kernel
theorem dd_Text_addDemand_25 : decode bb_Text_addDemand 25 = .ok (.aload_n 0, 1) := by decide +kernel
theorem dd_Text_addDemand_26 : decode bb_Text_addDemand 26 = .ok (.dup, 1) := by decide +kernel
theorem dd_Text_addDemand_27 : decode bb_Text_addDemand 27 = .ok (.getfield 31, 3) := by decide +kernel
theorem dd_Text_addDemand_30 : decode bb_Text_addDemand 30 = .ok (.iconst 1, 1) := by decide +kernel
theorem dd_Text_addDemand_31 : decode bb_Text_addDemand 31 = .ok (.iadd, 1) := by decide +kernel
theorem dd_Text_addDemand_32 : decode bb_Text_addDemand 32 = .ok (.putfield 31, 3) := by decide +kernel
theorem dd_Text_addDemand_35 : decode bb_Text_addDemand 35 = .ok (.return_, 1) := by decide +kernel
set_option maxRecDepth 100000 in
set_option maxHeartbeats 4000000 in
theorem t_Text_addDemand_35  (X : zX p s m args cd D cid B bb_Text_addDemand 3 rr_Text zT) (H : zH s meth B n0 none "addDemand") {nf : Nat}  {c : Zc} {res : Zc} (h : f_Text_addDemand_35 nf  c = some res) : Zz p l e (zRm 0 0 0 0) s m args below meth cd (MQ below (zQv D cid B res n0 0) args s 0 0 (fun q => B ≤ q)) D cid B 3 0 0 c 35 [] [] := by
  unfold f_Text_addDemand_35 at h
  obtain rfl := Option.some.inj h
  exact z_vret X H.1 H.2.1 H.2.2.1 dd_Text_addDemand_35
set_option maxRecDepth 100000 in
set_option maxHeartbeats 4000000 in
theorem c_Text_addDemand (l : Launch) {nf : Nat} {a0 : Nat} {a1 : Int32} {a2 : Int32} {c : Zc} {res : Zc} (h : f_Text_addDemand nf a0 a1 a2 c = some res) : zM l yy_Text_addDemand ww_Text_addDemand 0 0 0 0 [.ref a0, .int a1, .int a2] c (fun D cid B => zQv D cid B res c.length 0) := by
  refine z_met (cc := bb_Text_addDemand) (maxL := 3) (ret := none) (by decide +kernel) rfl (Nat.le_of_ble_eq_true rfl) ?_
  intro p e s m args below meth cd D cid B X h1 h2 h3 h4
  have X : zX p s m args cd D cid B bb_Text_addDemand 3 rr_Text zT := X
  have H : zH s meth B c.length none "addDemand" := ⟨h1, h2, h4, h3⟩
  unfold f_Text_addDemand at h
  show Zz p l e (zRm 0 0 0 0) s m args below meth cd _ D cid B 3 0 0 c 0 [(0, .ref a0), (1, .int a1), (2, .int a2)] []
  refine z_aload_n X dd_Text_addDemand_0 rfl 0 rfl ?_
  obtain ⟨v1, ev1, h⟩ := zb h
  refine z_get (j := 5) X dd_Text_addDemand_1 kc_2 ki_2 (by decide) km_319 (zgi_v ev1) ?_
  refine z_bipush (v := 70) X dd_Text_addDemand_4 (by decide) ?_
  refine z_icmp_ge (tgt := 35) X dd_Text_addDemand_6 (by decide) (fun q2 => ?_) (fun q2 => ?_)
  · rw [if_pos q2] at h
    refine z_sub [] rfl ?_
    exact t_Text_addDemand_35 X H h
  · rw [if_neg q2] at h
    refine z_aload_n X dd_Text_addDemand_9 rfl 0 rfl ?_
    obtain ⟨v3, ev3, h⟩ := zb h
    refine z_get (j := 6) X dd_Text_addDemand_10 kc_2 ki_2 (by decide) km_321 (zgr_v ev3) ?_
    refine z_aload_n X dd_Text_addDemand_13 rfl 0 rfl ?_
    obtain ⟨v4, ev4, h⟩ := zb h
    refine z_get (j := 5) X dd_Text_addDemand_14 kc_2 ki_2 (by decide) km_319 (zgi_v ev4) ?_
    refine z_iload_n X dd_Text_addDemand_17 rfl 1 rfl ?_
    refine z_sipush (v := 256) X dd_Text_addDemand_18 (by decide) ?_
    refine z_imul X dd_Text_addDemand_21 ?_
    refine z_iload_n X dd_Text_addDemand_22 rfl 2 rfl ?_
    refine z_iadd X dd_Text_addDemand_23 ?_
    obtain ⟨c5, ec5, h⟩ := zb h
    refine z_iastore X dd_Text_addDemand_24 rfl ec5 ?_
    refine z_aload_n X dd_Text_addDemand_25 rfl 0 rfl ?_
    refine z_dup X dd_Text_addDemand_26 rfl ?_
    obtain ⟨v6, ev6, h⟩ := zb h
    refine z_get (j := 5) X dd_Text_addDemand_27 kc_2 ki_2 (by decide) km_319 (zgi_v ev6) ?_
    refine z_iconst (v := 1) X dd_Text_addDemand_30 (by decide) ?_
    refine z_iadd X dd_Text_addDemand_31 ?_
    obtain ⟨c7, ec7, h⟩ := zb h
    refine z_put (j := 5) X dd_Text_addDemand_32 kc_2 ki_2 tt_Text tk_Text nn_Text (by decide) km_319 rfl (tk_Text 5 (by decide)) rfl rfl ec7 ?_
    refine z_sub [] rfl ?_
    exact t_Text_addDemand_35 X H h
theorem dd_Text_emit_0 : decode bb_Text_emit 0 = .ok (.aload_n 0, 1) := by decide +kernel
theorem dd_Text_emit_1 : decode bb_Text_emit 1 = .ok (.getfield 53, 3) := by decide +kernel
theorem dd_Text_emit_4 : decode bb_Text_emit 4 = .ok (.aload_n 0, 1) := by decide +kernel
theorem dd_Text_emit_5 : decode bb_Text_emit 5 = .ok (.getfield 56, 3) := by decide +kernel
theorem dd_Text_emit_8 : decode bb_Text_emit 8 = .ok (.arraylength, 1) := by decide +kernel
theorem dd_Text_emit_9 : decode bb_Text_emit 9 = .ok (.if_icmp .lt 10, 3) := by decide +kernel
theorem dd_Text_emit_12 : decode bb_Text_emit 12 = .ok (.aload_n 0, 1) := by decide +kernel
theorem dd_Text_emit_13 : decode bb_Text_emit 13 = .ok (.getfield 53, 3) := by decide +kernel
theorem dd_Text_emit_16 : decode bb_Text_emit 16 = .ok (.iconst 1, 1) := by decide +kernel
theorem dd_Text_emit_17 : decode bb_Text_emit 17 = .ok (.isub, 1) := by decide +kernel
theorem dd_Text_emit_18 : decode bb_Text_emit 18 = .ok (.ireturn, 1) := by decide +kernel
theorem dd_Text_emit_19 : decode bb_Text_emit 19 = .ok (.aload_n 0, 1) := by decide +kernel
theorem dd_Text_emit_20 : decode bb_Text_emit 20 = .ok (.getfield 56, 3) := by decide +kernel
theorem dd_Text_emit_23 : decode bb_Text_emit 23 = .ok (.aload_n 0, 1) := by decide +kernel
theorem dd_Text_emit_24 : decode bb_Text_emit 24 = .ok (.getfield 53, 3) := by decide +kernel
theorem dd_Text_emit_27 : decode bb_Text_emit 27 = .ok (.iload_n 1, 1) := by decide +kernel
theorem dd_Text_emit_28 : decode bb_Text_emit 28 = .ok (.iload_n 2, 1) := by decide +kernel
theorem dd_Text_emit_29 : decode bb_Text_emit 29 = .ok (.bipush 32, 2) := by decide +kernel
theorem dd_Text_emit_31 : decode bb_Text_emit 31 = .ok (.imul, 1) := by decide +kernel
theorem dd_Text_emit_32 : decode bb_Text_emit 32 = .ok (.iadd, 1) := by decide +kernel
theorem dd_Text_emit_33 : decode bb_Text_emit 33 = .ok (.iastore, 1) := by decide +kernel
theorem dd_Text_emit_34 : decode bb_Text_emit 34 = .ok (.aload_n 0, 1) := by decide +kernel
theorem dd_Text_emit_35 : decode bb_Text_emit 35 = .ok (.dup, 1) := by decide +kernel
theorem dd_Text_emit_36 : decode bb_Text_emit 36 = .ok (.getfield 53, 3) := by decide +kernel
theorem dd_Text_emit_39 : decode bb_Text_emit 39 = .ok (.iconst 1, 1) := by decide +kernel
theorem dd_Text_emit_40 : decode bb_Text_emit 40 = .ok (.iadd, 1) := by decide +kernel
theorem dd_Text_emit_41 : decode bb_Text_emit 41 = .ok (.putfield 53, 3) := by decide +kernel
theorem dd_Text_emit_44 : decode bb_Text_emit 44 = .ok (.aload_n 0, 1) := by decide +kernel
theorem dd_Text_emit_45 : decode bb_Text_emit 45 = .ok (.getfield 53, 3) := by decide +kernel
theorem dd_Text_emit_48 : decode bb_Text_emit 48 = .ok (.iconst 1, 1) := by decide +kernel
theorem dd_Text_emit_49 : decode bb_Text_emit 49 = .ok (.isub, 1) := by decide +kernel
theorem dd_Text_emit_50 : decode bb_Text_emit 50 = .ok (.ireturn, 1) := by decide +kernel
set_option maxRecDepth 100000 in
set_option maxHeartbeats 4000000 in
theorem c_Text_emit (l : Launch) {nf : Nat} {a0 : Nat} {a1 : Int32} {a2 : Int32} {c : Zc} {res : Int32 × Zc} (h : f_Text_emit nf a0 a1 a2 c = some res) : zM l yy_Text_emit ww_Text_emit 0 0 0 0 [.ref a0, .int a1, .int a2] c (fun D cid B => zQi D cid B res.1 res.2 c.length 0) := by
  refine z_met (cc := bb_Text_emit) (maxL := 3) (ret := (some (.int))) (by decide +kernel) rfl (Nat.le_of_ble_eq_true rfl) ?_
  intro p e s m args below meth cd D cid B X h1 h2 h3 h4
  have X : zX p s m args cd D cid B bb_Text_emit 3 rr_Text zT := X
  have H : zH s meth B c.length (some (.int)) "emit" := ⟨h1, h2, h4, h3⟩
  unfold f_Text_emit at h
  show Zz p l e (zRm 0 0 0 0) s m args below meth cd _ D cid B 3 0 0 c 0 [(0, .ref a0), (1, .int a1), (2, .int a2)] []
  refine z_aload_n X dd_Text_emit_0 rfl 0 rfl ?_
  obtain ⟨v1, ev1, h⟩ := zb h
  refine z_get (j := 12) X dd_Text_emit_1 kc_2 ki_2 (by decide) km_336 (zgi_v ev1) ?_
  refine z_aload_n X dd_Text_emit_4 rfl 0 rfl ?_
  obtain ⟨v2, ev2, h⟩ := zb h
  refine z_get (j := 13) X dd_Text_emit_5 kc_2 ki_2 (by decide) km_339 (zgr_v ev2) ?_
  obtain ⟨v3, ev3, h⟩ := zb h
  refine z_alen X dd_Text_emit_8 rfl ev3 ?_
  refine z_icmp_lt (tgt := 19) X dd_Text_emit_9 (by decide) (fun q4 => ?_) (fun q4 => ?_)
  · rw [if_pos q4] at h
    refine z_aload_n X dd_Text_emit_19 rfl 0 rfl ?_
    obtain ⟨v5, ev5, h⟩ := zb h
    refine z_get (j := 13) X dd_Text_emit_20 kc_2 ki_2 (by decide) km_339 (zgr_v ev5) ?_
    refine z_aload_n X dd_Text_emit_23 rfl 0 rfl ?_
    obtain ⟨v6, ev6, h⟩ := zb h
    refine z_get (j := 12) X dd_Text_emit_24 kc_2 ki_2 (by decide) km_336 (zgi_v ev6) ?_
    refine z_iload_n X dd_Text_emit_27 rfl 1 rfl ?_
    refine z_iload_n X dd_Text_emit_28 rfl 2 rfl ?_
    refine z_bipush (v := 32) X dd_Text_emit_29 (by decide) ?_
    refine z_imul X dd_Text_emit_31 ?_
    refine z_iadd X dd_Text_emit_32 ?_
    obtain ⟨c7, ec7, h⟩ := zb h
    refine z_iastore X dd_Text_emit_33 rfl ec7 ?_
    refine z_aload_n X dd_Text_emit_34 rfl 0 rfl ?_
    refine z_dup X dd_Text_emit_35 rfl ?_
    obtain ⟨v8, ev8, h⟩ := zb h
    refine z_get (j := 12) X dd_Text_emit_36 kc_2 ki_2 (by decide) km_336 (zgi_v ev8) ?_
    refine z_iconst (v := 1) X dd_Text_emit_39 (by decide) ?_
    refine z_iadd X dd_Text_emit_40 ?_
    obtain ⟨c9, ec9, h⟩ := zb h
    refine z_put (j := 12) X dd_Text_emit_41 kc_2 ki_2 tt_Text tk_Text nn_Text (by decide) km_336 rfl (tk_Text 12 (by decide)) rfl rfl ec9 ?_
    refine z_aload_n X dd_Text_emit_44 rfl 0 rfl ?_
    obtain ⟨v10, ev10, h⟩ := zb h
    refine z_get (j := 12) X dd_Text_emit_45 kc_2 ki_2 (by decide) km_336 (zgi_v ev10) ?_
    refine z_iconst (v := 1) X dd_Text_emit_48 (by decide) ?_
    refine z_isub X dd_Text_emit_49 ?_
    obtain rfl := Option.some.inj h
    exact z_iret X H.1 H.2.1 H.2.2.1 dd_Text_emit_50
  · rw [if_neg q4] at h
    refine z_aload_n X dd_Text_emit_12 rfl 0 rfl ?_
    obtain ⟨v11, ev11, h⟩ := zb h
    refine z_get (j := 12) X dd_Text_emit_13 kc_2 ki_2 (by decide) km_336 (zgi_v ev11) ?_
    refine z_iconst (v := 1) X dd_Text_emit_16 (by decide) ?_
    refine z_isub X dd_Text_emit_17 ?_
    obtain rfl := Option.some.inj h
    exact z_iret X H.1 H.2.1 H.2.2.1 dd_Text_emit_18
theorem dd_Text_change_0 : decode bb_Text_change 0 = .ok (.iload_n 1, 1) := by decide +kernel
theorem dd_Text_change_1 : decode bb_Text_change 1 = .ok (.ifCond .lt 23, 3) := by decide +kernel
theorem dd_Text_change_4 : decode bb_Text_change 4 = .ok (.iload_n 1, 1) := by decide +kernel
theorem dd_Text_change_5 : decode bb_Text_change 5 = .ok (.aload_n 0, 1) := by decide +kernel
theorem dd_Text_change_6 : decode bb_Text_change 6 = .ok (.getfield 53, 3) := by decide +kernel
theorem dd_Text_change_9 : decode bb_Text_change 9 = .ok (.if_icmp .ge 15, 3) := by decide +kernel
theorem dd_Text_change_12 : decode bb_Text_change 12 = .ok (.aload_n 0, 1) := by decide +kernel
theorem dd_Text_change_13 : decode bb_Text_change 13 = .ok (.getfield 56, 3) := by decide +kernel
theorem dd_Text_change_16 : decode bb_Text_change 16 = .ok (.iload_n 1, 1) := by decide +kernel
theorem dd_Text_change_17 : decode bb_Text_change 17 = .ok (.iload_n 2, 1) := by decide +kernel
theorem dd_Text_change_18 : decode bb_Text_change 18 = .ok (.iload_n 3, 1) := by decide +kernel
theorem dd_Text_change_19 : decode bb_Text_change 19 = .ok (.bipush 32, 2) := by decide +kernel
theorem dd_Text_change_21 : decode bb_Text_change 21 = .ok (.imul, 1) := by decide +kernel
theorem dd_Text_change_22 : decode bb_Text_change 22 = .ok (.iadd, 1) := by decide +kernel
theorem dd_Text_change_23 : decode bb_Text_change 23 = .ok (.iastore, 1) := by decide +kernel
theorem dd_Text_change_24 : decode bb_Text_change 24 = .ok (.return_, 1) := by decide +kernel
set_option maxRecDepth 100000 in
set_option maxHeartbeats 4000000 in
theorem t_Text_change_24  (X : zX p s m args cd D cid B bb_Text_change 4 rr_Text zT) (H : zH s meth B n0 none "change") {nf : Nat}  {c : Zc} {res : Zc} (h : f_Text_change_24 nf  c = some res) : Zz p l e (zRm 0 0 0 0) s m args below meth cd (MQ below (zQv D cid B res n0 0) args s 0 0 (fun q => B ≤ q)) D cid B 4 0 0 c 24 [] [] := by
  unfold f_Text_change_24 at h
  obtain rfl := Option.some.inj h
  exact z_vret X H.1 H.2.1 H.2.2.1 dd_Text_change_24
set_option maxRecDepth 100000 in
set_option maxHeartbeats 4000000 in
theorem c_Text_change (l : Launch) {nf : Nat} {a0 : Nat} {a1 : Int32} {a2 : Int32} {a3 : Int32} {c : Zc} {res : Zc} (h : f_Text_change nf a0 a1 a2 a3 c = some res) : zM l yy_Text_change ww_Text_change 0 0 0 0 [.ref a0, .int a1, .int a2, .int a3] c (fun D cid B => zQv D cid B res c.length 0) := by
  refine z_met (cc := bb_Text_change) (maxL := 4) (ret := none) (by decide +kernel) rfl (Nat.le_of_ble_eq_true rfl) ?_
  intro p e s m args below meth cd D cid B X h1 h2 h3 h4
  have X : zX p s m args cd D cid B bb_Text_change 4 rr_Text zT := X
  have H : zH s meth B c.length none "change" := ⟨h1, h2, h4, h3⟩
  unfold f_Text_change at h
  show Zz p l e (zRm 0 0 0 0) s m args below meth cd _ D cid B 4 0 0 c 0 [(0, .ref a0), (1, .int a1), (2, .int a2), (3, .int a3)] []
  refine z_iload_n X dd_Text_change_0 rfl 1 rfl ?_
  refine z_if_lt (tgt := 24) X dd_Text_change_1 (by decide) (fun q1 => ?_) (fun q1 => ?_)
  · rw [if_pos q1] at h
    refine z_sub [] rfl ?_
    exact t_Text_change_24 X H h
  · rw [if_neg q1] at h
    refine z_iload_n X dd_Text_change_4 rfl 1 rfl ?_
    refine z_aload_n X dd_Text_change_5 rfl 0 rfl ?_
    obtain ⟨v2, ev2, h⟩ := zb h
    refine z_get (j := 12) X dd_Text_change_6 kc_2 ki_2 (by decide) km_336 (zgi_v ev2) ?_
    refine z_icmp_ge (tgt := 24) X dd_Text_change_9 (by decide) (fun q3 => ?_) (fun q3 => ?_)
    · rw [if_pos q3] at h
      refine z_sub [] rfl ?_
      exact t_Text_change_24 X H h
    · rw [if_neg q3] at h
      refine z_aload_n X dd_Text_change_12 rfl 0 rfl ?_
      obtain ⟨v4, ev4, h⟩ := zb h
      refine z_get (j := 13) X dd_Text_change_13 kc_2 ki_2 (by decide) km_339 (zgr_v ev4) ?_
      refine z_iload_n X dd_Text_change_16 rfl 1 rfl ?_
      refine z_iload_n X dd_Text_change_17 rfl 2 rfl ?_
      refine z_iload_n X dd_Text_change_18 rfl 3 rfl ?_
      refine z_bipush (v := 32) X dd_Text_change_19 (by decide) ?_
      refine z_imul X dd_Text_change_21 ?_
      refine z_iadd X dd_Text_change_22 ?_
      obtain ⟨c5, ec5, h⟩ := zb h
      refine z_iastore X dd_Text_change_23 rfl ec5 ?_
      refine z_sub [] rfl ?_
      exact t_Text_change_24 X H h
theorem dd_Text_openItem_0 : decode bb_Text_openItem 0 = .ok (.aload_n 0, 1) := by decide +kernel
theorem dd_Text_openItem_1 : decode bb_Text_openItem 1 = .ok (.getfield 62, 3) := by decide +kernel
theorem dd_Text_openItem_4 : decode bb_Text_openItem 4 = .ok (.bipush 8, 2) := by decide +kernel
theorem dd_Text_openItem_6 : decode bb_Text_openItem 6 = .ok (.if_icmp .ge 13, 3) := by decide +kernel
theorem dd_Text_openItem_9 : decode bb_Text_openItem 9 = .ok (.aload_n 0, 1) := by decide +kernel
theorem dd_Text_openItem_10 : decode bb_Text_openItem 10 = .ok (.getfield 65, 3) := by decide +kernel
theorem dd_Text_openItem_13 : decode bb_Text_openItem 13 = .ok (.aload_n 0, 1) := by decide +kernel
theorem dd_Text_openItem_14 : decode bb_Text_openItem 14 = .ok (.getfield 62, 3) := by decide +kernel
theorem dd_Text_openItem_17 : decode bb_Text_openItem 17 = .ok (.iload_n 1, 1) := by decide +kernel
theorem dd_Text_openItem_18 : decode bb_Text_openItem 18 = .ok (.iastore, 1) := by decide +kernel
theorem dd_Text_openItem_19 : decode bb_Text_openItem 19 = .ok (.return_, 1) := by decide +kernel
set_option maxRecDepth 100000 in
set_option maxHeartbeats 4000000 in
theorem t_Text_openItem_19  (X : zX p s m args cd D cid B bb_Text_openItem 2 rr_Text zT) (H : zH s meth B n0 none "openItem") {nf : Nat}  {c : Zc} {res : Zc} (h : f_Text_openItem_19 nf  c = some res) : Zz p l e (zRm 0 0 0 0) s m args below meth cd (MQ below (zQv D cid B res n0 0) args s 0 0 (fun q => B ≤ q)) D cid B 2 0 0 c 19 [] [] := by
  unfold f_Text_openItem_19 at h
  obtain rfl := Option.some.inj h
  exact z_vret X H.1 H.2.1 H.2.2.1 dd_Text_openItem_19
set_option maxRecDepth 100000 in
set_option maxHeartbeats 4000000 in
theorem c_Text_openItem (l : Launch) {nf : Nat} {a0 : Nat} {a1 : Int32} {c : Zc} {res : Zc} (h : f_Text_openItem nf a0 a1 c = some res) : zM l yy_Text_openItem ww_Text_openItem 0 0 0 0 [.ref a0, .int a1] c (fun D cid B => zQv D cid B res c.length 0) := by
  refine z_met (cc := bb_Text_openItem) (maxL := 2) (ret := none) (by decide +kernel) rfl (Nat.le_of_ble_eq_true rfl) ?_
  intro p e s m args below meth cd D cid B X h1 h2 h3 h4
  have X : zX p s m args cd D cid B bb_Text_openItem 2 rr_Text zT := X
  have H : zH s meth B c.length none "openItem" := ⟨h1, h2, h4, h3⟩
  unfold f_Text_openItem at h
  show Zz p l e (zRm 0 0 0 0) s m args below meth cd _ D cid B 2 0 0 c 0 [(0, .ref a0), (1, .int a1)] []
  refine z_aload_n X dd_Text_openItem_0 rfl 0 rfl ?_
  obtain ⟨v1, ev1, h⟩ := zb h
  refine z_get (j := 15) X dd_Text_openItem_1 kc_2 ki_2 (by decide) km_344 (zgi_v ev1) ?_
  refine z_bipush (v := 8) X dd_Text_openItem_4 (by decide) ?_
  refine z_icmp_ge (tgt := 19) X dd_Text_openItem_6 (by decide) (fun q2 => ?_) (fun q2 => ?_)
  · rw [if_pos q2] at h
    refine z_sub [] rfl ?_
    exact t_Text_openItem_19 X H h
  · rw [if_neg q2] at h
    refine z_aload_n X dd_Text_openItem_9 rfl 0 rfl ?_
    obtain ⟨v3, ev3, h⟩ := zb h
    refine z_get (j := 16) X dd_Text_openItem_10 kc_2 ki_2 (by decide) km_348 (zgr_v ev3) ?_
    refine z_aload_n X dd_Text_openItem_13 rfl 0 rfl ?_
    obtain ⟨v4, ev4, h⟩ := zb h
    refine z_get (j := 15) X dd_Text_openItem_14 kc_2 ki_2 (by decide) km_344 (zgi_v ev4) ?_
    refine z_iload_n X dd_Text_openItem_17 rfl 1 rfl ?_
    obtain ⟨c5, ec5, h⟩ := zb h
    refine z_iastore X dd_Text_openItem_18 rfl ec5 ?_
    refine z_sub [] rfl ?_
    exact t_Text_openItem_19 X H h
theorem dd_Text_endItem_0 : decode bb_Text_endItem 0 = .ok (.aload_n 0, 1) := by decide +kernel
theorem dd_Text_endItem_1 : decode bb_Text_endItem 1 = .ok (.getfield 62, 3) := by decide +kernel
theorem dd_Text_endItem_4 : decode bb_Text_endItem 4 = .ok (.bipush 8, 2) := by decide +kernel
theorem dd_Text_endItem_6 : decode bb_Text_endItem 6 = .ok (.if_icmp .ge 26, 3) := by decide +kernel
theorem dd_Text_endItem_9 : decode bb_Text_endItem 9 = .ok (.aload_n 0, 1) := by decide +kernel
theorem dd_Text_endItem_10 : decode bb_Text_endItem 10 = .ok (.getfield 68, 3) := by decide +kernel
theorem dd_Text_endItem_13 : decode bb_Text_endItem 13 = .ok (.aload_n 0, 1) := by decide +kernel
theorem dd_Text_endItem_14 : decode bb_Text_endItem 14 = .ok (.getfield 62, 3) := by decide +kernel
theorem dd_Text_endItem_17 : decode bb_Text_endItem 17 = .ok (.aload_n 0, 1) := by decide +kernel
theorem dd_Text_endItem_18 : decode bb_Text_endItem 18 = .ok (.getfield 53, 3) := by decide +kernel
theorem dd_Text_endItem_21 : decode bb_Text_endItem 21 = .ok (.iastore, 1) := by decide +kernel
theorem dd_Text_endItem_22 : decode bb_Text_endItem 22 = .ok (.aload_n 0, 1) := by decide +kernel
theorem dd_Text_endItem_23 : decode bb_Text_endItem 23 = .ok (.dup, 1) := by decide +kernel
theorem dd_Text_endItem_24 : decode bb_Text_endItem 24 = .ok (.getfield 62, 3) := by decide +kernel
theorem dd_Text_endItem_27 : decode bb_Text_endItem 27 = .ok (.iconst 1, 1) := by decide +kernel
theorem dd_Text_endItem_28 : decode bb_Text_endItem 28 = .ok (.iadd, 1) := by decide +kernel
theorem dd_Text_endItem_29 : decode bb_Text_endItem 29 = .ok (.putfield 62, 3) := by decide +kernel
theorem dd_Text_endItem_32 : decode bb_Text_endItem 32 = .ok (.return_, 1) := by decide +kernel
set_option maxRecDepth 100000 in
set_option maxHeartbeats 4000000 in
theorem t_Text_endItem_32  (X : zX p s m args cd D cid B bb_Text_endItem 1 rr_Text zT) (H : zH s meth B n0 none "endItem") {nf : Nat}  {c : Zc} {res : Zc} (h : f_Text_endItem_32 nf  c = some res) : Zz p l e (zRm 0 0 0 0) s m args below meth cd (MQ below (zQv D cid B res n0 0) args s 0 0 (fun q => B ≤ q)) D cid B 1 0 0 c 32 [] [] := by
  unfold f_Text_endItem_32 at h
  obtain rfl := Option.some.inj h
  exact z_vret X H.1 H.2.1 H.2.2.1 dd_Text_endItem_32
set_option maxRecDepth 100000 in
set_option maxHeartbeats 4000000 in
theorem c_Text_endItem (l : Launch) {nf : Nat} {a0 : Nat} {c : Zc} {res : Zc} (h : f_Text_endItem nf a0 c = some res) : zM l yy_Text_endItem ww_Text_endItem 0 0 0 0 [.ref a0] c (fun D cid B => zQv D cid B res c.length 0) := by
  refine z_met (cc := bb_Text_endItem) (maxL := 1) (ret := none) (by decide +kernel) rfl (Nat.le_of_ble_eq_true rfl) ?_
  intro p e s m args below meth cd D cid B X h1 h2 h3 h4
  have X : zX p s m args cd D cid B bb_Text_endItem 1 rr_Text zT := X
  have H : zH s meth B c.length none "endItem" := ⟨h1, h2, h4, h3⟩
  unfold f_Text_endItem at h
  show Zz p l e (zRm 0 0 0 0) s m args below meth cd _ D cid B 1 0 0 c 0 [(0, .ref a0)] []
  refine z_aload_n X dd_Text_endItem_0 rfl 0 rfl ?_
  obtain ⟨v1, ev1, h⟩ := zb h
  refine z_get (j := 15) X dd_Text_endItem_1 kc_2 ki_2 (by decide) km_344 (zgi_v ev1) ?_
  refine z_bipush (v := 8) X dd_Text_endItem_4 (by decide) ?_
  refine z_icmp_ge (tgt := 32) X dd_Text_endItem_6 (by decide) (fun q2 => ?_) (fun q2 => ?_)
  · rw [if_pos q2] at h
    refine z_sub [] rfl ?_
    exact t_Text_endItem_32 X H h
  · rw [if_neg q2] at h
    refine z_aload_n X dd_Text_endItem_9 rfl 0 rfl ?_
    obtain ⟨v3, ev3, h⟩ := zb h
    refine z_get (j := 17) X dd_Text_endItem_10 kc_2 ki_2 (by decide) km_350 (zgr_v ev3) ?_
    refine z_aload_n X dd_Text_endItem_13 rfl 0 rfl ?_
    obtain ⟨v4, ev4, h⟩ := zb h
    refine z_get (j := 15) X dd_Text_endItem_14 kc_2 ki_2 (by decide) km_344 (zgi_v ev4) ?_
    refine z_aload_n X dd_Text_endItem_17 rfl 0 rfl ?_
    obtain ⟨v5, ev5, h⟩ := zb h
    refine z_get (j := 12) X dd_Text_endItem_18 kc_2 ki_2 (by decide) km_336 (zgi_v ev5) ?_
    obtain ⟨c6, ec6, h⟩ := zb h
    refine z_iastore X dd_Text_endItem_21 rfl ec6 ?_
    refine z_aload_n X dd_Text_endItem_22 rfl 0 rfl ?_
    refine z_dup X dd_Text_endItem_23 rfl ?_
    obtain ⟨v7, ev7, h⟩ := zb h
    refine z_get (j := 15) X dd_Text_endItem_24 kc_2 ki_2 (by decide) km_344 (zgi_v ev7) ?_
    refine z_iconst (v := 1) X dd_Text_endItem_27 (by decide) ?_
    refine z_iadd X dd_Text_endItem_28 ?_
    obtain ⟨c8, ec8, h⟩ := zb h
    refine z_put (j := 15) X dd_Text_endItem_29 kc_2 ki_2 tt_Text tk_Text nn_Text (by decide) km_344 rfl (tk_Text 15 (by decide)) rfl rfl ec8 ?_
    refine z_sub [] rfl ?_
    exact t_Text_endItem_32 X H h
theorem dd_Text_itemBegin_0 : decode bb_Text_itemBegin 0 = .ok (.iload_n 1, 1) := by decide +kernel
theorem dd_Text_itemBegin_1 : decode bb_Text_itemBegin 1 = .ok (.ifCond .ne 10, 3) := by decide +kernel
theorem dd_Text_itemBegin_4 : decode bb_Text_itemBegin 4 = .ok (.aload_n 0, 1) := by decide +kernel
theorem dd_Text_itemBegin_5 : decode bb_Text_itemBegin 5 = .ok (.getfield 59, 3) := by decide +kernel
theorem dd_Text_itemBegin_8 : decode bb_Text_itemBegin 8 = .ok (.goto 11, 3) := by decide +kernel
theorem dd_Text_itemBegin_11 : decode bb_Text_itemBegin 11 = .ok (.aload_n 0, 1) := by decide +kernel
theorem dd_Text_itemBegin_12 : decode bb_Text_itemBegin 12 = .ok (.getfield 68, 3) := by decide +kernel
theorem dd_Text_itemBegin_15 : decode bb_Text_itemBegin 15 = .ok (.iload_n 1, 1) := by decide +kernel
theorem dd_Text_itemBegin_16 : decode bb_Text_itemBegin 16 = .ok (.iconst 1, 1) := by decide +kernel
theorem dd_Text_itemBegin_17 : decode bb_Text_itemBegin 17 = .ok (.isub, 1) := by decide +kernel
theorem dd_Text_itemBegin_18 : decode bb_Text_itemBegin 18 = .ok (.iaload, 1) := by decide +kernel
theorem dd_Text_itemBegin_19 : decode bb_Text_itemBegin 19 = .ok (.ireturn, 1) := by decide +kernel
set_option maxRecDepth 100000 in
set_option maxHeartbeats 4000000 in
theorem t_Text_itemBegin_19  (X : zX p s m args cd D cid B bb_Text_itemBegin 2 rr_Text zT) (H : zH s meth B n0 (some (.int)) "itemBegin") {nf : Nat} {s0 : Int32} {c : Zc} {res : Int32 × Zc} (h : f_Text_itemBegin_19 nf s0 c = some res) : Zz p l e (zRm 0 0 0 0) s m args below meth cd (MQ below (zQi D cid B res.1 res.2 n0 0) args s 0 0 (fun q => B ≤ q)) D cid B 2 0 0 c 19 [] [.int s0] := by
  unfold f_Text_itemBegin_19 at h
  obtain rfl := Option.some.inj h
  exact z_iret X H.1 H.2.1 H.2.2.1 dd_Text_itemBegin_19
set_option maxRecDepth 100000 in
set_option maxHeartbeats 4000000 in
theorem c_Text_itemBegin (l : Launch) {nf : Nat} {a0 : Nat} {a1 : Int32} {c : Zc} {res : Int32 × Zc} (h : f_Text_itemBegin nf a0 a1 c = some res) : zM l yy_Text_itemBegin ww_Text_itemBegin 0 0 0 0 [.ref a0, .int a1] c (fun D cid B => zQi D cid B res.1 res.2 c.length 0) := by
  refine z_met (cc := bb_Text_itemBegin) (maxL := 2) (ret := (some (.int))) (by decide +kernel) rfl (Nat.le_of_ble_eq_true rfl) ?_
  intro p e s m args below meth cd D cid B X h1 h2 h3 h4
  have X : zX p s m args cd D cid B bb_Text_itemBegin 2 rr_Text zT := X
  have H : zH s meth B c.length (some (.int)) "itemBegin" := ⟨h1, h2, h4, h3⟩
  unfold f_Text_itemBegin at h
  show Zz p l e (zRm 0 0 0 0) s m args below meth cd _ D cid B 2 0 0 c 0 [(0, .ref a0), (1, .int a1)] []
  refine z_iload_n X dd_Text_itemBegin_0 rfl 1 rfl ?_
  refine z_if_ne (tgt := 11) X dd_Text_itemBegin_1 (by decide) (fun q1 => ?_) (fun q1 => ?_)
  · rw [if_neg q1] at h
    refine z_aload_n X dd_Text_itemBegin_11 rfl 0 rfl ?_
    obtain ⟨v2, ev2, h⟩ := zb h
    refine z_get (j := 17) X dd_Text_itemBegin_12 kc_2 ki_2 (by decide) km_350 (zgr_v ev2) ?_
    refine z_iload_n X dd_Text_itemBegin_15 rfl 1 rfl ?_
    refine z_iconst (v := 1) X dd_Text_itemBegin_16 (by decide) ?_
    refine z_isub X dd_Text_itemBegin_17 ?_
    obtain ⟨v3, ev3, h⟩ := zb h
    refine z_iaload X dd_Text_itemBegin_18 rfl ev3 ?_
    refine z_sub [] rfl ?_
    exact t_Text_itemBegin_19 X H h
  · rw [if_pos q1] at h
    refine z_aload_n X dd_Text_itemBegin_4 rfl 0 rfl ?_
    obtain ⟨v4, ev4, h⟩ := zb h
    refine z_get (j := 14) X dd_Text_itemBegin_5 kc_2 ki_2 (by decide) km_341 (zgi_v ev4) ?_
    refine z_goto (tgt := 19) X dd_Text_itemBegin_8 (by decide) ?_
    refine z_sub [] rfl ?_
    exact t_Text_itemBegin_19 X H h
theorem dd_Text_wayOfLeast_0 : decode bb_Text_wayOfLeast 0 = .ok (.iconst 0, 1) := by decide +kernel
theorem dd_Text_wayOfLeast_1 : decode bb_Text_wayOfLeast 1 = .ok (.istore_n 2, 1) := by decide +kernel
theorem dd_Text_wayOfLeast_2 : decode bb_Text_wayOfLeast 2 = .ok (.iload_n 2, 1) := by decide +kernel
theorem dd_Text_wayOfLeast_3 : decode bb_Text_wayOfLeast 3 = .ok (.aload_n 0, 1) := by decide +kernel
theorem dd_Text_wayOfLeast_4 : decode bb_Text_wayOfLeast 4 = .ok (.getfield 22, 3) := by decide +kernel
theorem dd_Text_wayOfLeast_7 : decode bb_Text_wayOfLeast 7 = .ok (.if_icmp .ge 24, 3) := by decide +kernel
theorem dd_Text_wayOfLeast_10 : decode bb_Text_wayOfLeast 10 = .ok (.aload_n 0, 1) := by decide +kernel
theorem dd_Text_wayOfLeast_11 : decode bb_Text_wayOfLeast 11 = .ok (.getfield 27, 3) := by decide +kernel
theorem dd_Text_wayOfLeast_14 : decode bb_Text_wayOfLeast 14 = .ok (.iload_n 2, 1) := by decide +kernel
theorem dd_Text_wayOfLeast_15 : decode bb_Text_wayOfLeast 15 = .ok (.aaload, 1) := by decide +kernel
theorem dd_Text_wayOfLeast_16 : decode bb_Text_wayOfLeast 16 = .ok (.getfield 87, 3) := by decide +kernel
theorem dd_Text_wayOfLeast_19 : decode bb_Text_wayOfLeast 19 = .ok (.iload_n 1, 1) := by decide +kernel
theorem dd_Text_wayOfLeast_20 : decode bb_Text_wayOfLeast 20 = .ok (.if_icmp .ne 5, 3) := by decide +kernel
theorem dd_Text_wayOfLeast_23 : decode bb_Text_wayOfLeast 23 = .ok (.iload_n 2, 1) := by decide +kernel
theorem dd_Text_wayOfLeast_24 : decode bb_Text_wayOfLeast 24 = .ok (.ireturn, 1) := by decide +kernel
theorem dd_Text_wayOfLeast_25 : decode bb_Text_wayOfLeast 25 = .ok (.iinc 2 1, 3) := by decide +kernel
theorem dd_Text_wayOfLeast_28 : decode bb_Text_wayOfLeast 28 = .ok (.goto (-26), 3) := by decide +kernel
theorem dd_Text_wayOfLeast_31 : decode bb_Text_wayOfLeast 31 = .ok (.iconst 0, 1) := by decide +kernel
theorem dd_Text_wayOfLeast_32 : decode bb_Text_wayOfLeast 32 = .ok (.ireturn, 1) := by decide +kernel
set_option maxRecDepth 100000 in
set_option maxHeartbeats 4000000 in
theorem u_Text_wayOfLeast_2  (X : zX p s m args cd D cid B bb_Text_wayOfLeast 3 rr_Text zT) (H : zH s meth B n0 (some (.int)) "wayOfLeast") {nf : Nat} {x0 : Nat} {x1 : Int32} {x2 : Int32} {c : Zc} {r : (Nat × Int32 × Int32 × Zc) ⊕ ((Int32 × Zc) ⊕ (Zc))} (h : g_Text_wayOfLeast_2 nf x0 x1 x2 c = some r) (k0 : ∀ a, r = .inl a → (fun a : Nat × Int32 × Int32 × Zc => Zz p l e (zRm 0 0 0 0) s m args below meth cd Q D cid B 3 0 0 a.2.2.2 2 [(0, .ref a.1), (1, .int a.2.1), (2, .int a.2.2.1)] []) a) (k1 : ∀ b, r = .inr b → (fun b : (Int32 × Zc) ⊕ (Zc) => Sum.elim (fun b => Zz p l e (zRm 0 0 0 0) s m args below meth cd Q D cid B 3 0 0 b.2 23 [(2, .int b.1)] []) (fun b => Zz p l e (zRm 0 0 0 0) s m args below meth cd Q D cid B 3 0 0 b 31 [] []) b) b) : Zz p l e (zRm 0 0 0 0) s m args below meth cd Q D cid B 3 0 0 c 2 [(0, .ref x0), (1, .int x1), (2, .int x2)] [] := by
  unfold g_Text_wayOfLeast_2 at h
  refine z_iload_n X dd_Text_wayOfLeast_2 rfl 2 rfl ?_
  refine z_aload_n X dd_Text_wayOfLeast_3 rfl 0 rfl ?_
  obtain ⟨v1, ev1, h⟩ := zb h
  refine z_get (j := 3) X dd_Text_wayOfLeast_4 kc_2 ki_2 (by decide) km_308 (zgi_v ev1) ?_
  refine z_icmp_ge (tgt := 31) X dd_Text_wayOfLeast_7 (by decide) (fun q2 => ?_) (fun q2 => ?_)
  · rw [if_pos q2] at h
    refine z_sub [] rfl ?_
    obtain rfl := Option.some.inj h
    exact k1 _ rfl
  · rw [if_neg q2] at h
    refine z_aload_n X dd_Text_wayOfLeast_10 rfl 0 rfl ?_
    obtain ⟨v3, ev3, h⟩ := zb h
    refine z_get (j := 4) X dd_Text_wayOfLeast_11 kc_2 ki_2 (by decide) km_313 (zgr_v ev3) ?_
    refine z_iload_n X dd_Text_wayOfLeast_14 rfl 2 rfl ?_
    obtain ⟨v4, ev4, h⟩ := zb h
    refine z_aaload X dd_Text_wayOfLeast_15 rfl ev4 ?_
    obtain ⟨v5, ev5, h⟩ := zb h
    refine z_get (j := 2) X dd_Text_wayOfLeast_16 kc_1 ki_1 (by decide) km_228 (zgi_v ev5) ?_
    refine z_iload_n X dd_Text_wayOfLeast_19 rfl 1 rfl ?_
    refine z_icmp_ne (tgt := 25) X dd_Text_wayOfLeast_20 (by decide) (fun q6 => ?_) (fun q6 => ?_)
    · rw [if_neg q6] at h
      refine z_iinc (v := (x2 + 1)) (lv' := [(2, .int (x2 + 1)), (0, .ref x0), (1, .int x1)]) X dd_Text_wayOfLeast_25 2 rfl rfl (by decide) rfl ?_
      refine z_goto (tgt := 2) X dd_Text_wayOfLeast_28 (by decide) ?_
      refine z_sub [1, 2, 0] rfl ?_
      obtain rfl := Option.some.inj h
      exact k0 _ rfl
    · rw [if_pos q6] at h
      refine z_sub [2] rfl ?_
      obtain rfl := Option.some.inj h
      exact k1 _ rfl
set_option maxRecDepth 100000 in
set_option maxHeartbeats 4000000 in
theorem t_Text_wayOfLeast_2  (X : zX p s m args cd D cid B bb_Text_wayOfLeast 3 rr_Text zT) (H : zH s meth B n0 (some (.int)) "wayOfLeast") {nf : Nat} {x0 : Nat} {x1 : Int32} {x2 : Int32} {c : Zc} {res : Int32 × Zc} (h : f_Text_wayOfLeast_2 nf x0 x1 x2 c = some res) : Zz p l e (zRm 0 0 0 0) s m args below meth cd (MQ below (zQi D cid B res.1 res.2 n0 0) args s 0 0 (fun q => B ≤ q)) D cid B 3 0 0 c 2 [(0, .ref x0), (1, .int x1), (2, .int x2)] [] := by
  unfold f_Text_wayOfLeast_2 at h
  obtain ⟨b, eb, h⟩ := zb h
  refine zlp_ok (P := fun a : Nat × Int32 × Int32 × Zc => Zz p l e (zRm 0 0 0 0) s m args below meth cd _ D cid B 3 0 0 a.2.2.2 2 [(0, .ref a.1), (1, .int a.2.1), (2, .int a.2.2.1)] []) (G := fun b : (Int32 × Zc) ⊕ (Zc) => Sum.elim (fun b => Zz p l e (zRm 0 0 0 0) s m args below meth cd _ D cid B 3 0 0 b.2 23 [(2, .int b.1)] []) (fun b => Zz p l e (zRm 0 0 0 0) s m args below meth cd _ D cid B 3 0 0 b 31 [] []) b) (fun a r ha k0 k1 => u_Text_wayOfLeast_2 X H ha k0 k1) nf _ b eb ?_
  rcases b with b | b
  · simp only [Sum.elim_inl] at h ⊢
    refine z_iload_n X dd_Text_wayOfLeast_23 rfl 0 rfl ?_
    obtain rfl := Option.some.inj h
    exact z_iret X H.1 H.2.1 H.2.2.1 dd_Text_wayOfLeast_24
  · simp only [Sum.elim_inr] at h ⊢
    refine z_iconst (v := 0) X dd_Text_wayOfLeast_31 (by decide) ?_
    obtain rfl := Option.some.inj h
    exact z_iret X H.1 H.2.1 H.2.2.1 dd_Text_wayOfLeast_32
set_option maxRecDepth 100000 in
set_option maxHeartbeats 4000000 in
theorem c_Text_wayOfLeast (l : Launch) {nf : Nat} {a0 : Nat} {a1 : Int32} {c : Zc} {res : Int32 × Zc} (h : f_Text_wayOfLeast nf a0 a1 c = some res) : zM l yy_Text_wayOfLeast ww_Text_wayOfLeast 0 0 0 0 [.ref a0, .int a1] c (fun D cid B => zQi D cid B res.1 res.2 c.length 0) := by
  refine z_met (cc := bb_Text_wayOfLeast) (maxL := 3) (ret := (some (.int))) (by decide +kernel) rfl (Nat.le_of_ble_eq_true rfl) ?_
  intro p e s m args below meth cd D cid B X h1 h2 h3 h4
  have X : zX p s m args cd D cid B bb_Text_wayOfLeast 3 rr_Text zT := X
  have H : zH s meth B c.length (some (.int)) "wayOfLeast" := ⟨h1, h2, h4, h3⟩
  unfold f_Text_wayOfLeast at h
  show Zz p l e (zRm 0 0 0 0) s m args below meth cd _ D cid B 3 0 0 c 0 [(0, .ref a0), (1, .int a1)] []
  refine z_iconst (v := 0) X dd_Text_wayOfLeast_0 (by decide) ?_
  refine z_istore_n (lv' := [(2, .int 0), (0, .ref a0), (1, .int a1)]) X dd_Text_wayOfLeast_1 rfl (by decide) rfl ?_
  refine z_sub [1, 2, 0] rfl ?_
  exact t_Text_wayOfLeast_2 X H h
theorem dd_Text_work_0 : decode bb_Text_work 0 = .ok (.lconst 1, 1) := by decide +kernel
theorem dd_Text_work_1 : decode bb_Text_work 1 = .ok (.lstore_n 2, 1) := by decide +kernel
theorem dd_Text_work_2 : decode bb_Text_work 2 = .ok (.iconst 0, 1) := by decide +kernel
theorem dd_Text_work_3 : decode bb_Text_work 3 = .ok (.istore 4, 2) := by decide +kernel
theorem dd_Text_work_5 : decode bb_Text_work 5 = .ok (.iload 4, 2) := by decide +kernel
theorem dd_Text_work_7 : decode bb_Text_work 7 = .ok (.aload_n 0, 1) := by decide +kernel
theorem dd_Text_work_8 : decode bb_Text_work 8 = .ok (.getfield 19, 3) := by decide +kernel
theorem dd_Text_work_11 : decode bb_Text_work 11 = .ok (.if_icmp .ge 14, 3) := by decide +kernel
theorem dd_Text_work_14 : decode bb_Text_work 14 = .ok (.lload_n 2, 1) := by decide +kernel
theorem dd_Text_work_15 : decode bb_Text_work 15 = .ok (.iload_n 1, 1) := by decide +kernel
theorem dd_Text_work_16 : decode bb_Text_work 16 = .ok (.i2l, 1) := by decide +kernel
theorem dd_Text_work_17 : decode bb_Text_work 17 = .ok (.lmul, 1) := by decide +kernel
theorem dd_Text_work_18 : decode bb_Text_work 18 = .ok (.lstore_n 2, 1) := by decide +kernel
theorem dd_Text_work_19 : decode bb_Text_work 19 = .ok (.iinc 4 1, 3) := by decide +kernel
theorem dd_Text_work_22 : decode bb_Text_work 22 = .ok (.goto (-17), 3) := by decide +kernel
theorem dd_Text_work_25 : decode bb_Text_work 25 = .ok (.lload_n 2, 1) := by decide +kernel
theorem dd_Text_work_26 : decode bb_Text_work 26 = .ok (.lreturn, 1) := by decide +kernel
set_option maxRecDepth 100000 in
set_option maxHeartbeats 4000000 in
theorem u_Text_work_5  (X : zX p s m args cd D cid B bb_Text_work 5 rr_Text zT) (H : zH s meth B n0 (some (.long)) "work") {nf : Nat} {x0 : Nat} {x1 : Int32} {x2 : Int64} {x4 : Int32} {c : Zc} {r : (Nat × Int32 × Int64 × Int32 × Zc) ⊕ (Int64 × Zc)} (h : g_Text_work_5 nf x0 x1 x2 x4 c = some r) (k0 : ∀ a, r = .inl a → (fun a : Nat × Int32 × Int64 × Int32 × Zc => Zz p l e (zRm 0 0 0 0) s m args below meth cd Q D cid B 5 0 0 a.2.2.2.2 5 [(0, .ref a.1), (1, .int a.2.1), (2, .long a.2.2.1), (4, .int a.2.2.2.1)] []) a) (k1 : ∀ b, r = .inr b → (fun b : Int64 × Zc => Zz p l e (zRm 0 0 0 0) s m args below meth cd Q D cid B 5 0 0 b.2 25 [(2, .long b.1)] []) b) : Zz p l e (zRm 0 0 0 0) s m args below meth cd Q D cid B 5 0 0 c 5 [(0, .ref x0), (1, .int x1), (2, .long x2), (4, .int x4)] [] := by
  unfold g_Text_work_5 at h
  refine z_iload X dd_Text_work_5 3 rfl ?_
  refine z_aload_n X dd_Text_work_7 rfl 0 rfl ?_
  obtain ⟨v1, ev1, h⟩ := zb h
  refine z_get (j := 2) X dd_Text_work_8 kc_2 ki_2 (by decide) km_306 (zgi_v ev1) ?_
  refine z_icmp_ge (tgt := 25) X dd_Text_work_11 (by decide) (fun q2 => ?_) (fun q2 => ?_)
  · rw [if_pos q2] at h
    refine z_sub [2] rfl ?_
    obtain rfl := Option.some.inj h
    exact k1 _ rfl
  · rw [if_neg q2] at h
    refine z_lload_n X dd_Text_work_14 rfl 2 rfl ?_
    refine z_iload_n X dd_Text_work_15 rfl 1 rfl ?_
    refine z_i2l X dd_Text_work_16 ?_
    refine z_lmul X dd_Text_work_17 ?_
    refine z_lstore_n (lv' := [(2, .long (x2 * (Int32.toInt64 x1))), (0, .ref x0), (1, .int x1), (4, .int x4)]) X dd_Text_work_18 rfl (by decide) rfl ?_
    refine z_iinc (v := (x4 + 1)) (lv' := [(4, .int (x4 + 1)), (2, .long (x2 * (Int32.toInt64 x1))), (0, .ref x0), (1, .int x1)]) X dd_Text_work_19 3 rfl rfl (by decide) rfl ?_
    refine z_goto (tgt := 5) X dd_Text_work_22 (by decide) ?_
    refine z_sub [2, 3, 1, 0] rfl ?_
    obtain rfl := Option.some.inj h
    exact k0 _ rfl
set_option maxRecDepth 100000 in
set_option maxHeartbeats 4000000 in
theorem t_Text_work_5  (X : zX p s m args cd D cid B bb_Text_work 5 rr_Text zT) (H : zH s meth B n0 (some (.long)) "work") {nf : Nat} {x0 : Nat} {x1 : Int32} {x2 : Int64} {x4 : Int32} {c : Zc} {res : Int64 × Zc} (h : f_Text_work_5 nf x0 x1 x2 x4 c = some res) : Zz p l e (zRm 0 0 0 0) s m args below meth cd (MQ below (zQl D cid B res.1 res.2 n0 0) args s 0 0 (fun q => B ≤ q)) D cid B 5 0 0 c 5 [(0, .ref x0), (1, .int x1), (2, .long x2), (4, .int x4)] [] := by
  unfold f_Text_work_5 at h
  obtain ⟨b, eb, h⟩ := zb h
  refine zlp_ok (P := fun a : Nat × Int32 × Int64 × Int32 × Zc => Zz p l e (zRm 0 0 0 0) s m args below meth cd _ D cid B 5 0 0 a.2.2.2.2 5 [(0, .ref a.1), (1, .int a.2.1), (2, .long a.2.2.1), (4, .int a.2.2.2.1)] []) (G := fun b : Int64 × Zc => Zz p l e (zRm 0 0 0 0) s m args below meth cd _ D cid B 5 0 0 b.2 25 [(2, .long b.1)] []) (fun a r ha k0 k1 => u_Text_work_5 X H ha k0 k1) nf _ b eb ?_
  refine z_lload_n X dd_Text_work_25 rfl 0 rfl ?_
  obtain rfl := Option.some.inj h
  exact z_lret X H.1 H.2.1 H.2.2.1 dd_Text_work_26
set_option maxRecDepth 100000 in
set_option maxHeartbeats 4000000 in
theorem c_Text_work (l : Launch) {nf : Nat} {a0 : Nat} {a1 : Int32} {c : Zc} {res : Int64 × Zc} (h : f_Text_work nf a0 a1 c = some res) : zM l yy_Text_work ww_Text_work 0 0 0 0 [.ref a0, .int a1] c (fun D cid B => zQl D cid B res.1 res.2 c.length 0) := by
  refine z_met (cc := bb_Text_work) (maxL := 5) (ret := (some (.long))) (by decide +kernel) rfl (Nat.le_of_ble_eq_true rfl) ?_
  intro p e s m args below meth cd D cid B X h1 h2 h3 h4
  have X : zX p s m args cd D cid B bb_Text_work 5 rr_Text zT := X
  have H : zH s meth B c.length (some (.long)) "work" := ⟨h1, h2, h4, h3⟩
  unfold f_Text_work at h
  show Zz p l e (zRm 0 0 0 0) s m args below meth cd _ D cid B 5 0 0 c 0 [(0, .ref a0), (1, .int a1)] []
  refine z_lconst (v := 1) X dd_Text_work_0 (by decide) ?_
  refine z_lstore_n (lv' := [(2, .long 1), (0, .ref a0), (1, .int a1)]) X dd_Text_work_1 rfl (by decide) rfl ?_
  refine z_iconst (v := 0) X dd_Text_work_2 (by decide) ?_
  refine z_istore (lv' := [(4, .int 0), (2, .long 1), (0, .ref a0), (1, .int a1)]) X dd_Text_work_3 (by decide) rfl ?_
  refine z_sub [2, 3, 1, 0] rfl ?_
  exact t_Text_work_5 X H h
theorem dd_Tokens_init_0 : decode bb_Tokens_init 0 = .ok (.aload_n 0, 1) := by decide +kernel
theorem dd_Tokens_init_1 : decode bb_Tokens_init 1 = .ok (.invokespecial 3, 3) := by decide +kernel
theorem dd_Tokens_init_4 : decode bb_Tokens_init 4 = .ok (.aload_n 0, 1) := by decide +kernel
theorem dd_Tokens_init_5 : decode bb_Tokens_init 5 = .ok (.sipush 202, 3) := by decide +kernel
theorem dd_Tokens_init_8 : decode bb_Tokens_init 8 = .ok (.newarray .int, 2) := by decide +kernel
theorem dd_Tokens_init_10 : decode bb_Tokens_init 10 = .ok (.putfield 9, 3) := by decide +kernel
theorem dd_Tokens_init_13 : decode bb_Tokens_init 13 = .ok (.aload_n 0, 1) := by decide +kernel
theorem dd_Tokens_init_14 : decode bb_Tokens_init 14 = .ok (.sipush 202, 3) := by decide +kernel
theorem dd_Tokens_init_17 : decode bb_Tokens_init 17 = .ok (.newarray .int, 2) := by decide +kernel
theorem dd_Tokens_init_19 : decode bb_Tokens_init 19 = .ok (.putfield 15, 3) := by decide +kernel
theorem dd_Tokens_init_22 : decode bb_Tokens_init 22 = .ok (.aload_n 0, 1) := by decide +kernel
theorem dd_Tokens_init_23 : decode bb_Tokens_init 23 = .ok (.sipush 202, 3) := by decide +kernel
theorem dd_Tokens_init_26 : decode bb_Tokens_init 26 = .ok (.newarray .int, 2) := by decide +kernel
theorem dd_Tokens_init_28 : decode bb_Tokens_init 28 = .ok (.putfield 18, 3) := by decide +kernel
theorem dd_Tokens_init_31 : decode bb_Tokens_init 31 = .ok (.aload_n 0, 1) := by decide +kernel
theorem dd_Tokens_init_32 : decode bb_Tokens_init 32 = .ok (.iconst 0, 1) := by decide +kernel
theorem dd_Tokens_init_33 : decode bb_Tokens_init 33 = .ok (.putfield 21, 3) := by decide +kernel
theorem dd_Tokens_init_36 : decode bb_Tokens_init 36 = .ok (.aload_n 0, 1) := by decide +kernel
theorem dd_Tokens_init_37 : decode bb_Tokens_init 37 = .ok (.iconst 0, 1) := by decide +kernel
theorem dd_Tokens_init_38 : decode bb_Tokens_init 38 = .ok (.newarray .byte, 2) := by decide +kernel
theorem dd_Tokens_init_40 : decode bb_Tokens_init 40 = .ok (.putfield 25, 3) := by decide +kernel
theorem dd_Tokens_init_43 : decode bb_Tokens_init 43 = .ok (.aload_n 0, 1) := by decide +kernel
theorem dd_Tokens_init_44 : decode bb_Tokens_init 44 = .ok (.iconst 0, 1) := by decide +kernel
theorem dd_Tokens_init_45 : decode bb_Tokens_init 45 = .ok (.putfield 29, 3) := by decide +kernel
theorem dd_Tokens_init_48 : decode bb_Tokens_init 48 = .ok (.return_, 1) := by decide +kernel
set_option maxRecDepth 100000 in
set_option maxHeartbeats 4000000 in
theorem c_Tokens_init (l : Launch) {nf mc ms : Nat} {a0 : Nat} {c : Zc} {res : Zc} (h : f_Tokens_init nf mc ms a0 c = some res) : zM l yy_Tokens_init ww_Tokens_init 1 20 mc ms [.ref a0] c (fun D cid B => zQv D cid B res c.length mc) := by
  refine z_met (cc := bb_Tokens_init) (maxL := 1) (ret := none) (by decide +kernel) rfl (Nat.le_of_ble_eq_true rfl) ?_
  intro p e s m args below meth cd D cid B X h1 h2 h3 h4
  have X : zX p s m args cd D cid B bb_Tokens_init 1 rr_Tokens zT := X
  have H : zH s meth B c.length none "<init>" := ⟨h1, h2, h4, h3⟩
  unfold f_Tokens_init at h
  show Zz p l e (zRm 1 20 mc ms) s m args below meth cd _ D cid B 1 0 0 c 0 [(0, .ref a0)] []
  refine z_aload_n X dd_Tokens_init_0 rfl 0 rfl ?_
  refine z_objInit X dd_Tokens_init_1 km_415 km_153 km_154 (Nat.le_of_ble_eq_true rfl) (Nat.le_of_ble_eq_true rfl) ?_
  refine z_aload_n X dd_Tokens_init_4 rfl 0 rfl ?_
  refine z_sipush (v := 202) X dd_Tokens_init_5 (by decide) ?_
  obtain ⟨u2, eu2, h⟩ := zb h
  obtain ⟨c1, ec1, h⟩ := zb h
  refine z_newaC (ty := .int) X dd_Tokens_init_8 rfl km_206 rfl (fun _ q => by cases q) (fun _ => rfl) (fun _ => rfl) (by decide) (by decide) (by decide) (zlim_s eu2).1 (zlim_s eu2).2 ec1 ?_
  obtain ⟨c3, ec3, h⟩ := zb h
  refine z_putF (j := 0) X dd_Tokens_init_10 kc_3 ki_3 tt_Tokens tk_Tokens nn_Tokens (by decide) km_416 rfl H.2.2.2 rfl (tk_Tokens 0 (by decide)) rfl rfl ec3 ?_
  refine z_aload_n X dd_Tokens_init_13 rfl 0 rfl ?_
  refine z_sipush (v := 202) X dd_Tokens_init_14 (by decide) ?_
  obtain ⟨u5, eu5, h⟩ := zb h
  obtain ⟨c4, ec4, h⟩ := zb h
  refine z_newaC (ty := .int) X dd_Tokens_init_17 rfl km_206 rfl (fun _ q => by cases q) (fun _ => rfl) (fun _ => rfl) (by decide) (by decide) (by decide) (zlim_s eu5).1 (zlim_s eu5).2 ec4 ?_
  obtain ⟨c6, ec6, h⟩ := zb h
  refine z_putF (j := 1) X dd_Tokens_init_19 kc_3 ki_3 tt_Tokens tk_Tokens nn_Tokens (by decide) km_418 rfl H.2.2.2 rfl (tk_Tokens 1 (by decide)) rfl rfl ec6 ?_
  refine z_aload_n X dd_Tokens_init_22 rfl 0 rfl ?_
  refine z_sipush (v := 202) X dd_Tokens_init_23 (by decide) ?_
  obtain ⟨u8, eu8, h⟩ := zb h
  obtain ⟨c7, ec7, h⟩ := zb h
  refine z_newaC (ty := .int) X dd_Tokens_init_26 rfl km_206 rfl (fun _ q => by cases q) (fun _ => rfl) (fun _ => rfl) (by decide) (by decide) (by decide) (zlim_s eu8).1 (zlim_s eu8).2 ec7 ?_
  obtain ⟨c9, ec9, h⟩ := zb h
  refine z_putF (j := 2) X dd_Tokens_init_28 kc_3 ki_3 tt_Tokens tk_Tokens nn_Tokens (by decide) km_420 rfl H.2.2.2 rfl (tk_Tokens 2 (by decide)) rfl rfl ec9 ?_
  refine z_aload_n X dd_Tokens_init_31 rfl 0 rfl ?_
  refine z_iconst (v := 0) X dd_Tokens_init_32 (by decide) ?_
  obtain ⟨c10, ec10, h⟩ := zb h
  refine z_put (j := 3) X dd_Tokens_init_33 kc_3 ki_3 tt_Tokens tk_Tokens nn_Tokens (by decide) km_422 rfl (tk_Tokens 3 (by decide)) rfl rfl ec10 ?_
  refine z_aload_n X dd_Tokens_init_36 rfl 0 rfl ?_
  refine z_iconst (v := 0) X dd_Tokens_init_37 (by decide) ?_
  obtain ⟨u12, eu12, h⟩ := zb h
  obtain ⟨c11, ec11, h⟩ := zb h
  refine z_newaC (ty := .byte) X dd_Tokens_init_38 rfl km_205 rfl (fun _ q => by cases q) (fun _ => rfl) (fun _ => rfl) (by decide) (by decide) (by decide) (zlim_s eu12).1 (zlim_s eu12).2 ec11 ?_
  obtain ⟨c13, ec13, h⟩ := zb h
  refine z_put (j := 4) X dd_Tokens_init_40 kc_3 ki_3 tt_Tokens tk_Tokens nn_Tokens (by decide) km_424 rfl (tk_Tokens 4 (by decide)) rfl rfl ec13 ?_
  refine z_aload_n X dd_Tokens_init_43 rfl 0 rfl ?_
  refine z_iconst (v := 0) X dd_Tokens_init_44 (by decide) ?_
  obtain ⟨c14, ec14, h⟩ := zb h
  refine z_put (j := 5) X dd_Tokens_init_45 kc_3 ki_3 tt_Tokens tk_Tokens nn_Tokens (by decide) km_425 rfl (tk_Tokens 5 (by decide)) rfl rfl ec14 ?_
  obtain ⟨u15, eu15, h⟩ := zb h
  refine z_wid (zend_s eu15).1 (zend_s eu15).2 ?_
  obtain rfl := Option.some.inj h
  exact z_vret X H.1 H.2.1 H.2.2.1 dd_Tokens_init_48
theorem dd_Math_min_0_0 : decode bb_Math_min_0 0 = .ok (.iload_n 0, 1) := by decide +kernel
theorem dd_Math_min_0_1 : decode bb_Math_min_0 1 = .ok (.iload_n 1, 1) := by decide +kernel
theorem dd_Math_min_0_2 : decode bb_Math_min_0 2 = .ok (.if_icmp .gt 7, 3) := by decide +kernel
theorem dd_Math_min_0_5 : decode bb_Math_min_0 5 = .ok (.iload_n 0, 1) := by decide +kernel
theorem dd_Math_min_0_6 : decode bb_Math_min_0 6 = .ok (.goto 4, 3) := by decide +kernel
theorem dd_Math_min_0_9 : decode bb_Math_min_0 9 = .ok (.iload_n 1, 1) := by decide +kernel
theorem dd_Math_min_0_10 : decode bb_Math_min_0 10 = .ok (.ireturn, 1) := by decide +kernel
set_option maxRecDepth 100000 in
set_option maxHeartbeats 4000000 in
theorem t_Math_min_0_10  (X : zX p s m args cd D cid B bb_Math_min_0 2 rr_Math zT) (H : zH s meth B n0 (some (.int)) "min") {nf : Nat} {s0 : Int32} {c : Zc} {res : Int32 × Zc} (h : f_Math_min_0_10 nf s0 c = some res) : Zz p l e (zRm 0 0 0 0) s m args below meth cd (MQ below (zQi D cid B res.1 res.2 n0 0) args s 0 0 (fun q => B ≤ q)) D cid B 2 0 0 c 10 [] [.int s0] := by
  unfold f_Math_min_0_10 at h
  obtain rfl := Option.some.inj h
  exact z_iret X H.1 H.2.1 H.2.2.1 dd_Math_min_0_10
set_option maxRecDepth 100000 in
set_option maxHeartbeats 4000000 in
theorem c_Math_min_0 (l : Launch) {nf : Nat} {a0 : Int32} {a1 : Int32} {c : Zc} {res : Int32 × Zc} (h : f_Math_min_0 nf a0 a1 c = some res) : zM l yy_Math_min_0 ww_Math_min_0 0 0 0 0 [.int a0, .int a1] c (fun D cid B => zQi D cid B res.1 res.2 c.length 0) := by
  refine z_metF (cc := bb_Math_min_0) (maxL := 2) (ret := (some (.int))) (by decide +kernel) rfl (Nat.le_of_ble_eq_true rfl) ?_
  intro p e s m args below meth cd D cid B X h1 h2 h3 h4
  have X : zX p s m args cd D cid B bb_Math_min_0 2 rr_Math zT := X
  have H : zH s meth B c.length (some (.int)) "min" := ⟨h1, h2, h4, h3⟩
  unfold f_Math_min_0 at h
  show Zz p l e (zRm 0 0 0 0) s m args below meth cd _ D cid B 2 0 0 c 0 [(0, .int a0), (1, .int a1)] []
  refine z_iload_n X dd_Math_min_0_0 rfl 0 rfl ?_
  refine z_iload_n X dd_Math_min_0_1 rfl 1 rfl ?_
  refine z_icmp_gt (tgt := 9) X dd_Math_min_0_2 (by decide) (fun q1 => ?_) (fun q1 => ?_)
  · rw [if_pos q1] at h
    refine z_iload_n X dd_Math_min_0_9 rfl 1 rfl ?_
    refine z_sub [] rfl ?_
    exact t_Math_min_0_10 X H h
  · rw [if_neg q1] at h
    refine z_iload_n X dd_Math_min_0_5 rfl 0 rfl ?_
    refine z_goto (tgt := 10) X dd_Math_min_0_6 (by decide) ?_
    refine z_sub [] rfl ?_
    exact t_Math_min_0_10 X H h
theorem dd_Tokens_isBlank_0 : decode bb_Tokens_isBlank 0 = .ok (.iload_n 0, 1) := by decide +kernel
theorem dd_Tokens_isBlank_1 : decode bb_Tokens_isBlank 1 = .ok (.bipush 9, 2) := by decide +kernel
theorem dd_Tokens_isBlank_3 : decode bb_Tokens_isBlank 3 = .ok (.if_icmp .eq 21, 3) := by decide +kernel
theorem dd_Tokens_isBlank_6 : decode bb_Tokens_isBlank 6 = .ok (.iload_n 0, 1) := by decide +kernel
theorem dd_Tokens_isBlank_7 : decode bb_Tokens_isBlank 7 = .ok (.bipush 10, 2) := by decide +kernel
theorem dd_Tokens_isBlank_9 : decode bb_Tokens_isBlank 9 = .ok (.if_icmp .eq 15, 3) := by decide +kernel
theorem dd_Tokens_isBlank_12 : decode bb_Tokens_isBlank 12 = .ok (.iload_n 0, 1) := by decide +kernel
theorem dd_Tokens_isBlank_13 : decode bb_Tokens_isBlank 13 = .ok (.bipush 13, 2) := by decide +kernel
theorem dd_Tokens_isBlank_15 : decode bb_Tokens_isBlank 15 = .ok (.if_icmp .eq 9, 3) := by decide +kernel
theorem dd_Tokens_isBlank_18 : decode bb_Tokens_isBlank 18 = .ok (.iload_n 0, 1) := by decide +kernel
theorem dd_Tokens_isBlank_19 : decode bb_Tokens_isBlank 19 = .ok (.bipush 32, 2) := by decide +kernel
theorem dd_Tokens_isBlank_21 : decode bb_Tokens_isBlank 21 = .ok (.if_icmp .ne 7, 3) := by decide +kernel
theorem dd_Tokens_isBlank_24 : decode bb_Tokens_isBlank 24 = .ok (.iconst 1, 1) := by decide +kernel
theorem dd_Tokens_isBlank_25 : decode bb_Tokens_isBlank 25 = .ok (.goto 4, 3) := by decide +kernel
theorem dd_Tokens_isBlank_28 : decode bb_Tokens_isBlank 28 = .ok (.iconst 0, 1) := by decide +kernel
theorem dd_Tokens_isBlank_29 : decode bb_Tokens_isBlank 29 = .ok (.ireturn, 1) := by decide +kernel
set_option maxRecDepth 100000 in
set_option maxHeartbeats 4000000 in
theorem t_Tokens_isBlank_29  (X : zX p s m args cd D cid B bb_Tokens_isBlank 1 rr_Tokens zT) (H : zH s meth B n0 (some (.boolean)) "isBlank") {nf : Nat} {s0 : Int32} {c : Zc} {res : Int32 × Zc} (h : f_Tokens_isBlank_29 nf s0 c = some res) : Zz p l e (zRm 0 0 0 0) s m args below meth cd (MQ below (zQi D cid B res.1 res.2 n0 0) args s 0 0 (fun q => B ≤ q)) D cid B 1 0 0 c 29 [] [.int s0] := by
  unfold f_Tokens_isBlank_29 at h
  obtain ⟨hz, h⟩ := zrz_s h
  obtain rfl := h
  exact z_zret X H.1 (zn_z hz) H.2.1 H.2.2.1 dd_Tokens_isBlank_29
set_option maxRecDepth 100000 in
set_option maxHeartbeats 4000000 in
theorem t_Tokens_isBlank_24  (X : zX p s m args cd D cid B bb_Tokens_isBlank 1 rr_Tokens zT) (H : zH s meth B n0 (some (.boolean)) "isBlank") {nf : Nat}  {c : Zc} {res : Int32 × Zc} (h : f_Tokens_isBlank_24 nf  c = some res) : Zz p l e (zRm 0 0 0 0) s m args below meth cd (MQ below (zQi D cid B res.1 res.2 n0 0) args s 0 0 (fun q => B ≤ q)) D cid B 1 0 0 c 24 [] [] := by
  unfold f_Tokens_isBlank_24 at h
  refine z_iconst (v := 1) X dd_Tokens_isBlank_24 (by decide) ?_
  refine z_goto (tgt := 29) X dd_Tokens_isBlank_25 (by decide) ?_
  exact t_Tokens_isBlank_29 X H h
set_option maxRecDepth 100000 in
set_option maxHeartbeats 4000000 in
theorem c_Tokens_isBlank (l : Launch) {nf : Nat} {a0 : Int32} {c : Zc} {res : Int32 × Zc} (h : f_Tokens_isBlank nf a0 c = some res) : zM l yy_Tokens_isBlank ww_Tokens_isBlank 0 0 0 0 [.int a0] c (fun D cid B => zQi D cid B res.1 res.2 c.length 0) := by
  refine z_met (cc := bb_Tokens_isBlank) (maxL := 1) (ret := (some (.boolean))) (by decide +kernel) rfl (Nat.le_of_ble_eq_true rfl) ?_
  intro p e s m args below meth cd D cid B X h1 h2 h3 h4
  have X : zX p s m args cd D cid B bb_Tokens_isBlank 1 rr_Tokens zT := X
  have H : zH s meth B c.length (some (.boolean)) "isBlank" := ⟨h1, h2, h4, h3⟩
  unfold f_Tokens_isBlank at h
  show Zz p l e (zRm 0 0 0 0) s m args below meth cd _ D cid B 1 0 0 c 0 [(0, .int a0)] []
  refine z_iload_n X dd_Tokens_isBlank_0 rfl 0 rfl ?_
  refine z_bipush (v := 9) X dd_Tokens_isBlank_1 (by decide) ?_
  refine z_icmp_eq (tgt := 24) X dd_Tokens_isBlank_3 (by decide) (fun q1 => ?_) (fun q1 => ?_)
  · rw [if_pos q1] at h
    refine z_sub [] rfl ?_
    exact t_Tokens_isBlank_24 X H h
  · rw [if_neg q1] at h
    refine z_iload_n X dd_Tokens_isBlank_6 rfl 0 rfl ?_
    refine z_bipush (v := 10) X dd_Tokens_isBlank_7 (by decide) ?_
    refine z_icmp_eq (tgt := 24) X dd_Tokens_isBlank_9 (by decide) (fun q2 => ?_) (fun q2 => ?_)
    · rw [if_pos q2] at h
      refine z_sub [] rfl ?_
      exact t_Tokens_isBlank_24 X H h
    · rw [if_neg q2] at h
      refine z_iload_n X dd_Tokens_isBlank_12 rfl 0 rfl ?_
      refine z_bipush (v := 13) X dd_Tokens_isBlank_13 (by decide) ?_
      refine z_icmp_eq (tgt := 24) X dd_Tokens_isBlank_15 (by decide) (fun q3 => ?_) (fun q3 => ?_)
      · rw [if_pos q3] at h
        refine z_sub [] rfl ?_
        exact t_Tokens_isBlank_24 X H h
      · rw [if_neg q3] at h
        refine z_iload_n X dd_Tokens_isBlank_18 rfl 0 rfl ?_
        refine z_bipush (v := 32) X dd_Tokens_isBlank_19 (by decide) ?_
        refine z_icmp_ne (tgt := 28) X dd_Tokens_isBlank_21 (by decide) (fun q4 => ?_) (fun q4 => ?_)
        · rw [if_neg q4] at h
          refine z_iconst (v := 0) X dd_Tokens_isBlank_28 (by decide) ?_
          refine z_sub [] rfl ?_
          exact t_Tokens_isBlank_29 X H h
        · rw [if_pos q4] at h
          refine z_sub [] rfl ?_
          exact t_Tokens_isBlank_24 X H h
theorem dd_Tokens_isLetter_0 : decode bb_Tokens_isLetter 0 = .ok (.iload_n 0, 1) := by decide +kernel
theorem dd_Tokens_isLetter_1 : decode bb_Tokens_isLetter 1 = .ok (.bipush 97, 2) := by decide +kernel
theorem dd_Tokens_isLetter_3 : decode bb_Tokens_isLetter 3 = .ok (.if_icmp .lt 9, 3) := by decide +kernel
theorem dd_Tokens_isLetter_6 : decode bb_Tokens_isLetter 6 = .ok (.iload_n 0, 1) := by decide +kernel
theorem dd_Tokens_isLetter_7 : decode bb_Tokens_isLetter 7 = .ok (.bipush 122, 2) := by decide +kernel
theorem dd_Tokens_isLetter_9 : decode bb_Tokens_isLetter 9 = .ok (.if_icmp .le 15, 3) := by decide +kernel
theorem dd_Tokens_isLetter_12 : decode bb_Tokens_isLetter 12 = .ok (.iload_n 0, 1) := by decide +kernel
theorem dd_Tokens_isLetter_13 : decode bb_Tokens_isLetter 13 = .ok (.bipush 65, 2) := by decide +kernel
theorem dd_Tokens_isLetter_15 : decode bb_Tokens_isLetter 15 = .ok (.if_icmp .lt 13, 3) := by decide +kernel
theorem dd_Tokens_isLetter_18 : decode bb_Tokens_isLetter 18 = .ok (.iload_n 0, 1) := by decide +kernel
theorem dd_Tokens_isLetter_19 : decode bb_Tokens_isLetter 19 = .ok (.bipush 90, 2) := by decide +kernel
theorem dd_Tokens_isLetter_21 : decode bb_Tokens_isLetter 21 = .ok (.if_icmp .gt 7, 3) := by decide +kernel
theorem dd_Tokens_isLetter_24 : decode bb_Tokens_isLetter 24 = .ok (.iconst 1, 1) := by decide +kernel
theorem dd_Tokens_isLetter_25 : decode bb_Tokens_isLetter 25 = .ok (.goto 4, 3) := by decide +kernel
theorem dd_Tokens_isLetter_28 : decode bb_Tokens_isLetter 28 = .ok (.iconst 0, 1) := by decide +kernel
theorem dd_Tokens_isLetter_29 : decode bb_Tokens_isLetter 29 = .ok (.ireturn, 1) := by decide +kernel
set_option maxRecDepth 100000 in
set_option maxHeartbeats 4000000 in
theorem t_Tokens_isLetter_29  (X : zX p s m args cd D cid B bb_Tokens_isLetter 1 rr_Tokens zT) (H : zH s meth B n0 (some (.boolean)) "isLetter") {nf : Nat} {s0 : Int32} {c : Zc} {res : Int32 × Zc} (h : f_Tokens_isLetter_29 nf s0 c = some res) : Zz p l e (zRm 0 0 0 0) s m args below meth cd (MQ below (zQi D cid B res.1 res.2 n0 0) args s 0 0 (fun q => B ≤ q)) D cid B 1 0 0 c 29 [] [.int s0] := by
  unfold f_Tokens_isLetter_29 at h
  obtain ⟨hz, h⟩ := zrz_s h
  obtain rfl := h
  exact z_zret X H.1 (zn_z hz) H.2.1 H.2.2.1 dd_Tokens_isLetter_29
set_option maxRecDepth 100000 in
set_option maxHeartbeats 4000000 in
theorem t_Tokens_isLetter_28  (X : zX p s m args cd D cid B bb_Tokens_isLetter 1 rr_Tokens zT) (H : zH s meth B n0 (some (.boolean)) "isLetter") {nf : Nat}  {c : Zc} {res : Int32 × Zc} (h : f_Tokens_isLetter_28 nf  c = some res) : Zz p l e (zRm 0 0 0 0) s m args below meth cd (MQ below (zQi D cid B res.1 res.2 n0 0) args s 0 0 (fun q => B ≤ q)) D cid B 1 0 0 c 28 [] [] := by
  unfold f_Tokens_isLetter_28 at h
  refine z_iconst (v := 0) X dd_Tokens_isLetter_28 (by decide) ?_
  exact t_Tokens_isLetter_29 X H h
set_option maxRecDepth 100000 in
set_option maxHeartbeats 4000000 in
theorem t_Tokens_isLetter_24  (X : zX p s m args cd D cid B bb_Tokens_isLetter 1 rr_Tokens zT) (H : zH s meth B n0 (some (.boolean)) "isLetter") {nf : Nat}  {c : Zc} {res : Int32 × Zc} (h : f_Tokens_isLetter_24 nf  c = some res) : Zz p l e (zRm 0 0 0 0) s m args below meth cd (MQ below (zQi D cid B res.1 res.2 n0 0) args s 0 0 (fun q => B ≤ q)) D cid B 1 0 0 c 24 [] [] := by
  unfold f_Tokens_isLetter_24 at h
  refine z_iconst (v := 1) X dd_Tokens_isLetter_24 (by decide) ?_
  refine z_goto (tgt := 29) X dd_Tokens_isLetter_25 (by decide) ?_
  exact t_Tokens_isLetter_29 X H h
set_option maxRecDepth 100000 in
set_option maxHeartbeats 4000000 in
theorem t_Tokens_isLetter_12  (X : zX p s m args cd D cid B bb_Tokens_isLetter 1 rr_Tokens zT) (H : zH s meth B n0 (some (.boolean)) "isLetter") {nf : Nat} {x0 : Int32} {c : Zc} {res : Int32 × Zc} (h : f_Tokens_isLetter_12 nf x0 c = some res) : Zz p l e (zRm 0 0 0 0) s m args below meth cd (MQ below (zQi D cid B res.1 res.2 n0 0) args s 0 0 (fun q => B ≤ q)) D cid B 1 0 0 c 12 [(0, .int x0)] [] := by
  unfold f_Tokens_isLetter_12 at h
  refine z_iload_n X dd_Tokens_isLetter_12 rfl 0 rfl ?_
  refine z_bipush (v := 65) X dd_Tokens_isLetter_13 (by decide) ?_
  refine z_icmp_lt (tgt := 28) X dd_Tokens_isLetter_15 (by decide) (fun q2 => ?_) (fun q2 => ?_)
  · rw [if_pos q2] at h
    refine z_sub [] rfl ?_
    exact t_Tokens_isLetter_28 X H h
  · rw [if_neg q2] at h
    refine z_iload_n X dd_Tokens_isLetter_18 rfl 0 rfl ?_
    refine z_bipush (v := 90) X dd_Tokens_isLetter_19 (by decide) ?_
    refine z_icmp_gt (tgt := 28) X dd_Tokens_isLetter_21 (by decide) (fun q3 => ?_) (fun q3 => ?_)
    · rw [if_pos q3] at h
      refine z_sub [] rfl ?_
      exact t_Tokens_isLetter_28 X H h
    · rw [if_neg q3] at h
      refine z_sub [] rfl ?_
      exact t_Tokens_isLetter_24 X H h
set_option maxRecDepth 100000 in
set_option maxHeartbeats 4000000 in
theorem c_Tokens_isLetter (l : Launch) {nf : Nat} {a0 : Int32} {c : Zc} {res : Int32 × Zc} (h : f_Tokens_isLetter nf a0 c = some res) : zM l yy_Tokens_isLetter ww_Tokens_isLetter 0 0 0 0 [.int a0] c (fun D cid B => zQi D cid B res.1 res.2 c.length 0) := by
  refine z_met (cc := bb_Tokens_isLetter) (maxL := 1) (ret := (some (.boolean))) (by decide +kernel) rfl (Nat.le_of_ble_eq_true rfl) ?_
  intro p e s m args below meth cd D cid B X h1 h2 h3 h4
  have X : zX p s m args cd D cid B bb_Tokens_isLetter 1 rr_Tokens zT := X
  have H : zH s meth B c.length (some (.boolean)) "isLetter" := ⟨h1, h2, h4, h3⟩
  unfold f_Tokens_isLetter at h
  show Zz p l e (zRm 0 0 0 0) s m args below meth cd _ D cid B 1 0 0 c 0 [(0, .int a0)] []
  refine z_iload_n X dd_Tokens_isLetter_0 rfl 0 rfl ?_
  refine z_bipush (v := 97) X dd_Tokens_isLetter_1 (by decide) ?_
  refine z_icmp_lt (tgt := 12) X dd_Tokens_isLetter_3 (by decide) (fun q1 => ?_) (fun q1 => ?_)
  · rw [if_pos q1] at h
    exact t_Tokens_isLetter_12 X H h
  · rw [if_neg q1] at h
    refine z_iload_n X dd_Tokens_isLetter_6 rfl 0 rfl ?_
    refine z_bipush (v := 122) X dd_Tokens_isLetter_7 (by decide) ?_
    refine z_icmp_le (tgt := 24) X dd_Tokens_isLetter_9 (by decide) (fun q4 => ?_) (fun q4 => ?_)
    · rw [if_pos q4] at h
      refine z_sub [] rfl ?_
      exact t_Tokens_isLetter_24 X H h
    · rw [if_neg q4] at h
      exact t_Tokens_isLetter_12 X H h
theorem dd_Tokens_isDigit_0 : decode bb_Tokens_isDigit 0 = .ok (.iload_n 0, 1) := by decide +kernel
theorem dd_Tokens_isDigit_1 : decode bb_Tokens_isDigit 1 = .ok (.bipush 48, 2) := by decide +kernel
theorem dd_Tokens_isDigit_3 : decode bb_Tokens_isDigit 3 = .ok (.if_icmp .lt 13, 3) := by decide +kernel
theorem dd_Tokens_isDigit_6 : decode bb_Tokens_isDigit 6 = .ok (.iload_n 0, 1) := by decide +kernel
theorem dd_Tokens_isDigit_7 : decode bb_Tokens_isDigit 7 = .ok (.bipush 57, 2) := by decide +kernel
theorem dd_Tokens_isDigit_9 : decode bb_Tokens_isDigit 9 = .ok (.if_icmp .gt 7, 3) := by decide +kernel
theorem dd_Tokens_isDigit_12 : decode bb_Tokens_isDigit 12 = .ok (.iconst 1, 1) := by decide +kernel
theorem dd_Tokens_isDigit_13 : decode bb_Tokens_isDigit 13 = .ok (.goto 4, 3) := by decide +kernel
theorem dd_Tokens_isDigit_16 : decode bb_Tokens_isDigit 16 = .ok (.iconst 0, 1) := by decide +kernel
theorem dd_Tokens_isDigit_17 : decode bb_Tokens_isDigit 17 = .ok (.ireturn, 1) := by decide +kernel
set_option maxRecDepth 100000 in
set_option maxHeartbeats 4000000 in
theorem t_Tokens_isDigit_17  (X : zX p s m args cd D cid B bb_Tokens_isDigit 1 rr_Tokens zT) (H : zH s meth B n0 (some (.boolean)) "isDigit") {nf : Nat} {s0 : Int32} {c : Zc} {res : Int32 × Zc} (h : f_Tokens_isDigit_17 nf s0 c = some res) : Zz p l e (zRm 0 0 0 0) s m args below meth cd (MQ below (zQi D cid B res.1 res.2 n0 0) args s 0 0 (fun q => B ≤ q)) D cid B 1 0 0 c 17 [] [.int s0] := by
  unfold f_Tokens_isDigit_17 at h
  obtain ⟨hz, h⟩ := zrz_s h
  obtain rfl := h
  exact z_zret X H.1 (zn_z hz) H.2.1 H.2.2.1 dd_Tokens_isDigit_17
set_option maxRecDepth 100000 in
set_option maxHeartbeats 4000000 in
theorem t_Tokens_isDigit_16  (X : zX p s m args cd D cid B bb_Tokens_isDigit 1 rr_Tokens zT) (H : zH s meth B n0 (some (.boolean)) "isDigit") {nf : Nat}  {c : Zc} {res : Int32 × Zc} (h : f_Tokens_isDigit_16 nf  c = some res) : Zz p l e (zRm 0 0 0 0) s m args below meth cd (MQ below (zQi D cid B res.1 res.2 n0 0) args s 0 0 (fun q => B ≤ q)) D cid B 1 0 0 c 16 [] [] := by
  unfold f_Tokens_isDigit_16 at h
  refine z_iconst (v := 0) X dd_Tokens_isDigit_16 (by decide) ?_
  exact t_Tokens_isDigit_17 X H h
set_option maxRecDepth 100000 in
set_option maxHeartbeats 4000000 in
theorem c_Tokens_isDigit (l : Launch) {nf : Nat} {a0 : Int32} {c : Zc} {res : Int32 × Zc} (h : f_Tokens_isDigit nf a0 c = some res) : zM l yy_Tokens_isDigit ww_Tokens_isDigit 0 0 0 0 [.int a0] c (fun D cid B => zQi D cid B res.1 res.2 c.length 0) := by
  refine z_met (cc := bb_Tokens_isDigit) (maxL := 1) (ret := (some (.boolean))) (by decide +kernel) rfl (Nat.le_of_ble_eq_true rfl) ?_
  intro p e s m args below meth cd D cid B X h1 h2 h3 h4
  have X : zX p s m args cd D cid B bb_Tokens_isDigit 1 rr_Tokens zT := X
  have H : zH s meth B c.length (some (.boolean)) "isDigit" := ⟨h1, h2, h4, h3⟩
  unfold f_Tokens_isDigit at h
  show Zz p l e (zRm 0 0 0 0) s m args below meth cd _ D cid B 1 0 0 c 0 [(0, .int a0)] []
  refine z_iload_n X dd_Tokens_isDigit_0 rfl 0 rfl ?_
  refine z_bipush (v := 48) X dd_Tokens_isDigit_1 (by decide) ?_
  refine z_icmp_lt (tgt := 16) X dd_Tokens_isDigit_3 (by decide) (fun q1 => ?_) (fun q1 => ?_)
  · rw [if_pos q1] at h
    refine z_sub [] rfl ?_
    exact t_Tokens_isDigit_16 X H h
  · rw [if_neg q1] at h
    refine z_iload_n X dd_Tokens_isDigit_6 rfl 0 rfl ?_
    refine z_bipush (v := 57) X dd_Tokens_isDigit_7 (by decide) ?_
    refine z_icmp_gt (tgt := 16) X dd_Tokens_isDigit_9 (by decide) (fun q2 => ?_) (fun q2 => ?_)
    · rw [if_pos q2] at h
      refine z_sub [] rfl ?_
      exact t_Tokens_isDigit_16 X H h
    · rw [if_neg q2] at h
      refine z_iconst (v := 1) X dd_Tokens_isDigit_12 (by decide) ?_
      refine z_goto (tgt := 17) X dd_Tokens_isDigit_13 (by decide) ?_
      refine z_sub [] rfl ?_
      exact t_Tokens_isDigit_17 X H h
theorem dd_Tokens_numberKind_0 : decode bb_Tokens_numberKind 0 = .ok (.iload_n 2, 1) := by decide +kernel
theorem dd_Tokens_numberKind_1 : decode bb_Tokens_numberKind 1 = .ok (.iload_n 1, 1) := by decide +kernel
theorem dd_Tokens_numberKind_2 : decode bb_Tokens_numberKind 2 = .ok (.isub, 1) := by decide +kernel
theorem dd_Tokens_numberKind_3 : decode bb_Tokens_numberKind 3 = .ok (.iconst 4, 1) := by decide +kernel
theorem dd_Tokens_numberKind_4 : decode bb_Tokens_numberKind 4 = .ok (.if_icmp .le 5, 3) := by decide +kernel
theorem dd_Tokens_numberKind_7 : decode bb_Tokens_numberKind 7 = .ok (.iconst 0, 1) := by decide +kernel
theorem dd_Tokens_numberKind_8 : decode bb_Tokens_numberKind 8 = .ok (.ireturn, 1) := by decide +kernel
theorem dd_Tokens_numberKind_9 : decode bb_Tokens_numberKind 9 = .ok (.iconst 0, 1) := by decide +kernel
theorem dd_Tokens_numberKind_10 : decode bb_Tokens_numberKind 10 = .ok (.istore_n 3, 1) := by decide +kernel
theorem dd_Tokens_numberKind_11 : decode bb_Tokens_numberKind 11 = .ok (.iload_n 1, 1) := by decide +kernel
theorem dd_Tokens_numberKind_12 : decode bb_Tokens_numberKind 12 = .ok (.istore 4, 2) := by decide +kernel
theorem dd_Tokens_numberKind_14 : decode bb_Tokens_numberKind 14 = .ok (.iload 4, 2) := by decide +kernel
theorem dd_Tokens_numberKind_16 : decode bb_Tokens_numberKind 16 = .ok (.iload_n 2, 1) := by decide +kernel
theorem dd_Tokens_numberKind_17 : decode bb_Tokens_numberKind 17 = .ok (.if_icmp .ge 40, 3) := by decide +kernel
theorem dd_Tokens_numberKind_20 : decode bb_Tokens_numberKind 20 = .ok (.aload_n 0, 1) := by decide +kernel
theorem dd_Tokens_numberKind_21 : decode bb_Tokens_numberKind 21 = .ok (.getfield 25, 3) := by decide +kernel
theorem dd_Tokens_numberKind_24 : decode bb_Tokens_numberKind 24 = .ok (.iload 4, 2) := by decide +kernel
theorem dd_Tokens_numberKind_26 : decode bb_Tokens_numberKind 26 = .ok (.baload, 1) := by decide +kernel
theorem dd_Tokens_numberKind_27 : decode bb_Tokens_numberKind 27 = .ok (.invokestatic 49, 3) := by decide +kernel
theorem dd_Tokens_numberKind_30 : decode bb_Tokens_numberKind 30 = .ok (.ifCond .ne 5, 3) := by decide +kernel
theorem dd_Tokens_numberKind_33 : decode bb_Tokens_numberKind 33 = .ok (.iconst 0, 1) := by decide +kernel
theorem dd_Tokens_numberKind_34 : decode bb_Tokens_numberKind 34 = .ok (.ireturn, 1) := by decide +kernel
theorem dd_Tokens_numberKind_35 : decode bb_Tokens_numberKind 35 = .ok (.iload_n 3, 1) := by decide +kernel
theorem dd_Tokens_numberKind_36 : decode bb_Tokens_numberKind 36 = .ok (.bipush 10, 2) := by decide +kernel
theorem dd_Tokens_numberKind_38 : decode bb_Tokens_numberKind 38 = .ok (.imul, 1) := by decide +kernel
theorem dd_Tokens_numberKind_39 : decode bb_Tokens_numberKind 39 = .ok (.aload_n 0, 1) := by decide +kernel
theorem dd_Tokens_numberKind_40 : decode bb_Tokens_numberKind 40 = .ok (.getfield 25, 3) := by decide +kernel
theorem dd_Tokens_numberKind_43 : decode bb_Tokens_numberKind 43 = .ok (.iload 4, 2) := by decide +kernel
theorem dd_Tokens_numberKind_45 : decode bb_Tokens_numberKind 45 = .ok (.baload, 1) := by decide +kernel
theorem dd_Tokens_numberKind_46 : decode bb_Tokens_numberKind 46 = .ok (.iadd, 1) := by decide +kernel
theorem dd_Tokens_numberKind_47 : decode bb_Tokens_numberKind 47 = .ok (.bipush 48, 2) := by decide +kernel
theorem dd_Tokens_numberKind_49 : decode bb_Tokens_numberKind 49 = .ok (.isub, 1) := by decide +kernel
theorem dd_Tokens_numberKind_50 : decode bb_Tokens_numberKind 50 = .ok (.istore_n 3, 1) := by decide +kernel
theorem dd_Tokens_numberKind_51 : decode bb_Tokens_numberKind 51 = .ok (.iinc 4 1, 3) := by decide +kernel
theorem dd_Tokens_numberKind_54 : decode bb_Tokens_numberKind 54 = .ok (.goto (-40), 3) := by decide +kernel
theorem dd_Tokens_numberKind_57 : decode bb_Tokens_numberKind 57 = .ok (.aload_n 0, 1) := by decide +kernel
theorem dd_Tokens_numberKind_58 : decode bb_Tokens_numberKind 58 = .ok (.getfield 15, 3) := by decide +kernel
theorem dd_Tokens_numberKind_61 : decode bb_Tokens_numberKind 61 = .ok (.aload_n 0, 1) := by decide +kernel
theorem dd_Tokens_numberKind_62 : decode bb_Tokens_numberKind 62 = .ok (.getfield 21, 3) := by decide +kernel
theorem dd_Tokens_numberKind_65 : decode bb_Tokens_numberKind 65 = .ok (.iload_n 3, 1) := by decide +kernel
theorem dd_Tokens_numberKind_66 : decode bb_Tokens_numberKind 66 = .ok (.iastore, 1) := by decide +kernel
theorem dd_Tokens_numberKind_67 : decode bb_Tokens_numberKind 67 = .ok (.bipush 6, 2) := by decide +kernel
theorem dd_Tokens_numberKind_69 : decode bb_Tokens_numberKind 69 = .ok (.ireturn, 1) := by decide +kernel
set_option maxRecDepth 100000 in
set_option maxHeartbeats 4000000 in
theorem u_Tokens_numberKind_14  (X : zX p s m args cd D cid B bb_Tokens_numberKind 5 rr_Tokens zT) (H : zH s meth B n0 (some (.int)) "numberKind") {nf : Nat} {x0 : Nat} {x2 : Int32} {x3 : Int32} {x4 : Int32} {c : Zc} {r : (Nat × Int32 × Int32 × Int32 × Zc) ⊕ ((Zc) ⊕ (Nat × Int32 × Zc))} (h : g_Tokens_numberKind_14 nf x0 x2 x3 x4 c = some r) (k0 : ∀ a, r = .inl a → (fun a : Nat × Int32 × Int32 × Int32 × Zc => Zz p l e (zRm 1 20 0 0) s m args below meth cd Q D cid B 5 0 0 a.2.2.2.2 14 [(0, .ref a.1), (2, .int a.2.1), (3, .int a.2.2.1), (4, .int a.2.2.2.1)] []) a) (k1 : ∀ b, r = .inr b → (fun b : (Zc) ⊕ (Nat × Int32 × Zc) => Sum.elim (fun b => Zz p l e (zRm 1 20 0 0) s m args below meth cd Q D cid B 5 0 0 b 33 [] []) (fun b => Zz p l e (zRm 1 20 0 0) s m args below meth cd Q D cid B 5 0 0 b.2.2 57 [(0, .ref b.1), (3, .int b.2.1)] []) b) b) : Zz p l e (zRm 1 20 0 0) s m args below meth cd Q D cid B 5 0 0 c 14 [(0, .ref x0), (2, .int x2), (3, .int x3), (4, .int x4)] [] := by
  unfold g_Tokens_numberKind_14 at h
  refine z_iload X dd_Tokens_numberKind_14 3 rfl ?_
  refine z_iload_n X dd_Tokens_numberKind_16 rfl 1 rfl ?_
  refine z_icmp_ge (tgt := 57) X dd_Tokens_numberKind_17 (by decide) (fun q2 => ?_) (fun q2 => ?_)
  · rw [if_pos q2] at h
    refine z_sub [0, 2] rfl ?_
    obtain rfl := Option.some.inj h
    exact k1 _ rfl
  · rw [if_neg q2] at h
    refine z_aload_n X dd_Tokens_numberKind_20 rfl 0 rfl ?_
    obtain ⟨v3, ev3, h⟩ := zb h
    refine z_get (j := 4) X dd_Tokens_numberKind_21 kc_3 ki_3 (by decide) km_424 (zgr_v ev3) ?_
    refine z_iload X dd_Tokens_numberKind_24 3 rfl ?_
    obtain ⟨v4, ev4, h⟩ := zb h
    refine z_baload X dd_Tokens_numberKind_26 rfl ev4 ?_
    obtain ⟨q5, eq5, h⟩ := zb h
    refine z_callSi X [.int v4] rfl dd_Tokens_numberKind_27 (c_Tokens_isDigit l eq5) (va_cwS 1 X.1.2.2.2.2 (zg_S km_854 km_855 km_131 km_856) rfl rfl rfl (by decide +kernel) ⟨Nat.le_of_ble_eq_true rfl, Nat.le_of_ble_eq_true rfl⟩) rfl (Nat.le_of_ble_eq_true rfl) ⟨Nat.le_of_ble_eq_true rfl, Nat.le_of_ble_eq_true rfl⟩ ?_
    refine z_if_ne (tgt := 35) X dd_Tokens_numberKind_30 (by decide) (fun q6 => ?_) (fun q6 => ?_)
    · rw [if_neg q6] at h
      refine z_iload_n X dd_Tokens_numberKind_35 rfl 2 rfl ?_
      refine z_bipush (v := 10) X dd_Tokens_numberKind_36 (by decide) ?_
      refine z_imul X dd_Tokens_numberKind_38 ?_
      refine z_aload_n X dd_Tokens_numberKind_39 rfl 0 rfl ?_
      obtain ⟨v7, ev7, h⟩ := zb h
      refine z_get (j := 4) X dd_Tokens_numberKind_40 kc_3 ki_3 (by decide) km_424 (zgr_v ev7) ?_
      refine z_iload X dd_Tokens_numberKind_43 3 rfl ?_
      obtain ⟨v8, ev8, h⟩ := zb h
      refine z_baload X dd_Tokens_numberKind_45 rfl ev8 ?_
      refine z_iadd X dd_Tokens_numberKind_46 ?_
      refine z_bipush (v := 48) X dd_Tokens_numberKind_47 (by decide) ?_
      refine z_isub X dd_Tokens_numberKind_49 ?_
      refine z_istore_n (lv' := [(3, .int (((x3 * 10) + v8) - 48)), (0, .ref x0), (2, .int x2), (4, .int x4)]) X dd_Tokens_numberKind_50 rfl (by decide) rfl ?_
      refine z_iinc (v := (x4 + 1)) (lv' := [(4, .int (x4 + 1)), (3, .int (((x3 * 10) + v8) - 48)), (0, .ref x0), (2, .int x2)]) X dd_Tokens_numberKind_51 3 rfl rfl (by decide) rfl ?_
      refine z_goto (tgt := 14) X dd_Tokens_numberKind_54 (by decide) ?_
      refine z_sub [2, 3, 1, 0] rfl ?_
      obtain rfl := Option.some.inj h
      exact k0 _ rfl
    · rw [if_pos q6] at h
      refine z_sub [] rfl ?_
      obtain rfl := Option.some.inj h
      exact k1 _ rfl
set_option maxRecDepth 100000 in
set_option maxHeartbeats 4000000 in
theorem t_Tokens_numberKind_14  (X : zX p s m args cd D cid B bb_Tokens_numberKind 5 rr_Tokens zT) (H : zH s meth B n0 (some (.int)) "numberKind") {nf : Nat} {x0 : Nat} {x2 : Int32} {x3 : Int32} {x4 : Int32} {c : Zc} {res : Int32 × Zc} (h : f_Tokens_numberKind_14 nf x0 x2 x3 x4 c = some res) : Zz p l e (zRm 1 20 0 0) s m args below meth cd (MQ below (zQi D cid B res.1 res.2 n0 0) args s 0 0 (fun q => B ≤ q)) D cid B 5 0 0 c 14 [(0, .ref x0), (2, .int x2), (3, .int x3), (4, .int x4)] [] := by
  unfold f_Tokens_numberKind_14 at h
  obtain ⟨b, eb, h⟩ := zb h
  refine zlp_ok (P := fun a : Nat × Int32 × Int32 × Int32 × Zc => Zz p l e (zRm 1 20 0 0) s m args below meth cd _ D cid B 5 0 0 a.2.2.2.2 14 [(0, .ref a.1), (2, .int a.2.1), (3, .int a.2.2.1), (4, .int a.2.2.2.1)] []) (G := fun b : (Zc) ⊕ (Nat × Int32 × Zc) => Sum.elim (fun b => Zz p l e (zRm 1 20 0 0) s m args below meth cd _ D cid B 5 0 0 b 33 [] []) (fun b => Zz p l e (zRm 1 20 0 0) s m args below meth cd _ D cid B 5 0 0 b.2.2 57 [(0, .ref b.1), (3, .int b.2.1)] []) b) (fun a r ha k0 k1 => u_Tokens_numberKind_14 X H ha k0 k1) nf _ b eb ?_
  rcases b with b | b
  · simp only [Sum.elim_inl] at h ⊢
    refine z_iconst (v := 0) X dd_Tokens_numberKind_33 (by decide) ?_
    obtain rfl := Option.some.inj h
    exact z_iret X H.1 H.2.1 H.2.2.1 dd_Tokens_numberKind_34
  · simp only [Sum.elim_inr] at h ⊢
    refine z_aload_n X dd_Tokens_numberKind_57 rfl 0 rfl ?_
    obtain ⟨v9, ev9, h⟩ := zb h
    refine z_get (j := 1) X dd_Tokens_numberKind_58 kc_3 ki_3 (by decide) km_418 (zgr_v ev9) ?_
    refine z_aload_n X dd_Tokens_numberKind_61 rfl 0 rfl ?_
    obtain ⟨v10, ev10, h⟩ := zb h
    refine z_get (j := 3) X dd_Tokens_numberKind_62 kc_3 ki_3 (by decide) km_422 (zgi_v ev10) ?_
    refine z_iload_n X dd_Tokens_numberKind_65 rfl 1 rfl ?_
    obtain ⟨c11, ec11, h⟩ := zb h
    refine z_iastore X dd_Tokens_numberKind_66 rfl ec11 ?_
    refine z_bipush (v := 6) X dd_Tokens_numberKind_67 (by decide) ?_
    obtain rfl := Option.some.inj h
    exact z_iret X H.1 H.2.1 H.2.2.1 dd_Tokens_numberKind_69
set_option maxRecDepth 100000 in
set_option maxHeartbeats 4000000 in
theorem c_Tokens_numberKind (l : Launch) {nf : Nat} {a0 : Nat} {a1 : Int32} {a2 : Int32} {c : Zc} {res : Int32 × Zc} (h : f_Tokens_numberKind nf a0 a1 a2 c = some res) : zM l yy_Tokens_numberKind ww_Tokens_numberKind 1 20 0 0 [.ref a0, .int a1, .int a2] c (fun D cid B => zQi D cid B res.1 res.2 c.length 0) := by
  refine z_met (cc := bb_Tokens_numberKind) (maxL := 5) (ret := (some (.int))) (by decide +kernel) rfl (Nat.le_of_ble_eq_true rfl) ?_
  intro p e s m args below meth cd D cid B X h1 h2 h3 h4
  have X : zX p s m args cd D cid B bb_Tokens_numberKind 5 rr_Tokens zT := X
  have H : zH s meth B c.length (some (.int)) "numberKind" := ⟨h1, h2, h4, h3⟩
  unfold f_Tokens_numberKind at h
  show Zz p l e (zRm 1 20 0 0) s m args below meth cd _ D cid B 5 0 0 c 0 [(0, .ref a0), (1, .int a1), (2, .int a2)] []
  refine z_iload_n X dd_Tokens_numberKind_0 rfl 2 rfl ?_
  refine z_iload_n X dd_Tokens_numberKind_1 rfl 1 rfl ?_
  refine z_isub X dd_Tokens_numberKind_2 ?_
  refine z_iconst (v := 4) X dd_Tokens_numberKind_3 (by decide) ?_
  refine z_icmp_le (tgt := 9) X dd_Tokens_numberKind_4 (by decide) (fun q1 => ?_) (fun q1 => ?_)
  · rw [if_pos q1] at h
    refine z_iconst (v := 0) X dd_Tokens_numberKind_9 (by decide) ?_
    refine z_istore_n (lv' := [(3, .int 0), (0, .ref a0), (1, .int a1), (2, .int a2)]) X dd_Tokens_numberKind_10 rfl (by decide) rfl ?_
    refine z_iload_n X dd_Tokens_numberKind_11 rfl 2 rfl ?_
    refine z_istore (lv' := [(4, .int a1), (3, .int 0), (0, .ref a0), (1, .int a1), (2, .int a2)]) X dd_Tokens_numberKind_12 (by decide) rfl ?_
    refine z_sub [2, 4, 1, 0] rfl ?_
    exact t_Tokens_numberKind_14 X H h
  · rw [if_neg q1] at h
    refine z_iconst (v := 0) X dd_Tokens_numberKind_7 (by decide) ?_
    obtain rfl := Option.some.inj h
    exact z_iret X H.1 H.2.1 H.2.2.1 dd_Tokens_numberKind_8
theorem dd_String_isLatin1_0 : decode bb_String_isLatin1 0 = .ok (.getstatic 38, 3) := by decide +kernel
theorem dd_String_isLatin1_3 : decode bb_String_isLatin1 3 = .ok (.ifCond .eq 14, 3) := by decide +kernel
theorem dd_String_isLatin1_6 : decode bb_String_isLatin1 6 = .ok (.aload_n 0, 1) := by decide +kernel
theorem dd_String_isLatin1_7 : decode bb_String_isLatin1 7 = .ok (.getfield 15, 3) := by decide +kernel
theorem dd_String_isLatin1_10 : decode bb_String_isLatin1 10 = .ok (.ifCond .ne 7, 3) := by decide +kernel
theorem dd_String_isLatin1_13 : decode bb_String_isLatin1 13 = .ok (.iconst 1, 1) := by decide +kernel
theorem dd_String_isLatin1_14 : decode bb_String_isLatin1 14 = .ok (.goto 4, 3) := by decide +kernel
theorem dd_String_isLatin1_17 : decode bb_String_isLatin1 17 = .ok (.iconst 0, 1) := by decide +kernel
theorem dd_String_isLatin1_18 : decode bb_String_isLatin1 18 = .ok (.ireturn, 1) := by decide +kernel
set_option maxRecDepth 100000 in
set_option maxHeartbeats 4000000 in
theorem t_String_isLatin1_18  (X : zX p s m args cd D cid B bb_String_isLatin1 1 rr_String zT) (H : zH s meth B n0 (some (.boolean)) "isLatin1") {nf : Nat} {s0 : Int32} {c : Zc} {res : Int32 × Zc} (h : f_String_isLatin1_18 nf s0 c = some res) : Zz p l e (zRm 0 0 0 0) s m args below meth cd (MQ below (zQi D cid B res.1 res.2 n0 0) args s 0 0 (fun q => B ≤ q)) D cid B 1 0 0 c 18 [] [.int s0] := by
  unfold f_String_isLatin1_18 at h
  obtain ⟨hz, h⟩ := zrz_s h
  obtain rfl := h
  exact z_zret X H.1 (zn_z hz) H.2.1 H.2.2.1 dd_String_isLatin1_18
set_option maxRecDepth 100000 in
set_option maxHeartbeats 4000000 in
theorem t_String_isLatin1_17  (X : zX p s m args cd D cid B bb_String_isLatin1 1 rr_String zT) (H : zH s meth B n0 (some (.boolean)) "isLatin1") {nf : Nat}  {c : Zc} {res : Int32 × Zc} (h : f_String_isLatin1_17 nf  c = some res) : Zz p l e (zRm 0 0 0 0) s m args below meth cd (MQ below (zQi D cid B res.1 res.2 n0 0) args s 0 0 (fun q => B ≤ q)) D cid B 1 0 0 c 17 [] [] := by
  unfold f_String_isLatin1_17 at h
  refine z_iconst (v := 0) X dd_String_isLatin1_17 (by decide) ?_
  exact t_String_isLatin1_18 X H h
set_option maxRecDepth 100000 in
set_option maxHeartbeats 4000000 in
theorem c_String_isLatin1 (l : Launch) {nf : Nat} {a0 : Nat} {c : Zc} {res : Int32 × Zc} (h : f_String_isLatin1 nf a0 c = some res) : zM l yy_String_isLatin1 ww_String_isLatin1 0 0 0 0 [zfs a0] c (fun D cid B => zQi D cid B res.1 res.2 c.length 0) := by
  refine z_met (cc := bb_String_isLatin1) (maxL := 1) (ret := (some (.boolean))) (by decide +kernel) rfl (Nat.le_of_ble_eq_true rfl) ?_
  intro p e s m args below meth cd D cid B X h1 h2 h3 h4
  have X : zX p s m args cd D cid B bb_String_isLatin1 1 rr_String zT := X
  have H : zH s meth B c.length (some (.boolean)) "isLatin1" := ⟨h1, h2, h4, h3⟩
  unfold f_String_isLatin1 at h
  show Zz p l e (zRm 0 0 0 0) s m args below meth cd _ D cid B 1 0 0 c 0 [(0, zfs a0)] []
  refine z_getsC X dd_String_isLatin1_0 km_882 ?_
  refine z_if_eq (tgt := 17) X dd_String_isLatin1_3 (by decide) (fun q1 => ?_) (fun q1 => ?_)
  · rw [if_pos q1] at h
    refine z_sub [] rfl ?_
    exact t_String_isLatin1_17 X H h
  · rw [if_neg q1] at h
    refine z_aloadS_n X dd_String_isLatin1_6 rfl 0 rfl ?_
    obtain ⟨u2, eu2, h⟩ := zb h
    refine z_getSc X dd_String_isLatin1_7 (zst_s eu2) km_2176 ?_
    refine z_if_ne (tgt := 17) X dd_String_isLatin1_10 (by decide) (fun q3 => ?_) (fun q3 => ?_)
    · rw [if_neg q3] at h
      refine z_sub [] rfl ?_
      exact t_String_isLatin1_17 X H h
    · rw [if_pos q3] at h
      refine z_iconst (v := 1) X dd_String_isLatin1_13 (by decide) ?_
      refine z_goto (tgt := 18) X dd_String_isLatin1_14 (by decide) ?_
      refine z_sub [] rfl ?_
      exact t_String_isLatin1_18 X H h
theorem dd_String_coder_0 : decode bb_String_coder 0 = .ok (.getstatic 38, 3) := by decide +kernel
theorem dd_String_coder_3 : decode bb_String_coder 3 = .ok (.ifCond .eq 10, 3) := by decide +kernel
theorem dd_String_coder_6 : decode bb_String_coder 6 = .ok (.aload_n 0, 1) := by decide +kernel
theorem dd_String_coder_7 : decode bb_String_coder 7 = .ok (.getfield 15, 3) := by decide +kernel
theorem dd_String_coder_10 : decode bb_String_coder 10 = .ok (.goto 4, 3) := by decide +kernel
theorem dd_String_coder_13 : decode bb_String_coder 13 = .ok (.iconst 1, 1) := by decide +kernel
theorem dd_String_coder_14 : decode bb_String_coder 14 = .ok (.ireturn, 1) := by decide +kernel
set_option maxRecDepth 100000 in
set_option maxHeartbeats 4000000 in
theorem t_String_coder_14  (X : zX p s m args cd D cid B bb_String_coder 1 rr_String zT) (H : zH s meth B n0 (some (.byte)) "coder") {nf : Nat} {s0 : Int32} {c : Zc} {res : Int32 × Zc} (h : f_String_coder_14 nf s0 c = some res) : Zz p l e (zRm 0 0 0 0) s m args below meth cd (MQ below (zQi D cid B res.1 res.2 n0 0) args s 0 0 (fun q => B ≤ q)) D cid B 1 0 0 c 14 [] [.int s0] := by
  unfold f_String_coder_14 at h
  obtain ⟨hz, h⟩ := zrn_s h
  obtain rfl := h
  exact z_zret X H.1 (zn_b hz) H.2.1 H.2.2.1 dd_String_coder_14
set_option maxRecDepth 100000 in
set_option maxHeartbeats 4000000 in
theorem c_String_coder (l : Launch) {nf : Nat} {a0 : Nat} {c : Zc} {res : Int32 × Zc} (h : f_String_coder nf a0 c = some res) : zM l yy_String_coder ww_String_coder 0 0 0 0 [zfs a0] c (fun D cid B => zQi D cid B res.1 res.2 c.length 0) := by
  refine z_met (cc := bb_String_coder) (maxL := 1) (ret := (some (.byte))) (by decide +kernel) rfl (Nat.le_of_ble_eq_true rfl) ?_
  intro p e s m args below meth cd D cid B X h1 h2 h3 h4
  have X : zX p s m args cd D cid B bb_String_coder 1 rr_String zT := X
  have H : zH s meth B c.length (some (.byte)) "coder" := ⟨h1, h2, h4, h3⟩
  unfold f_String_coder at h
  show Zz p l e (zRm 0 0 0 0) s m args below meth cd _ D cid B 1 0 0 c 0 [(0, zfs a0)] []
  refine z_getsC X dd_String_coder_0 km_882 ?_
  refine z_if_eq (tgt := 13) X dd_String_coder_3 (by decide) (fun q1 => ?_) (fun q1 => ?_)
  · rw [if_pos q1] at h
    refine z_iconst (v := 1) X dd_String_coder_13 (by decide) ?_
    refine z_sub [] rfl ?_
    exact t_String_coder_14 X H h
  · rw [if_neg q1] at h
    refine z_aloadS_n X dd_String_coder_6 rfl 0 rfl ?_
    obtain ⟨u2, eu2, h⟩ := zb h
    refine z_getSc X dd_String_coder_7 (zst_s eu2) km_2176 ?_
    refine z_goto (tgt := 14) X dd_String_coder_10 (by decide) ?_
    refine z_sub [] rfl ?_
    exact t_String_coder_14 X H h
end ZzM
