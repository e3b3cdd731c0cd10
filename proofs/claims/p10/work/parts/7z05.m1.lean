section ZzM
variable {p : Program} {l : Launch} {e : Env} {s : State} {m : MethodId} {args : Array Value} {below : List Frame} {meth : Method} {cd : Code} {Q : State → Prop} {D : va_G} {cid : Nat → ClassId} {B n0 : Nat}
theorem dd_Graph_relate_0 : decode bb_Graph_relate 0 = .ok (.aload_n 0, 1) := by decide +kernel
theorem dd_Graph_relate_1 : decode bb_Graph_relate 1 = .ok (.getfield 30, 3) := by decide +kernel
theorem dd_Graph_relate_4 : decode bb_Graph_relate 4 = .ok (.iconst 0, 1) := by decide +kernel
theorem dd_Graph_relate_5 : decode bb_Graph_relate 5 = .ok (.invokestatic 43, 3) := by decide +kernel
theorem dd_Graph_relate_8 : decode bb_Graph_relate 8 = .ok (.iconst 0, 1) := by decide +kernel
theorem dd_Graph_relate_9 : decode bb_Graph_relate 9 = .ok (.istore_n 1, 1) := by decide +kernel
theorem dd_Graph_relate_10 : decode bb_Graph_relate 10 = .ok (.iload_n 1, 1) := by decide +kernel
theorem dd_Graph_relate_11 : decode bb_Graph_relate 11 = .ok (.bipush 100, 2) := by decide +kernel
theorem dd_Graph_relate_13 : decode bb_Graph_relate 13 = .ok (.if_icmp .ge 59, 3) := by decide +kernel
theorem dd_Graph_relate_16 : decode bb_Graph_relate 16 = .ok (.aload_n 0, 1) := by decide +kernel
theorem dd_Graph_relate_17 : decode bb_Graph_relate 17 = .ok (.getfield 24, 3) := by decide +kernel
theorem dd_Graph_relate_20 : decode bb_Graph_relate 20 = .ok (.iload_n 1, 1) := by decide +kernel
theorem dd_Graph_relate_21 : decode bb_Graph_relate 21 = .ok (.iaload, 1) := by decide +kernel
theorem dd_Graph_relate_22 : decode bb_Graph_relate 22 = .ok (.iconst (-1), 1) := by decide +kernel
theorem dd_Graph_relate_23 : decode bb_Graph_relate 23 = .ok (.if_icmp .eq 43, 3) := by decide +kernel
theorem dd_Graph_relate_26 : decode bb_Graph_relate 26 = .ok (.aload_n 0, 1) := by decide +kernel
theorem dd_Graph_relate_27 : decode bb_Graph_relate 27 = .ok (.aload_n 0, 1) := by decide +kernel
theorem dd_Graph_relate_28 : decode bb_Graph_relate 28 = .ok (.getfield 24, 3) := by decide +kernel
theorem dd_Graph_relate_31 : decode bb_Graph_relate 31 = .ok (.iload_n 1, 1) := by decide +kernel
theorem dd_Graph_relate_32 : decode bb_Graph_relate 32 = .ok (.iaload, 1) := by decide +kernel
theorem dd_Graph_relate_33 : decode bb_Graph_relate 33 = .ok (.aload_n 0, 1) := by decide +kernel
theorem dd_Graph_relate_34 : decode bb_Graph_relate 34 = .ok (.getfield 18, 3) := by decide +kernel
theorem dd_Graph_relate_37 : decode bb_Graph_relate 37 = .ok (.iload_n 1, 1) := by decide +kernel
theorem dd_Graph_relate_38 : decode bb_Graph_relate 38 = .ok (.iaload, 1) := by decide +kernel
theorem dd_Graph_relate_39 : decode bb_Graph_relate 39 = .ok (.aload_n 0, 1) := by decide +kernel
theorem dd_Graph_relate_40 : decode bb_Graph_relate 40 = .ok (.getfield 21, 3) := by decide +kernel
theorem dd_Graph_relate_43 : decode bb_Graph_relate 43 = .ok (.iload_n 1, 1) := by decide +kernel
theorem dd_Graph_relate_44 : decode bb_Graph_relate 44 = .ok (.iaload, 1) := by decide +kernel
theorem dd_Graph_relate_45 : decode bb_Graph_relate 45 = .ok (.invokevirtual 53, 3) := by decide +kernel
theorem dd_Graph_relate_48 : decode bb_Graph_relate 48 = .ok (.aload_n 0, 1) := by decide +kernel
theorem dd_Graph_relate_49 : decode bb_Graph_relate 49 = .ok (.bipush 12, 2) := by decide +kernel
theorem dd_Graph_relate_51 : decode bb_Graph_relate 51 = .ok (.aload_n 0, 1) := by decide +kernel
theorem dd_Graph_relate_52 : decode bb_Graph_relate 52 = .ok (.getfield 18, 3) := by decide +kernel
theorem dd_Graph_relate_55 : decode bb_Graph_relate 55 = .ok (.iload_n 1, 1) := by decide +kernel
theorem dd_Graph_relate_56 : decode bb_Graph_relate 56 = .ok (.iaload, 1) := by decide +kernel
theorem dd_Graph_relate_57 : decode bb_Graph_relate 57 = .ok (.aload_n 0, 1) := by decide +kernel
theorem dd_Graph_relate_58 : decode bb_Graph_relate 58 = .ok (.getfield 21, 3) := by decide +kernel
theorem dd_Graph_relate_61 : decode bb_Graph_relate 61 = .ok (.iload_n 1, 1) := by decide +kernel
theorem dd_Graph_relate_62 : decode bb_Graph_relate 62 = .ok (.iaload, 1) := by decide +kernel
theorem dd_Graph_relate_63 : decode bb_Graph_relate 63 = .ok (.invokevirtual 53, 3) := by decide +kernel
theorem dd_Graph_relate_66 : decode bb_Graph_relate 66 = .ok (.iinc 1 1, 3) := by decide +kernel
theorem dd_Graph_relate_69 : decode bb_Graph_relate 69 = .ok (.goto (-59), 3) := by decide +kernel
theorem dd_Graph_relate_72 : decode bb_Graph_relate 72 = .ok (.return_, 1) := by decide +kernel
set_option maxRecDepth 100000 in
set_option maxHeartbeats 4000000 in
theorem t_Graph_relate_66  (X : zX p s m args cd D cid B bb_Graph_relate 2 rr_Graph zT) (H : zH s meth B n0 none "relate") {nf : Nat} {x0 : Nat} {x1 : Int32} {c : Zc} {r : (Nat × Int32 × Zc) ⊕ (Zc)} (h : f_Graph_relate_66 nf x0 x1 c = some r) (k0 : ∀ a, r = .inl a → (fun a : Nat × Int32 × Zc => Zz p l e (zRm 1 23 0 0) s m args below meth cd Q D cid B 2 0 0 a.2.2 10 [(0, .ref a.1), (1, .int a.2.1)] []) a) (k1 : ∀ b, r = .inr b → (fun b : Zc => Zz p l e (zRm 1 23 0 0) s m args below meth cd Q D cid B 2 0 0 b 72 [] []) b) : Zz p l e (zRm 1 23 0 0) s m args below meth cd Q D cid B 2 0 0 c 66 [(0, .ref x0), (1, .int x1)] [] := by
  unfold f_Graph_relate_66 at h
  refine z_iinc (v := (x1 + 1)) (lv' := [(1, .int (x1 + 1)), (0, .ref x0)]) X dd_Graph_relate_66 1 rfl rfl (by decide) rfl ?_
  refine z_goto (tgt := 10) X dd_Graph_relate_69 (by decide) ?_
  refine z_sub [1, 0] rfl ?_
  obtain rfl := Option.some.inj h
  exact k0 _ rfl
set_option maxRecDepth 100000 in
set_option maxHeartbeats 4000000 in
theorem u_Graph_relate_10  (X : zX p s m args cd D cid B bb_Graph_relate 2 rr_Graph zT) (H : zH s meth B n0 none "relate") {nf : Nat} {x0 : Nat} {x1 : Int32} {c : Zc} {r : (Nat × Int32 × Zc) ⊕ (Zc)} (h : g_Graph_relate_10 nf x0 x1 c = some r) (k0 : ∀ a, r = .inl a → (fun a : Nat × Int32 × Zc => Zz p l e (zRm 1 23 0 0) s m args below meth cd Q D cid B 2 0 0 a.2.2 10 [(0, .ref a.1), (1, .int a.2.1)] []) a) (k1 : ∀ b, r = .inr b → (fun b : Zc => Zz p l e (zRm 1 23 0 0) s m args below meth cd Q D cid B 2 0 0 b 72 [] []) b) : Zz p l e (zRm 1 23 0 0) s m args below meth cd Q D cid B 2 0 0 c 10 [(0, .ref x0), (1, .int x1)] [] := by
  unfold g_Graph_relate_10 at h
  refine z_iload_n X dd_Graph_relate_10 rfl 1 rfl ?_
  refine z_bipush (v := 100) X dd_Graph_relate_11 (by decide) ?_
  refine z_icmp_ge (tgt := 72) X dd_Graph_relate_13 (by decide) (fun q3 => ?_) (fun q3 => ?_)
  · rw [if_pos q3] at h
    refine z_sub [] rfl ?_
    obtain rfl := Option.some.inj h
    exact k1 _ rfl
  · rw [if_neg q3] at h
    refine z_aload_n X dd_Graph_relate_16 rfl 0 rfl ?_
    obtain ⟨v4, ev4, h⟩ := zb h
    refine z_get (j := 4) X dd_Graph_relate_17 kc_0 ki_0 (by decide) km_169 (zgr_v ev4) ?_
    refine z_iload_n X dd_Graph_relate_20 rfl 1 rfl ?_
    obtain ⟨v5, ev5, h⟩ := zb h
    refine z_iaload X dd_Graph_relate_21 rfl ev5 ?_
    refine z_iconst (v := (-1)) X dd_Graph_relate_22 (by decide) ?_
    refine z_icmp_eq (tgt := 66) X dd_Graph_relate_23 (by decide) (fun q6 => ?_) (fun q6 => ?_)
    · rw [if_pos q6] at h
      exact t_Graph_relate_66 X H h k0 k1
    · rw [if_neg q6] at h
      refine z_aload_n X dd_Graph_relate_26 rfl 0 rfl ?_
      refine z_aload_n X dd_Graph_relate_27 rfl 0 rfl ?_
      obtain ⟨v7, ev7, h⟩ := zb h
      refine z_get (j := 4) X dd_Graph_relate_28 kc_0 ki_0 (by decide) km_169 (zgr_v ev7) ?_
      refine z_iload_n X dd_Graph_relate_31 rfl 1 rfl ?_
      obtain ⟨v8, ev8, h⟩ := zb h
      refine z_iaload X dd_Graph_relate_32 rfl ev8 ?_
      refine z_aload_n X dd_Graph_relate_33 rfl 0 rfl ?_
      obtain ⟨v9, ev9, h⟩ := zb h
      refine z_get (j := 2) X dd_Graph_relate_34 kc_0 ki_0 (by decide) km_167 (zgr_v ev9) ?_
      refine z_iload_n X dd_Graph_relate_37 rfl 1 rfl ?_
      obtain ⟨v10, ev10, h⟩ := zb h
      refine z_iaload X dd_Graph_relate_38 rfl ev10 ?_
      refine z_aload_n X dd_Graph_relate_39 rfl 0 rfl ?_
      obtain ⟨v11, ev11, h⟩ := zb h
      refine z_get (j := 3) X dd_Graph_relate_40 kc_0 ki_0 (by decide) km_168 (zgr_v ev11) ?_
      refine z_iload_n X dd_Graph_relate_43 rfl 1 rfl ?_
      obtain ⟨v12, ev12, h⟩ := zb h
      refine z_iaload X dd_Graph_relate_44 rfl ev12 ?_
      obtain ⟨w14, ew14, h⟩ := zb h
      obtain ⟨q13, eq13, h⟩ := zb h
      refine z_callVv X [.int v8, .int v10, .int v12] rfl dd_Graph_relate_45 (c_Graph_link l eq13) (cwV 3 X.1.2.2.2.2 (zg_V km_1262 km_1263 km_1264 km_126 km_1265) rfl rfl rfl (by decide +kernel) ⟨Nat.le_of_ble_eq_true rfl, Nat.le_of_ble_eq_true rfl⟩) (zob_s ew14) kc_0 rfl (Nat.le_of_ble_eq_true rfl) ⟨Nat.le_of_ble_eq_true rfl, Nat.le_of_ble_eq_true rfl⟩ ?_
      refine z_aload_n X dd_Graph_relate_48 rfl 0 rfl ?_
      refine z_bipush (v := 12) X dd_Graph_relate_49 (by decide) ?_
      refine z_aload_n X dd_Graph_relate_51 rfl 0 rfl ?_
      obtain ⟨v15, ev15, h⟩ := zb h
      refine z_get (j := 2) X dd_Graph_relate_52 kc_0 ki_0 (by decide) km_167 (zgr_v ev15) ?_
      refine z_iload_n X dd_Graph_relate_55 rfl 1 rfl ?_
      obtain ⟨v16, ev16, h⟩ := zb h
      refine z_iaload X dd_Graph_relate_56 rfl ev16 ?_
      refine z_aload_n X dd_Graph_relate_57 rfl 0 rfl ?_
      obtain ⟨v17, ev17, h⟩ := zb h
      refine z_get (j := 3) X dd_Graph_relate_58 kc_0 ki_0 (by decide) km_168 (zgr_v ev17) ?_
      refine z_iload_n X dd_Graph_relate_61 rfl 1 rfl ?_
      obtain ⟨v18, ev18, h⟩ := zb h
      refine z_iaload X dd_Graph_relate_62 rfl ev18 ?_
      obtain ⟨w20, ew20, h⟩ := zb h
      obtain ⟨q19, eq19, h⟩ := zb h
      refine z_callVv X [.int 12, .int v16, .int v18] rfl dd_Graph_relate_63 (c_Graph_link l eq19) (cwV 3 X.1.2.2.2.2 (zg_V km_1262 km_1263 km_1264 km_126 km_1265) rfl rfl rfl (by decide +kernel) ⟨Nat.le_of_ble_eq_true rfl, Nat.le_of_ble_eq_true rfl⟩) (zob_s ew20) kc_0 rfl (Nat.le_of_ble_eq_true rfl) ⟨Nat.le_of_ble_eq_true rfl, Nat.le_of_ble_eq_true rfl⟩ ?_
      exact t_Graph_relate_66 X H h k0 k1
set_option maxRecDepth 100000 in
set_option maxHeartbeats 4000000 in
theorem t_Graph_relate_10  (X : zX p s m args cd D cid B bb_Graph_relate 2 rr_Graph zT) (H : zH s meth B n0 none "relate") {nf : Nat} {x0 : Nat} {x1 : Int32} {c : Zc} {res : Zc} (h : f_Graph_relate_10 nf x0 x1 c = some res) : Zz p l e (zRm 1 23 0 0) s m args below meth cd (MQ below (zQv D cid B res n0 0) args s 0 0 (fun q => B ≤ q)) D cid B 2 0 0 c 10 [(0, .ref x0), (1, .int x1)] [] := by
  unfold f_Graph_relate_10 at h
  obtain ⟨b, eb, h⟩ := zb h
  refine zlp_ok (P := fun a : Nat × Int32 × Zc => Zz p l e (zRm 1 23 0 0) s m args below meth cd _ D cid B 2 0 0 a.2.2 10 [(0, .ref a.1), (1, .int a.2.1)] []) (G := fun b : Zc => Zz p l e (zRm 1 23 0 0) s m args below meth cd _ D cid B 2 0 0 b 72 [] []) (fun a r ha k0 k1 => u_Graph_relate_10 X H ha k0 k1) nf _ b eb ?_
  obtain rfl := Option.some.inj h
  exact z_vret X H.1 H.2.1 H.2.2.1 dd_Graph_relate_72
set_option maxRecDepth 100000 in
set_option maxHeartbeats 4000000 in
theorem c_Graph_relate (l : Launch) {nf : Nat} {a0 : Nat} {c : Zc} {res : Zc} (h : f_Graph_relate nf a0 c = some res) : zM l yy_Graph_relate ww_Graph_relate 1 23 0 0 [.ref a0] c (fun D cid B => zQv D cid B res c.length 0) := by
  refine z_met (cc := bb_Graph_relate) (maxL := 2) (ret := none) (by decide +kernel) rfl (Nat.le_of_ble_eq_true rfl) ?_
  intro p e s m args below meth cd D cid B X h1 h2 h3 h4
  have X : zX p s m args cd D cid B bb_Graph_relate 2 rr_Graph zT := X
  have H : zH s meth B c.length none "relate" := ⟨h1, h2, h4, h3⟩
  unfold f_Graph_relate at h
  show Zz p l e (zRm 1 23 0 0) s m args below meth cd _ D cid B 2 0 0 c 0 [(0, .ref a0)] []
  refine z_aload_n X dd_Graph_relate_0 rfl 0 rfl ?_
  obtain ⟨v1, ev1, h⟩ := zb h
  refine z_get (j := 6) X dd_Graph_relate_1 kc_0 ki_0 (by decide) km_171 (zgr_v ev1) ?_
  refine z_iconst (v := 0) X dd_Graph_relate_4 (by decide) ?_
  obtain ⟨q2, eq2, h⟩ := zb h
  refine z_callSv X [.ref v1, .int 0] rfl dd_Graph_relate_5 (c_Arrays_fill l eq2) (va_cwS 2 X.1.2.2.2.2 (zg_S km_161 km_162 km_127 km_163) rfl rfl rfl (by decide +kernel) ⟨Nat.le_of_ble_eq_true rfl, Nat.le_of_ble_eq_true rfl⟩) rfl (Nat.le_of_ble_eq_true rfl) ⟨Nat.le_of_ble_eq_true rfl, Nat.le_of_ble_eq_true rfl⟩ ?_
  refine z_iconst (v := 0) X dd_Graph_relate_8 (by decide) ?_
  refine z_istore_n (lv' := [(1, .int 0), (0, .ref a0)]) X dd_Graph_relate_9 rfl (by decide) rfl ?_
  refine z_sub [1, 0] rfl ?_
  exact t_Graph_relate_10 X H h
theorem dd_Graph_reached_0 : decode bb_Graph_reached 0 = .ok (.aload_n 0, 1) := by decide +kernel
theorem dd_Graph_reached_1 : decode bb_Graph_reached 1 = .ok (.getfield 30, 3) := by decide +kernel
theorem dd_Graph_reached_4 : decode bb_Graph_reached 4 = .ok (.iconst 2, 1) := by decide +kernel
theorem dd_Graph_reached_5 : decode bb_Graph_reached 5 = .ok (.iload_n 1, 1) := by decide +kernel
theorem dd_Graph_reached_6 : decode bb_Graph_reached 6 = .ok (.imul, 1) := by decide +kernel
theorem dd_Graph_reached_7 : decode bb_Graph_reached 7 = .ok (.bipush 16, 2) := by decide +kernel
theorem dd_Graph_reached_9 : decode bb_Graph_reached 9 = .ok (.imul, 1) := by decide +kernel
theorem dd_Graph_reached_10 : decode bb_Graph_reached 10 = .ok (.iload_n 2, 1) := by decide +kernel
theorem dd_Graph_reached_11 : decode bb_Graph_reached 11 = .ok (.iadd, 1) := by decide +kernel
theorem dd_Graph_reached_12 : decode bb_Graph_reached 12 = .ok (.iaload, 1) := by decide +kernel
theorem dd_Graph_reached_13 : decode bb_Graph_reached 13 = .ok (.ireturn, 1) := by decide +kernel
set_option maxRecDepth 100000 in
set_option maxHeartbeats 4000000 in
theorem c_Graph_reached (l : Launch) {nf : Nat} {a0 : Nat} {a1 : Int32} {a2 : Int32} {c : Zc} {res : Int32 × Zc} (h : f_Graph_reached nf a0 a1 a2 c = some res) : zM l yy_Graph_reached ww_Graph_reached 0 0 0 0 [.ref a0, .int a1, .int a2] c (fun D cid B => zQi D cid B res.1 res.2 c.length 0) := by
  refine z_met (cc := bb_Graph_reached) (maxL := 3) (ret := (some (.int))) (by decide +kernel) rfl (Nat.le_of_ble_eq_true rfl) ?_
  intro p e s m args below meth cd D cid B X h1 h2 h3 h4
  have X : zX p s m args cd D cid B bb_Graph_reached 3 rr_Graph zT := X
  have H : zH s meth B c.length (some (.int)) "reached" := ⟨h1, h2, h4, h3⟩
  unfold f_Graph_reached at h
  show Zz p l e (zRm 0 0 0 0) s m args below meth cd _ D cid B 3 0 0 c 0 [(0, .ref a0), (1, .int a1), (2, .int a2)] []
  refine z_aload_n X dd_Graph_reached_0 rfl 0 rfl ?_
  obtain ⟨v1, ev1, h⟩ := zb h
  refine z_get (j := 6) X dd_Graph_reached_1 kc_0 ki_0 (by decide) km_171 (zgr_v ev1) ?_
  refine z_iconst (v := 2) X dd_Graph_reached_4 (by decide) ?_
  refine z_iload_n X dd_Graph_reached_5 rfl 1 rfl ?_
  refine z_imul X dd_Graph_reached_6 ?_
  refine z_bipush (v := 16) X dd_Graph_reached_7 (by decide) ?_
  refine z_imul X dd_Graph_reached_9 ?_
  refine z_iload_n X dd_Graph_reached_10 rfl 2 rfl ?_
  refine z_iadd X dd_Graph_reached_11 ?_
  obtain ⟨v2, ev2, h⟩ := zb h
  refine z_iaload X dd_Graph_reached_12 rfl ev2 ?_
  obtain rfl := Option.some.inj h
  exact z_iret X H.1 H.2.1 H.2.2.1 dd_Graph_reached_13
theorem dd_Way_init_0 : decode bb_Way_init 0 = .ok (.aload_n 0, 1) := by decide +kernel
theorem dd_Way_init_1 : decode bb_Way_init 1 = .ok (.invokespecial 3, 3) := by decide +kernel
theorem dd_Way_init_4 : decode bb_Way_init 4 = .ok (.aload_n 0, 1) := by decide +kernel
theorem dd_Way_init_5 : decode bb_Way_init 5 = .ok (.iconst 0, 1) := by decide +kernel
theorem dd_Way_init_6 : decode bb_Way_init 6 = .ok (.putfield 9, 3) := by decide +kernel
theorem dd_Way_init_9 : decode bb_Way_init 9 = .ok (.aload_n 0, 1) := by decide +kernel
theorem dd_Way_init_10 : decode bb_Way_init 10 = .ok (.iconst 0, 1) := by decide +kernel
theorem dd_Way_init_11 : decode bb_Way_init 11 = .ok (.putfield 15, 3) := by decide +kernel
theorem dd_Way_init_14 : decode bb_Way_init 14 = .ok (.aload_n 0, 1) := by decide +kernel
theorem dd_Way_init_15 : decode bb_Way_init 15 = .ok (.iconst (-1), 1) := by decide +kernel
theorem dd_Way_init_16 : decode bb_Way_init 16 = .ok (.putfield 18, 3) := by decide +kernel
theorem dd_Way_init_19 : decode bb_Way_init 19 = .ok (.aload_n 0, 1) := by decide +kernel
theorem dd_Way_init_20 : decode bb_Way_init 20 = .ok (.iconst 0, 1) := by decide +kernel
theorem dd_Way_init_21 : decode bb_Way_init 21 = .ok (.putfield 21, 3) := by decide +kernel
theorem dd_Way_init_24 : decode bb_Way_init 24 = .ok (.aload_n 0, 1) := by decide +kernel
theorem dd_Way_init_25 : decode bb_Way_init 25 = .ok (.iconst 0, 1) := by decide +kernel
theorem dd_Way_init_26 : decode bb_Way_init 26 = .ok (.putfield 25, 3) := by decide +kernel
theorem dd_Way_init_29 : decode bb_Way_init 29 = .ok (.aload_n 0, 1) := by decide +kernel
theorem dd_Way_init_30 : decode bb_Way_init 30 = .ok (.iconst 0, 1) := by decide +kernel
theorem dd_Way_init_31 : decode bb_Way_init 31 = .ok (.putfield 28, 3) := by decide +kernel
theorem dd_Way_init_34 : decode bb_Way_init 34 = .ok (.aload_n 0, 1) := by decide +kernel
theorem dd_Way_init_35 : decode bb_Way_init 35 = .ok (.bipush 16, 2) := by decide +kernel
theorem dd_Way_init_37 : decode bb_Way_init 37 = .ok (.newarray .int, 2) := by decide +kernel
theorem dd_Way_init_39 : decode bb_Way_init 39 = .ok (.putfield 31, 3) := by decide +kernel
theorem dd_Way_init_42 : decode bb_Way_init 42 = .ok (.aload_n 0, 1) := by decide +kernel
theorem dd_Way_init_43 : decode bb_Way_init 43 = .ok (.bipush 16, 2) := by decide +kernel
theorem dd_Way_init_45 : decode bb_Way_init 45 = .ok (.newarray .int, 2) := by decide +kernel
theorem dd_Way_init_47 : decode bb_Way_init 47 = .ok (.putfield 35, 3) := by decide +kernel
theorem dd_Way_init_50 : decode bb_Way_init 50 = .ok (.aload_n 0, 1) := by decide +kernel
theorem dd_Way_init_51 : decode bb_Way_init 51 = .ok (.lconst 0, 1) := by decide +kernel
theorem dd_Way_init_52 : decode bb_Way_init 52 = .ok (.putfield 38, 3) := by decide +kernel
theorem dd_Way_init_55 : decode bb_Way_init 55 = .ok (.aload_n 0, 1) := by decide +kernel
theorem dd_Way_init_56 : decode bb_Way_init 56 = .ok (.iconst 0, 1) := by decide +kernel
theorem dd_Way_init_57 : decode bb_Way_init 57 = .ok (.putfield 42, 3) := by decide +kernel
theorem dd_Way_init_60 : decode bb_Way_init 60 = .ok (.aload_n 0, 1) := by decide +kernel
theorem dd_Way_init_61 : decode bb_Way_init 61 = .ok (.ldc2_w 45, 3) := by decide +kernel
theorem dd_Way_init_64 : decode bb_Way_init 64 = .ok (.putfield 47, 3) := by decide +kernel
theorem dd_Way_init_67 : decode bb_Way_init 67 = .ok (.aload_n 0, 1) := by decide +kernel
theorem dd_Way_init_68 : decode bb_Way_init 68 = .ok (.bipush 12, 2) := by decide +kernel
theorem dd_Way_init_70 : decode bb_Way_init 70 = .ok (.newarray .long, 2) := by decide +kernel
theorem dd_Way_init_72 : decode bb_Way_init 72 = .ok (.putfield 50, 3) := by decide +kernel
theorem dd_Way_init_75 : decode bb_Way_init 75 = .ok (.aload_n 0, 1) := by decide +kernel
theorem dd_Way_init_76 : decode bb_Way_init 76 = .ok (.bipush 12, 2) := by decide +kernel
theorem dd_Way_init_78 : decode bb_Way_init 78 = .ok (.newarray .long, 2) := by decide +kernel
theorem dd_Way_init_80 : decode bb_Way_init 80 = .ok (.putfield 54, 3) := by decide +kernel
theorem dd_Way_init_83 : decode bb_Way_init 83 = .ok (.aload_n 0, 1) := by decide +kernel
theorem dd_Way_init_84 : decode bb_Way_init 84 = .ok (.sipush 256, 3) := by decide +kernel
theorem dd_Way_init_87 : decode bb_Way_init 87 = .ok (.newarray .int, 2) := by decide +kernel
theorem dd_Way_init_89 : decode bb_Way_init 89 = .ok (.putfield 57, 3) := by decide +kernel
theorem dd_Way_init_92 : decode bb_Way_init 92 = .ok (.aload_n 0, 1) := by decide +kernel
theorem dd_Way_init_93 : decode bb_Way_init 93 = .ok (.bipush 16, 2) := by decide +kernel
theorem dd_Way_init_95 : decode bb_Way_init 95 = .ok (.newarray .int, 2) := by decide +kernel
theorem dd_Way_init_97 : decode bb_Way_init 97 = .ok (.putfield 60, 3) := by decide +kernel
theorem dd_Way_init_100 : decode bb_Way_init 100 = .ok (.aload_n 0, 1) := by decide +kernel
theorem dd_Way_init_101 : decode bb_Way_init 101 = .ok (.bipush 16, 2) := by decide +kernel
theorem dd_Way_init_103 : decode bb_Way_init 103 = .ok (.newarray .int, 2) := by decide +kernel
theorem dd_Way_init_105 : decode bb_Way_init 105 = .ok (.putfield 63, 3) := by decide +kernel
theorem dd_Way_init_108 : decode bb_Way_init 108 = .ok (.aload_n 0, 1) := by decide +kernel
theorem dd_Way_init_109 : decode bb_Way_init 109 = .ok (.iconst 0, 1) := by decide +kernel
theorem dd_Way_init_110 : decode bb_Way_init 110 = .ok (.putfield 66, 3) := by decide +kernel
theorem dd_Way_init_113 : decode bb_Way_init 113 = .ok (.aload_n 0, 1) := by decide +kernel
theorem dd_Way_init_114 : decode bb_Way_init 114 = .ok (.iconst (-1), 1) := by decide +kernel
theorem dd_Way_init_115 : decode bb_Way_init 115 = .ok (.putfield 69, 3) := by decide +kernel
theorem dd_Way_init_118 : decode bb_Way_init 118 = .ok (.return_, 1) := by decide +kernel
set_option maxRecDepth 100000 in
set_option maxHeartbeats 4000000 in
theorem c_Way_init (l : Launch) {nf mc ms : Nat} {a0 : Nat} {c : Zc} {res : Zc} (h : f_Way_init nf mc ms a0 c = some res) : zM l yy_Way_init ww_Way_init 1 20 mc ms [.ref a0] c (fun D cid B => zQv D cid B res c.length mc) := by
  refine z_met (cc := bb_Way_init) (maxL := 1) (ret := none) (by decide +kernel) rfl (Nat.le_of_ble_eq_true rfl) ?_
  intro p e s m args below meth cd D cid B X h1 h2 h3 h4
  have X : zX p s m args cd D cid B bb_Way_init 1 rr_Way zT := X
  have H : zH s meth B c.length none "<init>" := ⟨h1, h2, h4, h3⟩
  unfold f_Way_init at h
  show Zz p l e (zRm 1 20 mc ms) s m args below meth cd _ D cid B 1 0 0 c 0 [(0, .ref a0)] []
  refine z_aload_n X dd_Way_init_0 rfl 0 rfl ?_
  refine z_objInit X dd_Way_init_1 km_219 km_153 km_154 (Nat.le_of_ble_eq_true rfl) (Nat.le_of_ble_eq_true rfl) ?_
  refine z_aload_n X dd_Way_init_4 rfl 0 rfl ?_
  refine z_iconst (v := 0) X dd_Way_init_5 (by decide) ?_
  obtain ⟨c1, ec1, h⟩ := zb h
  refine z_put (j := 0) X dd_Way_init_6 kc_1 ki_1 tt_Way tk_Way nn_Way (by decide) km_221 rfl (tk_Way 0 (by decide)) rfl rfl ec1 ?_
  refine z_aload_n X dd_Way_init_9 rfl 0 rfl ?_
  refine z_iconst (v := 0) X dd_Way_init_10 (by decide) ?_
  obtain ⟨c2, ec2, h⟩ := zb h
  refine z_put (j := 1) X dd_Way_init_11 kc_1 ki_1 tt_Way tk_Way nn_Way (by decide) km_224 rfl (tk_Way 1 (by decide)) rfl rfl ec2 ?_
  refine z_aload_n X dd_Way_init_14 rfl 0 rfl ?_
  refine z_iconst (v := (-1)) X dd_Way_init_15 (by decide) ?_
  obtain ⟨c3, ec3, h⟩ := zb h
  refine z_put (j := 2) X dd_Way_init_16 kc_1 ki_1 tt_Way tk_Way nn_Way (by decide) km_227 rfl (tk_Way 2 (by decide)) rfl rfl ec3 ?_
  refine z_aload_n X dd_Way_init_19 rfl 0 rfl ?_
  refine z_iconst (v := 0) X dd_Way_init_20 (by decide) ?_
  obtain ⟨c4, ec4, h⟩ := zb h
  refine z_put (j := 3) X dd_Way_init_21 kc_1 ki_1 tt_Way tk_Way nn_Way (by decide) km_230 rfl (tk_Way 3 (by decide)) rfl rfl ec4 ?_
  refine z_aload_n X dd_Way_init_24 rfl 0 rfl ?_
  refine z_iconst (v := 0) X dd_Way_init_25 (by decide) ?_
  obtain ⟨c5, ec5, h⟩ := zb h
  refine z_put (j := 4) X dd_Way_init_26 kc_1 ki_1 tt_Way tk_Way nn_Way (by decide) km_233 rfl (tk_Way 4 (by decide)) rfl rfl ec5 ?_
  refine z_aload_n X dd_Way_init_29 rfl 0 rfl ?_
  refine z_iconst (v := 0) X dd_Way_init_30 (by decide) ?_
  obtain ⟨c6, ec6, h⟩ := zb h
  refine z_put (j := 5) X dd_Way_init_31 kc_1 ki_1 tt_Way tk_Way nn_Way (by decide) km_235 rfl (tk_Way 5 (by decide)) rfl rfl ec6 ?_
  refine z_aload_n X dd_Way_init_34 rfl 0 rfl ?_
  refine z_bipush (v := 16) X dd_Way_init_35 (by decide) ?_
  obtain ⟨u8, eu8, h⟩ := zb h
  obtain ⟨c7, ec7, h⟩ := zb h
  refine z_newaC (ty := .int) X dd_Way_init_37 rfl km_206 rfl (fun _ q => by cases q) (fun _ => rfl) (fun _ => rfl) (by decide) (by decide) (by decide) (zlim_s eu8).1 (zlim_s eu8).2 ec7 ?_
  obtain ⟨c9, ec9, h⟩ := zb h
  refine z_putF (j := 6) X dd_Way_init_39 kc_1 ki_1 tt_Way tk_Way nn_Way (by decide) km_238 rfl H.2.2.2 rfl (tk_Way 6 (by decide)) rfl rfl ec9 ?_
  refine z_aload_n X dd_Way_init_42 rfl 0 rfl ?_
  refine z_bipush (v := 16) X dd_Way_init_43 (by decide) ?_
  obtain ⟨u11, eu11, h⟩ := zb h
  obtain ⟨c10, ec10, h⟩ := zb h
  refine z_newaC (ty := .int) X dd_Way_init_45 rfl km_206 rfl (fun _ q => by cases q) (fun _ => rfl) (fun _ => rfl) (by decide) (by decide) (by decide) (zlim_s eu11).1 (zlim_s eu11).2 ec10 ?_
  obtain ⟨c12, ec12, h⟩ := zb h
  refine z_putF (j := 7) X dd_Way_init_47 kc_1 ki_1 tt_Way tk_Way nn_Way (by decide) km_240 rfl H.2.2.2 rfl (tk_Way 7 (by decide)) rfl rfl ec12 ?_
  refine z_aload_n X dd_Way_init_50 rfl 0 rfl ?_
  refine z_lconst (v := 0) X dd_Way_init_51 (by decide) ?_
  obtain ⟨c13, ec13, h⟩ := zb h
  refine z_put (j := 8) X dd_Way_init_52 kc_1 ki_1 tt_Way tk_Way nn_Way (by decide) km_242 rfl (tk_Way 8 (by decide)) rfl rfl ec13 ?_
  refine z_aload_n X dd_Way_init_55 rfl 0 rfl ?_
  refine z_iconst (v := 0) X dd_Way_init_56 (by decide) ?_
  obtain ⟨c14, ec14, h⟩ := zb h
  refine z_put (j := 9) X dd_Way_init_57 kc_1 ki_1 tt_Way tk_Way nn_Way (by decide) km_244 rfl (tk_Way 9 (by decide)) rfl rfl ec14 ?_
  refine z_aload_n X dd_Way_init_60 rfl 0 rfl ?_
  refine z_ldc2 (v := (-1)) X dd_Way_init_61 km_220 ?_
  obtain ⟨c15, ec15, h⟩ := zb h
  refine z_put (j := 10) X dd_Way_init_64 kc_1 ki_1 tt_Way tk_Way nn_Way (by decide) km_246 rfl (tk_Way 10 (by decide)) rfl rfl ec15 ?_
  refine z_aload_n X dd_Way_init_67 rfl 0 rfl ?_
  refine z_bipush (v := 12) X dd_Way_init_68 (by decide) ?_
  obtain ⟨u17, eu17, h⟩ := zb h
  obtain ⟨c16, ec16, h⟩ := zb h
  refine z_newaC (ty := .long) X dd_Way_init_70 rfl km_297 rfl (fun _ q => by cases q) (fun _ => rfl) (fun _ => rfl) (by decide) (by decide) (by decide) (zlim_s eu17).1 (zlim_s eu17).2 ec16 ?_
  obtain ⟨c18, ec18, h⟩ := zb h
  refine z_putF (j := 11) X dd_Way_init_72 kc_1 ki_1 tt_Way tk_Way nn_Way (by decide) km_247 rfl H.2.2.2 rfl (tk_Way 11 (by decide)) rfl rfl ec18 ?_
  refine z_aload_n X dd_Way_init_75 rfl 0 rfl ?_
  refine z_bipush (v := 12) X dd_Way_init_76 (by decide) ?_
  obtain ⟨u20, eu20, h⟩ := zb h
  obtain ⟨c19, ec19, h⟩ := zb h
  refine z_newaC (ty := .long) X dd_Way_init_78 rfl km_297 rfl (fun _ q => by cases q) (fun _ => rfl) (fun _ => rfl) (by decide) (by decide) (by decide) (zlim_s eu20).1 (zlim_s eu20).2 ec19 ?_
  obtain ⟨c21, ec21, h⟩ := zb h
  refine z_putF (j := 12) X dd_Way_init_80 kc_1 ki_1 tt_Way tk_Way nn_Way (by decide) km_248 rfl H.2.2.2 rfl (tk_Way 12 (by decide)) rfl rfl ec21 ?_
  refine z_aload_n X dd_Way_init_83 rfl 0 rfl ?_
  refine z_sipush (v := 256) X dd_Way_init_84 (by decide) ?_
  obtain ⟨u23, eu23, h⟩ := zb h
  obtain ⟨c22, ec22, h⟩ := zb h
  refine z_newaC (ty := .int) X dd_Way_init_87 rfl km_206 rfl (fun _ q => by cases q) (fun _ => rfl) (fun _ => rfl) (by decide) (by decide) (by decide) (zlim_s eu23).1 (zlim_s eu23).2 ec22 ?_
  obtain ⟨c24, ec24, h⟩ := zb h
  refine z_putF (j := 13) X dd_Way_init_89 kc_1 ki_1 tt_Way tk_Way nn_Way (by decide) km_249 rfl H.2.2.2 rfl (tk_Way 13 (by decide)) rfl rfl ec24 ?_
  refine z_aload_n X dd_Way_init_92 rfl 0 rfl ?_
  refine z_bipush (v := 16) X dd_Way_init_93 (by decide) ?_
  obtain ⟨u26, eu26, h⟩ := zb h
  obtain ⟨c25, ec25, h⟩ := zb h
  refine z_newaC (ty := .int) X dd_Way_init_95 rfl km_206 rfl (fun _ q => by cases q) (fun _ => rfl) (fun _ => rfl) (by decide) (by decide) (by decide) (zlim_s eu26).1 (zlim_s eu26).2 ec25 ?_
  obtain ⟨c27, ec27, h⟩ := zb h
  refine z_putF (j := 14) X dd_Way_init_97 kc_1 ki_1 tt_Way tk_Way nn_Way (by decide) km_250 rfl H.2.2.2 rfl (tk_Way 14 (by decide)) rfl rfl ec27 ?_
  refine z_aload_n X dd_Way_init_100 rfl 0 rfl ?_
  refine z_bipush (v := 16) X dd_Way_init_101 (by decide) ?_
  obtain ⟨u29, eu29, h⟩ := zb h
  obtain ⟨c28, ec28, h⟩ := zb h
  refine z_newaC (ty := .int) X dd_Way_init_103 rfl km_206 rfl (fun _ q => by cases q) (fun _ => rfl) (fun _ => rfl) (by decide) (by decide) (by decide) (zlim_s eu29).1 (zlim_s eu29).2 ec28 ?_
  obtain ⟨c30, ec30, h⟩ := zb h
  refine z_putF (j := 15) X dd_Way_init_105 kc_1 ki_1 tt_Way tk_Way nn_Way (by decide) km_253 rfl H.2.2.2 rfl (tk_Way 15 (by decide)) rfl rfl ec30 ?_
  refine z_aload_n X dd_Way_init_108 rfl 0 rfl ?_
  refine z_iconst (v := 0) X dd_Way_init_109 (by decide) ?_
  obtain ⟨c31, ec31, h⟩ := zb h
  refine z_put (j := 16) X dd_Way_init_110 kc_1 ki_1 tt_Way tk_Way nn_Way (by decide) km_255 rfl (tk_Way 16 (by decide)) rfl rfl ec31 ?_
  refine z_aload_n X dd_Way_init_113 rfl 0 rfl ?_
  refine z_iconst (v := (-1)) X dd_Way_init_114 (by decide) ?_
  obtain ⟨c32, ec32, h⟩ := zb h
  refine z_put (j := 17) X dd_Way_init_115 kc_1 ki_1 tt_Way tk_Way nn_Way (by decide) km_257 rfl (tk_Way 17 (by decide)) rfl rfl ec32 ?_
  obtain ⟨u33, eu33, h⟩ := zb h
  refine z_wid (zend_s eu33).1 (zend_s eu33).2 ?_
  obtain rfl := Option.some.inj h
  exact z_vret X H.1 H.2.1 H.2.2.1 dd_Way_init_118
theorem dd_Way_open_0 : decode bb_Way_open 0 = .ok (.aload_n 0, 1) := by decide +kernel
theorem dd_Way_open_1 : decode bb_Way_open 1 = .ok (.iload_n 1, 1) := by decide +kernel
theorem dd_Way_open_2 : decode bb_Way_open 2 = .ok (.putfield 21, 3) := by decide +kernel
theorem dd_Way_open_5 : decode bb_Way_open 5 = .ok (.aload_n 0, 1) := by decide +kernel
theorem dd_Way_open_6 : decode bb_Way_open 6 = .ok (.iconst 0, 1) := by decide +kernel
theorem dd_Way_open_7 : decode bb_Way_open 7 = .ok (.putfield 25, 3) := by decide +kernel
theorem dd_Way_open_10 : decode bb_Way_open 10 = .ok (.aload_n 0, 1) := by decide +kernel
theorem dd_Way_open_11 : decode bb_Way_open 11 = .ok (.iconst (-1), 1) := by decide +kernel
theorem dd_Way_open_12 : decode bb_Way_open 12 = .ok (.putfield 18, 3) := by decide +kernel
theorem dd_Way_open_15 : decode bb_Way_open 15 = .ok (.aload_n 0, 1) := by decide +kernel
theorem dd_Way_open_16 : decode bb_Way_open 16 = .ok (.iconst 0, 1) := by decide +kernel
theorem dd_Way_open_17 : decode bb_Way_open 17 = .ok (.putfield 28, 3) := by decide +kernel
theorem dd_Way_open_20 : decode bb_Way_open 20 = .ok (.aload_n 0, 1) := by decide +kernel
theorem dd_Way_open_21 : decode bb_Way_open 21 = .ok (.iconst 0, 1) := by decide +kernel
theorem dd_Way_open_22 : decode bb_Way_open 22 = .ok (.putfield 42, 3) := by decide +kernel
theorem dd_Way_open_25 : decode bb_Way_open 25 = .ok (.aload_n 0, 1) := by decide +kernel
theorem dd_Way_open_26 : decode bb_Way_open 26 = .ok (.ldc2_w 45, 3) := by decide +kernel
theorem dd_Way_open_29 : decode bb_Way_open 29 = .ok (.putfield 47, 3) := by decide +kernel
theorem dd_Way_open_32 : decode bb_Way_open 32 = .ok (.aload_n 0, 1) := by decide +kernel
theorem dd_Way_open_33 : decode bb_Way_open 33 = .ok (.getfield 50, 3) := by decide +kernel
theorem dd_Way_open_36 : decode bb_Way_open 36 = .ok (.iconst 0, 1) := by decide +kernel
theorem dd_Way_open_37 : decode bb_Way_open 37 = .ok (.ldc2_w 45, 3) := by decide +kernel
theorem dd_Way_open_40 : decode bb_Way_open 40 = .ok (.lastore, 1) := by decide +kernel
theorem dd_Way_open_41 : decode bb_Way_open 41 = .ok (.aload_n 0, 1) := by decide +kernel
theorem dd_Way_open_42 : decode bb_Way_open 42 = .ok (.getfield 54, 3) := by decide +kernel
theorem dd_Way_open_45 : decode bb_Way_open 45 = .ok (.iconst 0, 1) := by decide +kernel
theorem dd_Way_open_46 : decode bb_Way_open 46 = .ok (.ldc2_w 45, 3) := by decide +kernel
theorem dd_Way_open_49 : decode bb_Way_open 49 = .ok (.lastore, 1) := by decide +kernel
theorem dd_Way_open_50 : decode bb_Way_open 50 = .ok (.aload_n 0, 1) := by decide +kernel
theorem dd_Way_open_51 : decode bb_Way_open 51 = .ok (.iconst (-1), 1) := by decide +kernel
theorem dd_Way_open_52 : decode bb_Way_open 52 = .ok (.putfield 69, 3) := by decide +kernel
theorem dd_Way_open_55 : decode bb_Way_open 55 = .ok (.return_, 1) := by decide +kernel
set_option maxRecDepth 100000 in
set_option maxHeartbeats 4000000 in
theorem c_Way_open (l : Launch) {nf : Nat} {a0 : Nat} {a1 : Int32} {c : Zc} {res : Zc} (h : f_Way_open nf a0 a1 c = some res) : zM l yy_Way_open ww_Way_open 0 0 0 0 [.ref a0, .int a1] c (fun D cid B => zQv D cid B res c.length 0) := by
  refine z_met (cc := bb_Way_open) (maxL := 2) (ret := none) (by decide +kernel) rfl (Nat.le_of_ble_eq_true rfl) ?_
  intro p e s m args below meth cd D cid B X h1 h2 h3 h4
  have X : zX p s m args cd D cid B bb_Way_open 2 rr_Way zT := X
  have H : zH s meth B c.length none "open" := ⟨h1, h2, h4, h3⟩
  unfold f_Way_open at h
  show Zz p l e (zRm 0 0 0 0) s m args below meth cd _ D cid B 2 0 0 c 0 [(0, .ref a0), (1, .int a1)] []
  refine z_aload_n X dd_Way_open_0 rfl 0 rfl ?_
  refine z_iload_n X dd_Way_open_1 rfl 1 rfl ?_
  obtain ⟨c1, ec1, h⟩ := zb h
  obtain ⟨bc1, ec1⟩ := zpz_s ec1
  refine z_put (j := 3) X dd_Way_open_2 kc_1 ki_1 tt_Way tk_Way nn_Way (by decide) km_230 rfl (tk_Way 3 (by decide)) (zn_z bc1) (zf_z bc1) ec1 ?_
  refine z_aload_n X dd_Way_open_5 rfl 0 rfl ?_
  refine z_iconst (v := 0) X dd_Way_open_6 (by decide) ?_
  obtain ⟨c2, ec2, h⟩ := zb h
  refine z_put (j := 4) X dd_Way_open_7 kc_1 ki_1 tt_Way tk_Way nn_Way (by decide) km_233 rfl (tk_Way 4 (by decide)) rfl rfl ec2 ?_
  refine z_aload_n X dd_Way_open_10 rfl 0 rfl ?_
  refine z_iconst (v := (-1)) X dd_Way_open_11 (by decide) ?_
  obtain ⟨c3, ec3, h⟩ := zb h
  refine z_put (j := 2) X dd_Way_open_12 kc_1 ki_1 tt_Way tk_Way nn_Way (by decide) km_227 rfl (tk_Way 2 (by decide)) rfl rfl ec3 ?_
  refine z_aload_n X dd_Way_open_15 rfl 0 rfl ?_
  refine z_iconst (v := 0) X dd_Way_open_16 (by decide) ?_
  obtain ⟨c4, ec4, h⟩ := zb h
  refine z_put (j := 5) X dd_Way_open_17 kc_1 ki_1 tt_Way tk_Way nn_Way (by decide) km_235 rfl (tk_Way 5 (by decide)) rfl rfl ec4 ?_
  refine z_aload_n X dd_Way_open_20 rfl 0 rfl ?_
  refine z_iconst (v := 0) X dd_Way_open_21 (by decide) ?_
  obtain ⟨c5, ec5, h⟩ := zb h
  refine z_put (j := 9) X dd_Way_open_22 kc_1 ki_1 tt_Way tk_Way nn_Way (by decide) km_244 rfl (tk_Way 9 (by decide)) rfl rfl ec5 ?_
  refine z_aload_n X dd_Way_open_25 rfl 0 rfl ?_
  refine z_ldc2 (v := (-1)) X dd_Way_open_26 km_220 ?_
  obtain ⟨c6, ec6, h⟩ := zb h
  refine z_put (j := 10) X dd_Way_open_29 kc_1 ki_1 tt_Way tk_Way nn_Way (by decide) km_246 rfl (tk_Way 10 (by decide)) rfl rfl ec6 ?_
  refine z_aload_n X dd_Way_open_32 rfl 0 rfl ?_
  obtain ⟨v7, ev7, h⟩ := zb h
  refine z_get (j := 11) X dd_Way_open_33 kc_1 ki_1 (by decide) km_247 (zgr_v ev7) ?_
  refine z_iconst (v := 0) X dd_Way_open_36 (by decide) ?_
  refine z_ldc2 (v := (-1)) X dd_Way_open_37 km_220 ?_
  obtain ⟨c8, ec8, h⟩ := zb h
  refine z_lastore X dd_Way_open_40 rfl ec8 ?_
  refine z_aload_n X dd_Way_open_41 rfl 0 rfl ?_
  obtain ⟨v9, ev9, h⟩ := zb h
  refine z_get (j := 12) X dd_Way_open_42 kc_1 ki_1 (by decide) km_248 (zgr_v ev9) ?_
  refine z_iconst (v := 0) X dd_Way_open_45 (by decide) ?_
  refine z_ldc2 (v := (-1)) X dd_Way_open_46 km_220 ?_
  obtain ⟨c10, ec10, h⟩ := zb h
  refine z_lastore X dd_Way_open_49 rfl ec10 ?_
  refine z_aload_n X dd_Way_open_50 rfl 0 rfl ?_
  refine z_iconst (v := (-1)) X dd_Way_open_51 (by decide) ?_
  obtain ⟨c11, ec11, h⟩ := zb h
  refine z_put (j := 17) X dd_Way_open_52 kc_1 ki_1 tt_Way tk_Way nn_Way (by decide) km_257 rfl (tk_Way 17 (by decide)) rfl rfl ec11 ?_
  obtain rfl := Option.some.inj h
  exact z_vret X H.1 H.2.1 H.2.2.1 dd_Way_open_55
theorem dd_Way_join_0 : decode bb_Way_join 0 = .ok (.aload_n 0, 1) := by decide +kernel
theorem dd_Way_join_1 : decode bb_Way_join 1 = .ok (.aload_n 0, 1) := by decide +kernel
theorem dd_Way_join_2 : decode bb_Way_join 2 = .ok (.getfield 21, 3) := by decide +kernel
theorem dd_Way_join_5 : decode bb_Way_join 5 = .ok (.ifCond .eq 7, 3) := by decide +kernel
theorem dd_Way_join_8 : decode bb_Way_join 8 = .ok (.iload_n 2, 1) := by decide +kernel
theorem dd_Way_join_9 : decode bb_Way_join 9 = .ok (.goto 4, 3) := by decide +kernel
theorem dd_Way_join_12 : decode bb_Way_join 12 = .ok (.iload_n 1, 1) := by decide +kernel
theorem dd_Way_join_13 : decode bb_Way_join 13 = .ok (.putfield 9, 3) := by decide +kernel
theorem dd_Way_join_16 : decode bb_Way_join 16 = .ok (.aload_n 0, 1) := by decide +kernel
theorem dd_Way_join_17 : decode bb_Way_join 17 = .ok (.aload_n 0, 1) := by decide +kernel
theorem dd_Way_join_18 : decode bb_Way_join 18 = .ok (.getfield 21, 3) := by decide +kernel
theorem dd_Way_join_21 : decode bb_Way_join 21 = .ok (.ifCond .eq 7, 3) := by decide +kernel
theorem dd_Way_join_24 : decode bb_Way_join 24 = .ok (.iload_n 1, 1) := by decide +kernel
theorem dd_Way_join_25 : decode bb_Way_join 25 = .ok (.goto 4, 3) := by decide +kernel
theorem dd_Way_join_28 : decode bb_Way_join 28 = .ok (.iload_n 2, 1) := by decide +kernel
theorem dd_Way_join_29 : decode bb_Way_join 29 = .ok (.putfield 15, 3) := by decide +kernel
theorem dd_Way_join_32 : decode bb_Way_join 32 = .ok (.return_, 1) := by decide +kernel
set_option maxRecDepth 100000 in
set_option maxHeartbeats 4000000 in
theorem t_Way_join_29  (X : zX p s m args cd D cid B bb_Way_join 3 rr_Way zT) (H : zH s meth B n0 none "join") {nf : Nat} {s0 : Nat} {s1 : Int32} {c : Zc} {res : Zc} (h : f_Way_join_29 nf s0 s1 c = some res) : Zz p l e (zRm 0 0 0 0) s m args below meth cd (MQ below (zQv D cid B res n0 0) args s 0 0 (fun q => B ≤ q)) D cid B 3 0 0 c 29 [] [.int s1, .ref s0] := by
  unfold f_Way_join_29 at h
  obtain ⟨c6, ec6, h⟩ := zb h
  refine z_put (j := 1) X dd_Way_join_29 kc_1 ki_1 tt_Way tk_Way nn_Way (by decide) km_224 rfl (tk_Way 1 (by decide)) rfl rfl ec6 ?_
  obtain rfl := Option.some.inj h
  exact z_vret X H.1 H.2.1 H.2.2.1 dd_Way_join_32
set_option maxRecDepth 100000 in
set_option maxHeartbeats 4000000 in
theorem t_Way_join_13  (X : zX p s m args cd D cid B bb_Way_join 3 rr_Way zT) (H : zH s meth B n0 none "join") {nf : Nat} {x0 : Nat} {x1 : Int32} {x2 : Int32} {s0 : Nat} {s1 : Int32} {c : Zc} {res : Zc} (h : f_Way_join_13 nf x0 x1 x2 s0 s1 c = some res) : Zz p l e (zRm 0 0 0 0) s m args below meth cd (MQ below (zQv D cid B res n0 0) args s 0 0 (fun q => B ≤ q)) D cid B 3 0 0 c 13 [(0, .ref x0), (1, .int x1), (2, .int x2)] [.int s1, .ref s0] := by
  unfold f_Way_join_13 at h
  obtain ⟨c3, ec3, h⟩ := zb h
  refine z_put (j := 0) X dd_Way_join_13 kc_1 ki_1 tt_Way tk_Way nn_Way (by decide) km_221 rfl (tk_Way 0 (by decide)) rfl rfl ec3 ?_
  refine z_aload_n X dd_Way_join_16 rfl 0 rfl ?_
  refine z_aload_n X dd_Way_join_17 rfl 0 rfl ?_
  obtain ⟨v4, ev4, h⟩ := zb h
  refine z_get (j := 3) X dd_Way_join_18 kc_1 ki_1 (by decide) km_230 (zgi_v ev4) ?_
  refine z_if_eq (tgt := 28) X dd_Way_join_21 (by decide) (fun q5 => ?_) (fun q5 => ?_)
  · rw [if_pos q5] at h
    refine z_iload_n X dd_Way_join_28 rfl 2 rfl ?_
    refine z_sub [] rfl ?_
    exact t_Way_join_29 X H h
  · rw [if_neg q5] at h
    refine z_iload_n X dd_Way_join_24 rfl 1 rfl ?_
    refine z_goto (tgt := 29) X dd_Way_join_25 (by decide) ?_
    refine z_sub [] rfl ?_
    exact t_Way_join_29 X H h
set_option maxRecDepth 100000 in
set_option maxHeartbeats 4000000 in
theorem c_Way_join (l : Launch) {nf : Nat} {a0 : Nat} {a1 : Int32} {a2 : Int32} {c : Zc} {res : Zc} (h : f_Way_join nf a0 a1 a2 c = some res) : zM l yy_Way_join ww_Way_join 0 0 0 0 [.ref a0, .int a1, .int a2] c (fun D cid B => zQv D cid B res c.length 0) := by
  refine z_met (cc := bb_Way_join) (maxL := 3) (ret := none) (by decide +kernel) rfl (Nat.le_of_ble_eq_true rfl) ?_
  intro p e s m args below meth cd D cid B X h1 h2 h3 h4
  have X : zX p s m args cd D cid B bb_Way_join 3 rr_Way zT := X
  have H : zH s meth B c.length none "join" := ⟨h1, h2, h4, h3⟩
  unfold f_Way_join at h
  show Zz p l e (zRm 0 0 0 0) s m args below meth cd _ D cid B 3 0 0 c 0 [(0, .ref a0), (1, .int a1), (2, .int a2)] []
  refine z_aload_n X dd_Way_join_0 rfl 0 rfl ?_
  refine z_aload_n X dd_Way_join_1 rfl 0 rfl ?_
  obtain ⟨v1, ev1, h⟩ := zb h
  refine z_get (j := 3) X dd_Way_join_2 kc_1 ki_1 (by decide) km_230 (zgi_v ev1) ?_
  refine z_if_eq (tgt := 12) X dd_Way_join_5 (by decide) (fun q2 => ?_) (fun q2 => ?_)
  · rw [if_pos q2] at h
    refine z_iload_n X dd_Way_join_12 rfl 1 rfl ?_
    exact t_Way_join_13 X H h
  · rw [if_neg q2] at h
    refine z_iload_n X dd_Way_join_8 rfl 2 rfl ?_
    refine z_goto (tgt := 13) X dd_Way_join_9 (by decide) ?_
    exact t_Way_join_13 X H h
theorem dd_Way_lead_0 : decode bb_Way_lead 0 = .ok (.iconst 0, 1) := by decide +kernel
theorem dd_Way_lead_1 : decode bb_Way_lead 1 = .ok (.istore 5, 2) := by decide +kernel
theorem dd_Way_lead_3 : decode bb_Way_lead 3 = .ok (.iload 5, 2) := by decide +kernel
theorem dd_Way_lead_5 : decode bb_Way_lead 5 = .ok (.aload_n 0, 1) := by decide +kernel
theorem dd_Way_lead_6 : decode bb_Way_lead 6 = .ok (.getfield 28, 3) := by decide +kernel
theorem dd_Way_lead_9 : decode bb_Way_lead 9 = .ok (.if_icmp .ge 39, 3) := by decide +kernel
theorem dd_Way_lead_12 : decode bb_Way_lead 12 = .ok (.lload_n 1, 1) := by decide +kernel
theorem dd_Way_lead_13 : decode bb_Way_lead 13 = .ok (.bipush 16, 2) := by decide +kernel
theorem dd_Way_lead_15 : decode bb_Way_lead 15 = .ok (.iload 5, 2) := by decide +kernel
theorem dd_Way_lead_17 : decode bb_Way_lead 17 = .ok (.iadd, 1) := by decide +kernel
theorem dd_Way_lead_18 : decode bb_Way_lead 18 = .ok (.lshr, 1) := by decide +kernel
theorem dd_Way_lead_19 : decode bb_Way_lead 19 = .ok (.lconst 1, 1) := by decide +kernel
theorem dd_Way_lead_20 : decode bb_Way_lead 20 = .ok (.land, 1) := by decide +kernel
theorem dd_Way_lead_21 : decode bb_Way_lead 21 = .ok (.lconst 0, 1) := by decide +kernel
theorem dd_Way_lead_22 : decode bb_Way_lead 22 = .ok (.lcmp, 1) := by decide +kernel
theorem dd_Way_lead_23 : decode bb_Way_lead 23 = .ok (.ifCond .eq 19, 3) := by decide +kernel
theorem dd_Way_lead_26 : decode bb_Way_lead 26 = .ok (.aload_n 0, 1) := by decide +kernel
theorem dd_Way_lead_27 : decode bb_Way_lead 27 = .ok (.getfield 35, 3) := by decide +kernel
theorem dd_Way_lead_30 : decode bb_Way_lead 30 = .ok (.iload 5, 2) := by decide +kernel
theorem dd_Way_lead_32 : decode bb_Way_lead 32 = .ok (.dup2, 1) := by decide +kernel
theorem dd_Way_lead_33 : decode bb_Way_lead 33 = .ok (.iaload, 1) := by decide +kernel
theorem dd_Way_lead_34 : decode bb_Way_lead 34 = .ok (.lload_n 3, 1) := by decide +kernel
theorem dd_Way_lead_35 : decode bb_Way_lead 35 = .ok (.ldc2_w 84, 3) := by decide +kernel
theorem dd_Way_lead_38 : decode bb_Way_lead 38 = .ok (.land, 1) := by decide +kernel
theorem dd_Way_lead_39 : decode bb_Way_lead 39 = .ok (.l2i, 1) := by decide +kernel
theorem dd_Way_lead_40 : decode bb_Way_lead 40 = .ok (.ior, 1) := by decide +kernel
theorem dd_Way_lead_41 : decode bb_Way_lead 41 = .ok (.iastore, 1) := by decide +kernel
theorem dd_Way_lead_42 : decode bb_Way_lead 42 = .ok (.iinc 5 1, 3) := by decide +kernel
theorem dd_Way_lead_45 : decode bb_Way_lead 45 = .ok (.goto (-42), 3) := by decide +kernel
theorem dd_Way_lead_48 : decode bb_Way_lead 48 = .ok (.return_, 1) := by decide +kernel
set_option maxRecDepth 100000 in
set_option maxHeartbeats 4000000 in
theorem t_Way_lead_42  (X : zX p s m args cd D cid B bb_Way_lead 6 rr_Way zT) (H : zH s meth B n0 none "lead") {nf : Nat} {x0 : Nat} {x1 : Int64} {x3 : Int64} {x5 : Int32} {c : Zc} {r : (Nat × Int64 × Int64 × Int32 × Zc) ⊕ (Zc)} (h : f_Way_lead_42 nf x0 x1 x3 x5 c = some r) (k0 : ∀ a, r = .inl a → (fun a : Nat × Int64 × Int64 × Int32 × Zc => Zz p l e (zRm 0 0 0 0) s m args below meth cd Q D cid B 6 0 0 a.2.2.2.2 3 [(0, .ref a.1), (1, .long a.2.1), (3, .long a.2.2.1), (5, .int a.2.2.2.1)] []) a) (k1 : ∀ b, r = .inr b → (fun b : Zc => Zz p l e (zRm 0 0 0 0) s m args below meth cd Q D cid B 6 0 0 b 48 [] []) b) : Zz p l e (zRm 0 0 0 0) s m args below meth cd Q D cid B 6 0 0 c 42 [(0, .ref x0), (1, .long x1), (3, .long x3), (5, .int x5)] [] := by
  unfold f_Way_lead_42 at h
  refine z_iinc (v := (x5 + 1)) (lv' := [(5, .int (x5 + 1)), (0, .ref x0), (1, .long x1), (3, .long x3)]) X dd_Way_lead_42 3 rfl rfl (by decide) rfl ?_
  refine z_goto (tgt := 3) X dd_Way_lead_45 (by decide) ?_
  refine z_sub [1, 2, 3, 0] rfl ?_
  obtain rfl := Option.some.inj h
  exact k0 _ rfl
set_option maxRecDepth 100000 in
set_option maxHeartbeats 4000000 in
theorem u_Way_lead_3  (X : zX p s m args cd D cid B bb_Way_lead 6 rr_Way zT) (H : zH s meth B n0 none "lead") {nf : Nat} {x0 : Nat} {x1 : Int64} {x3 : Int64} {x5 : Int32} {c : Zc} {r : (Nat × Int64 × Int64 × Int32 × Zc) ⊕ (Zc)} (h : g_Way_lead_3 nf x0 x1 x3 x5 c = some r) (k0 : ∀ a, r = .inl a → (fun a : Nat × Int64 × Int64 × Int32 × Zc => Zz p l e (zRm 0 0 0 0) s m args below meth cd Q D cid B 6 0 0 a.2.2.2.2 3 [(0, .ref a.1), (1, .long a.2.1), (3, .long a.2.2.1), (5, .int a.2.2.2.1)] []) a) (k1 : ∀ b, r = .inr b → (fun b : Zc => Zz p l e (zRm 0 0 0 0) s m args below meth cd Q D cid B 6 0 0 b 48 [] []) b) : Zz p l e (zRm 0 0 0 0) s m args below meth cd Q D cid B 6 0 0 c 3 [(0, .ref x0), (1, .long x1), (3, .long x3), (5, .int x5)] [] := by
  unfold g_Way_lead_3 at h
  refine z_iload X dd_Way_lead_3 3 rfl ?_
  refine z_aload_n X dd_Way_lead_5 rfl 0 rfl ?_
  obtain ⟨v1, ev1, h⟩ := zb h
  refine z_get (j := 5) X dd_Way_lead_6 kc_1 ki_1 (by decide) km_235 (zgi_v ev1) ?_
  refine z_icmp_ge (tgt := 48) X dd_Way_lead_9 (by decide) (fun q2 => ?_) (fun q2 => ?_)
  · rw [if_pos q2] at h
    refine z_sub [] rfl ?_
    obtain rfl := Option.some.inj h
    exact k1 _ rfl
  · rw [if_neg q2] at h
    refine z_lload_n X dd_Way_lead_12 rfl 1 rfl ?_
    refine z_bipush (v := 16) X dd_Way_lead_13 (by decide) ?_
    refine z_iload X dd_Way_lead_15 3 rfl ?_
    refine z_iadd X dd_Way_lead_17 ?_
    refine z_lshr X dd_Way_lead_18 ?_
    refine z_lconst (v := 1) X dd_Way_lead_19 (by decide) ?_
    refine z_land X dd_Way_lead_20 ?_
    refine z_lconst (v := 0) X dd_Way_lead_21 (by decide) ?_
    refine z_lcmp X dd_Way_lead_22 ?_
    refine z_if_eq (tgt := 42) X dd_Way_lead_23 (by decide) (fun q3 => ?_) (fun q3 => ?_)
    · rw [if_pos q3] at h
      exact t_Way_lead_42 X H h k0 k1
    · rw [if_neg q3] at h
      refine z_aload_n X dd_Way_lead_26 rfl 0 rfl ?_
      obtain ⟨v4, ev4, h⟩ := zb h
      refine z_get (j := 7) X dd_Way_lead_27 kc_1 ki_1 (by decide) km_240 (zgr_v ev4) ?_
      refine z_iload X dd_Way_lead_30 3 rfl ?_
      refine z_dup2_11 X dd_Way_lead_32 rfl rfl ?_
      obtain ⟨v5, ev5, h⟩ := zb h
      refine z_iaload X dd_Way_lead_33 rfl ev5 ?_
      refine z_lload_n X dd_Way_lead_34 rfl 2 rfl ?_
      refine z_ldc2 (v := 65535) X dd_Way_lead_35 km_1100 ?_
      refine z_land X dd_Way_lead_38 ?_
      refine z_l2i X dd_Way_lead_39 ?_
      refine z_ior X dd_Way_lead_40 ?_
      obtain ⟨c6, ec6, h⟩ := zb h
      refine z_iastore X dd_Way_lead_41 rfl ec6 ?_
      exact t_Way_lead_42 X H h k0 k1
set_option maxRecDepth 100000 in
set_option maxHeartbeats 4000000 in
theorem t_Way_lead_3  (X : zX p s m args cd D cid B bb_Way_lead 6 rr_Way zT) (H : zH s meth B n0 none "lead") {nf : Nat} {x0 : Nat} {x1 : Int64} {x3 : Int64} {x5 : Int32} {c : Zc} {res : Zc} (h : f_Way_lead_3 nf x0 x1 x3 x5 c = some res) : Zz p l e (zRm 0 0 0 0) s m args below meth cd (MQ below (zQv D cid B res n0 0) args s 0 0 (fun q => B ≤ q)) D cid B 6 0 0 c 3 [(0, .ref x0), (1, .long x1), (3, .long x3), (5, .int x5)] [] := by
  unfold f_Way_lead_3 at h
  obtain ⟨b, eb, h⟩ := zb h
  refine zlp_ok (P := fun a : Nat × Int64 × Int64 × Int32 × Zc => Zz p l e (zRm 0 0 0 0) s m args below meth cd _ D cid B 6 0 0 a.2.2.2.2 3 [(0, .ref a.1), (1, .long a.2.1), (3, .long a.2.2.1), (5, .int a.2.2.2.1)] []) (G := fun b : Zc => Zz p l e (zRm 0 0 0 0) s m args below meth cd _ D cid B 6 0 0 b 48 [] []) (fun a r ha k0 k1 => u_Way_lead_3 X H ha k0 k1) nf _ b eb ?_
  obtain rfl := Option.some.inj h
  exact z_vret X H.1 H.2.1 H.2.2.1 dd_Way_lead_48
set_option maxRecDepth 100000 in
set_option maxHeartbeats 4000000 in
theorem c_Way_lead (l : Launch) {nf : Nat} {a0 : Nat} {a1 : Int64} {a3 : Int64} {c : Zc} {res : Zc} (h : f_Way_lead nf a0 a1 a3 c = some res) : zM l yy_Way_lead ww_Way_lead 0 0 0 0 [.ref a0, .long a1, .long a3] c (fun D cid B => zQv D cid B res c.length 0) := by
  refine z_met (cc := bb_Way_lead) (maxL := 6) (ret := none) (by decide +kernel) rfl (Nat.le_of_ble_eq_true rfl) ?_
  intro p e s m args below meth cd D cid B X h1 h2 h3 h4
  have X : zX p s m args cd D cid B bb_Way_lead 6 rr_Way zT := X
  have H : zH s meth B c.length none "lead" := ⟨h1, h2, h4, h3⟩
  unfold f_Way_lead at h
  show Zz p l e (zRm 0 0 0 0) s m args below meth cd _ D cid B 6 0 0 c 0 [(0, .ref a0), (1, .long a1), (3, .long a3)] []
  refine z_iconst (v := 0) X dd_Way_lead_0 (by decide) ?_
  refine z_istore (lv' := [(5, .int 0), (0, .ref a0), (1, .long a1), (3, .long a3)]) X dd_Way_lead_1 (by decide) rfl ?_
  refine z_sub [1, 2, 3, 0] rfl ?_
  exact t_Way_lead_3 X H h
theorem dd_Way_settlePending_0 : decode bb_Way_settlePending 0 = .ok (.aload_n 0, 1) := by decide +kernel
theorem dd_Way_settlePending_1 : decode bb_Way_settlePending 1 = .ok (.getfield 54, 3) := by decide +kernel
theorem dd_Way_settlePending_4 : decode bb_Way_settlePending 4 = .ok (.aload_n 0, 1) := by decide +kernel
theorem dd_Way_settlePending_5 : decode bb_Way_settlePending 5 = .ok (.getfield 42, 3) := by decide +kernel
theorem dd_Way_settlePending_8 : decode bb_Way_settlePending 8 = .ok (.laload, 1) := by decide +kernel
theorem dd_Way_settlePending_9 : decode bb_Way_settlePending 9 = .ok (.lstore_n 1, 1) := by decide +kernel
theorem dd_Way_settlePending_10 : decode bb_Way_settlePending 10 = .ok (.aload_n 0, 1) := by decide +kernel
theorem dd_Way_settlePending_11 : decode bb_Way_settlePending 11 = .ok (.getfield 47, 3) := by decide +kernel
theorem dd_Way_settlePending_14 : decode bb_Way_settlePending 14 = .ok (.ldc2_w 45, 3) := by decide +kernel
theorem dd_Way_settlePending_17 : decode bb_Way_settlePending 17 = .ok (.lcmp, 1) := by decide +kernel
theorem dd_Way_settlePending_18 : decode bb_Way_settlePending 18 = .ok (.ifCond .ne 4, 3) := by decide +kernel
theorem dd_Way_settlePending_21 : decode bb_Way_settlePending 21 = .ok (.return_, 1) := by decide +kernel
theorem dd_Way_settlePending_22 : decode bb_Way_settlePending 22 = .ok (.lload_n 1, 1) := by decide +kernel
theorem dd_Way_settlePending_23 : decode bb_Way_settlePending 23 = .ok (.ldc2_w 45, 3) := by decide +kernel
theorem dd_Way_settlePending_26 : decode bb_Way_settlePending 26 = .ok (.lcmp, 1) := by decide +kernel
theorem dd_Way_settlePending_27 : decode bb_Way_settlePending 27 = .ok (.ifCond .ne 19, 3) := by decide +kernel
theorem dd_Way_settlePending_30 : decode bb_Way_settlePending 30 = .ok (.aload_n 0, 1) := by decide +kernel
theorem dd_Way_settlePending_31 : decode bb_Way_settlePending 31 = .ok (.getfield 54, 3) := by decide +kernel
theorem dd_Way_settlePending_34 : decode bb_Way_settlePending 34 = .ok (.aload_n 0, 1) := by decide +kernel
theorem dd_Way_settlePending_35 : decode bb_Way_settlePending 35 = .ok (.getfield 42, 3) := by decide +kernel
theorem dd_Way_settlePending_38 : decode bb_Way_settlePending 38 = .ok (.aload_n 0, 1) := by decide +kernel
theorem dd_Way_settlePending_39 : decode bb_Way_settlePending 39 = .ok (.getfield 47, 3) := by decide +kernel
theorem dd_Way_settlePending_42 : decode bb_Way_settlePending 42 = .ok (.lastore, 1) := by decide +kernel
theorem dd_Way_settlePending_43 : decode bb_Way_settlePending 43 = .ok (.goto 105, 3) := by decide +kernel
theorem dd_Way_settlePending_46 : decode bb_Way_settlePending 46 = .ok (.aload_n 0, 1) := by decide +kernel
theorem dd_Way_settlePending_47 : decode bb_Way_settlePending 47 = .ok (.lload_n 1, 1) := by decide +kernel
theorem dd_Way_settlePending_48 : decode bb_Way_settlePending 48 = .ok (.aload_n 0, 1) := by decide +kernel
theorem dd_Way_settlePending_49 : decode bb_Way_settlePending 49 = .ok (.getfield 47, 3) := by decide +kernel
theorem dd_Way_settlePending_52 : decode bb_Way_settlePending 52 = .ok (.invokevirtual 78, 3) := by decide +kernel
theorem dd_Way_settlePending_55 : decode bb_Way_settlePending 55 = .ok (.lload_n 1, 1) := by decide +kernel
theorem dd_Way_settlePending_56 : decode bb_Way_settlePending 56 = .ok (.ldc2_w 84, 3) := by decide +kernel
theorem dd_Way_settlePending_59 : decode bb_Way_settlePending 59 = .ok (.land, 1) := by decide +kernel
theorem dd_Way_settlePending_60 : decode bb_Way_settlePending 60 = .ok (.lstore_n 3, 1) := by decide +kernel
theorem dd_Way_settlePending_61 : decode bb_Way_settlePending 61 = .ok (.aload_n 0, 1) := by decide +kernel
theorem dd_Way_settlePending_62 : decode bb_Way_settlePending 62 = .ok (.getfield 47, 3) := by decide +kernel
theorem dd_Way_settlePending_65 : decode bb_Way_settlePending 65 = .ok (.bipush 16, 2) := by decide +kernel
theorem dd_Way_settlePending_67 : decode bb_Way_settlePending 67 = .ok (.lshr, 1) := by decide +kernel
theorem dd_Way_settlePending_68 : decode bb_Way_settlePending 68 = .ok (.ldc2_w 84, 3) := by decide +kernel
theorem dd_Way_settlePending_71 : decode bb_Way_settlePending 71 = .ok (.land, 1) := by decide +kernel
theorem dd_Way_settlePending_72 : decode bb_Way_settlePending 72 = .ok (.lstore 5, 2) := by decide +kernel
theorem dd_Way_settlePending_74 : decode bb_Way_settlePending 74 = .ok (.lload_n 1, 1) := by decide +kernel
theorem dd_Way_settlePending_75 : decode bb_Way_settlePending 75 = .ok (.ldc2_w 82, 3) := by decide +kernel
theorem dd_Way_settlePending_78 : decode bb_Way_settlePending 78 = .ok (.land, 1) := by decide +kernel
theorem dd_Way_settlePending_79 : decode bb_Way_settlePending 79 = .ok (.lconst 0, 1) := by decide +kernel
theorem dd_Way_settlePending_80 : decode bb_Way_settlePending 80 = .ok (.lcmp, 1) := by decide +kernel
theorem dd_Way_settlePending_81 : decode bb_Way_settlePending 81 = .ok (.ifCond .eq 14, 3) := by decide +kernel
theorem dd_Way_settlePending_84 : decode bb_Way_settlePending 84 = .ok (.lload_n 3, 1) := by decide +kernel
theorem dd_Way_settlePending_85 : decode bb_Way_settlePending 85 = .ok (.aload_n 0, 1) := by decide +kernel
theorem dd_Way_settlePending_86 : decode bb_Way_settlePending 86 = .ok (.getfield 47, 3) := by decide +kernel
theorem dd_Way_settlePending_89 : decode bb_Way_settlePending 89 = .ok (.ldc2_w 84, 3) := by decide +kernel
theorem dd_Way_settlePending_92 : decode bb_Way_settlePending 92 = .ok (.land, 1) := by decide +kernel
theorem dd_Way_settlePending_93 : decode bb_Way_settlePending 93 = .ok (.lor, 1) := by decide +kernel
theorem dd_Way_settlePending_94 : decode bb_Way_settlePending 94 = .ok (.lstore_n 3, 1) := by decide +kernel
theorem dd_Way_settlePending_95 : decode bb_Way_settlePending 95 = .ok (.aload_n 0, 1) := by decide +kernel
theorem dd_Way_settlePending_96 : decode bb_Way_settlePending 96 = .ok (.getfield 47, 3) := by decide +kernel
theorem dd_Way_settlePending_99 : decode bb_Way_settlePending 99 = .ok (.ldc2_w 82, 3) := by decide +kernel
theorem dd_Way_settlePending_102 : decode bb_Way_settlePending 102 = .ok (.land, 1) := by decide +kernel
theorem dd_Way_settlePending_103 : decode bb_Way_settlePending 103 = .ok (.lconst 0, 1) := by decide +kernel
theorem dd_Way_settlePending_104 : decode bb_Way_settlePending 104 = .ok (.lcmp, 1) := by decide +kernel
theorem dd_Way_settlePending_105 : decode bb_Way_settlePending 105 = .ok (.ifCond .eq 16, 3) := by decide +kernel
theorem dd_Way_settlePending_108 : decode bb_Way_settlePending 108 = .ok (.lload 5, 2) := by decide +kernel
theorem dd_Way_settlePending_110 : decode bb_Way_settlePending 110 = .ok (.lload_n 1, 1) := by decide +kernel
theorem dd_Way_settlePending_111 : decode bb_Way_settlePending 111 = .ok (.bipush 16, 2) := by decide +kernel
theorem dd_Way_settlePending_113 : decode bb_Way_settlePending 113 = .ok (.lshr, 1) := by decide +kernel
theorem dd_Way_settlePending_114 : decode bb_Way_settlePending 114 = .ok (.ldc2_w 84, 3) := by decide +kernel
theorem dd_Way_settlePending_117 : decode bb_Way_settlePending 117 = .ok (.land, 1) := by decide +kernel
theorem dd_Way_settlePending_118 : decode bb_Way_settlePending 118 = .ok (.lor, 1) := by decide +kernel
theorem dd_Way_settlePending_119 : decode bb_Way_settlePending 119 = .ok (.lstore 5, 2) := by decide +kernel
theorem dd_Way_settlePending_121 : decode bb_Way_settlePending 121 = .ok (.aload_n 0, 1) := by decide +kernel
theorem dd_Way_settlePending_122 : decode bb_Way_settlePending 122 = .ok (.getfield 54, 3) := by decide +kernel
theorem dd_Way_settlePending_125 : decode bb_Way_settlePending 125 = .ok (.aload_n 0, 1) := by decide +kernel
theorem dd_Way_settlePending_126 : decode bb_Way_settlePending 126 = .ok (.getfield 42, 3) := by decide +kernel
theorem dd_Way_settlePending_129 : decode bb_Way_settlePending 129 = .ok (.lload_n 3, 1) := by decide +kernel
theorem dd_Way_settlePending_130 : decode bb_Way_settlePending 130 = .ok (.lload 5, 2) := by decide +kernel
theorem dd_Way_settlePending_132 : decode bb_Way_settlePending 132 = .ok (.bipush 16, 2) := by decide +kernel
theorem dd_Way_settlePending_134 : decode bb_Way_settlePending 134 = .ok (.lshl, 1) := by decide +kernel
theorem dd_Way_settlePending_135 : decode bb_Way_settlePending 135 = .ok (.lor, 1) := by decide +kernel
theorem dd_Way_settlePending_136 : decode bb_Way_settlePending 136 = .ok (.lload_n 1, 1) := by decide +kernel
theorem dd_Way_settlePending_137 : decode bb_Way_settlePending 137 = .ok (.aload_n 0, 1) := by decide +kernel
theorem dd_Way_settlePending_138 : decode bb_Way_settlePending 138 = .ok (.getfield 47, 3) := by decide +kernel
theorem dd_Way_settlePending_141 : decode bb_Way_settlePending 141 = .ok (.land, 1) := by decide +kernel
theorem dd_Way_settlePending_142 : decode bb_Way_settlePending 142 = .ok (.ldc2_w 82, 3) := by decide +kernel
theorem dd_Way_settlePending_145 : decode bb_Way_settlePending 145 = .ok (.land, 1) := by decide +kernel
theorem dd_Way_settlePending_146 : decode bb_Way_settlePending 146 = .ok (.lor, 1) := by decide +kernel
theorem dd_Way_settlePending_147 : decode bb_Way_settlePending 147 = .ok (.lastore, 1) := by decide +kernel
theorem dd_Way_settlePending_148 : decode bb_Way_settlePending 148 = .ok (.aload_n 0, 1) := by decide +kernel
theorem dd_Way_settlePending_149 : decode bb_Way_settlePending 149 = .ok (.ldc2_w 45, 3) := by decide +kernel
theorem dd_Way_settlePending_152 : decode bb_Way_settlePending 152 = .ok (.putfield 47, 3) := by decide +kernel
theorem dd_Way_settlePending_155 : decode bb_Way_settlePending 155 = .ok (.return_, 1) := by decide +kernel
set_option maxRecDepth 100000 in
set_option maxHeartbeats 4000000 in
theorem t_Way_settlePending_148  (X : zX p s m args cd D cid B bb_Way_settlePending 7 rr_Way zT) (H : zH s meth B n0 none "settlePending") {nf : Nat} {x0 : Nat} {c : Zc} {res : Zc} (h : f_Way_settlePending_148 nf x0 c = some res) : Zz p l e (zRm 1 25 0 0) s m args below meth cd (MQ below (zQv D cid B res n0 0) args s 0 0 (fun q => B ≤ q)) D cid B 7 0 0 c 148 [(0, .ref x0)] [] := by
  unfold f_Way_settlePending_148 at h
  refine z_aload_n X dd_Way_settlePending_148 rfl 0 rfl ?_
  refine z_ldc2 (v := (-1)) X dd_Way_settlePending_149 km_220 ?_
  obtain ⟨c18, ec18, h⟩ := zb h
  refine z_put (j := 10) X dd_Way_settlePending_152 kc_1 ki_1 tt_Way tk_Way nn_Way (by decide) km_246 rfl (tk_Way 10 (by decide)) rfl rfl ec18 ?_
  obtain rfl := Option.some.inj h
  exact z_vret X H.1 H.2.1 H.2.2.1 dd_Way_settlePending_155
set_option maxRecDepth 100000 in
set_option maxHeartbeats 4000000 in
theorem t_Way_settlePending_121  (X : zX p s m args cd D cid B bb_Way_settlePending 7 rr_Way zT) (H : zH s meth B n0 none "settlePending") {nf : Nat} {x0 : Nat} {x1 : Int64} {x3 : Int64} {x5 : Int64} {c : Zc} {res : Zc} (h : f_Way_settlePending_121 nf x0 x1 x3 x5 c = some res) : Zz p l e (zRm 1 25 0 0) s m args below meth cd (MQ below (zQv D cid B res n0 0) args s 0 0 (fun q => B ≤ q)) D cid B 7 0 0 c 121 [(0, .ref x0), (1, .long x1), (3, .long x3), (5, .long x5)] [] := by
  unfold f_Way_settlePending_121 at h
  refine z_aload_n X dd_Way_settlePending_121 rfl 0 rfl ?_
  obtain ⟨v14, ev14, h⟩ := zb h
  refine z_get (j := 12) X dd_Way_settlePending_122 kc_1 ki_1 (by decide) km_248 (zgr_v ev14) ?_
  refine z_aload_n X dd_Way_settlePending_125 rfl 0 rfl ?_
  obtain ⟨v15, ev15, h⟩ := zb h
  refine z_get (j := 9) X dd_Way_settlePending_126 kc_1 ki_1 (by decide) km_244 (zgi_v ev15) ?_
  refine z_lload_n X dd_Way_settlePending_129 rfl 2 rfl ?_
  refine z_lload X dd_Way_settlePending_130 3 rfl ?_
  refine z_bipush (v := 16) X dd_Way_settlePending_132 (by decide) ?_
  refine z_lshl X dd_Way_settlePending_134 ?_
  refine z_lor X dd_Way_settlePending_135 ?_
  refine z_lload_n X dd_Way_settlePending_136 rfl 1 rfl ?_
  refine z_aload_n X dd_Way_settlePending_137 rfl 0 rfl ?_
  obtain ⟨v16, ev16, h⟩ := zb h
  refine z_get (j := 10) X dd_Way_settlePending_138 kc_1 ki_1 (by decide) km_246 (zgl_v ev16) ?_
  refine z_land X dd_Way_settlePending_141 ?_
  refine z_ldc2 (v := 4294967296) X dd_Way_settlePending_142 km_1101 ?_
  refine z_land X dd_Way_settlePending_145 ?_
  refine z_lor X dd_Way_settlePending_146 ?_
  obtain ⟨c17, ec17, h⟩ := zb h
  refine z_lastore X dd_Way_settlePending_147 rfl ec17 ?_
  refine z_sub [0] rfl ?_
  exact t_Way_settlePending_148 X H h
set_option maxRecDepth 100000 in
set_option maxHeartbeats 4000000 in
theorem t_Way_settlePending_95  (X : zX p s m args cd D cid B bb_Way_settlePending 7 rr_Way zT) (H : zH s meth B n0 none "settlePending") {nf : Nat} {x0 : Nat} {x1 : Int64} {x3 : Int64} {x5 : Int64} {c : Zc} {res : Zc} (h : f_Way_settlePending_95 nf x0 x1 x3 x5 c = some res) : Zz p l e (zRm 1 25 0 0) s m args below meth cd (MQ below (zQv D cid B res n0 0) args s 0 0 (fun q => B ≤ q)) D cid B 7 0 0 c 95 [(0, .ref x0), (1, .long x1), (3, .long x3), (5, .long x5)] [] := by
  unfold f_Way_settlePending_95 at h
  refine z_aload_n X dd_Way_settlePending_95 rfl 0 rfl ?_
  obtain ⟨v12, ev12, h⟩ := zb h
  refine z_get (j := 10) X dd_Way_settlePending_96 kc_1 ki_1 (by decide) km_246 (zgl_v ev12) ?_
  refine z_ldc2 (v := 4294967296) X dd_Way_settlePending_99 km_1101 ?_
  refine z_land X dd_Way_settlePending_102 ?_
  refine z_lconst (v := 0) X dd_Way_settlePending_103 (by decide) ?_
  refine z_lcmp X dd_Way_settlePending_104 ?_
  refine z_if_eq (tgt := 121) X dd_Way_settlePending_105 (by decide) (fun q13 => ?_) (fun q13 => ?_)
  · rw [if_pos q13] at h
    exact t_Way_settlePending_121 X H h
  · rw [if_neg q13] at h
    refine z_lload X dd_Way_settlePending_108 3 rfl ?_
    refine z_lload_n X dd_Way_settlePending_110 rfl 1 rfl ?_
    refine z_bipush (v := 16) X dd_Way_settlePending_111 (by decide) ?_
    refine z_lshr X dd_Way_settlePending_113 ?_
    refine z_ldc2 (v := 65535) X dd_Way_settlePending_114 km_1100 ?_
    refine z_land X dd_Way_settlePending_117 ?_
    refine z_lor X dd_Way_settlePending_118 ?_
    refine z_lstore (lv' := [(5, .long (x5 ||| ((x1 >>> (Int32.toInt64 16 &&& 63)) &&& 65535))), (0, .ref x0), (1, .long x1), (3, .long x3)]) X dd_Way_settlePending_119 (by decide) rfl ?_
    refine z_sub [1, 2, 3, 0] rfl ?_
    exact t_Way_settlePending_121 X H h
set_option maxRecDepth 100000 in
set_option maxHeartbeats 4000000 in
theorem c_Way_settlePending (l : Launch) {nf : Nat} {a0 : Nat} {c : Zc} {res : Zc} (h : f_Way_settlePending nf a0 c = some res) : zM l yy_Way_settlePending ww_Way_settlePending 1 25 0 0 [.ref a0] c (fun D cid B => zQv D cid B res c.length 0) := by
  refine z_met (cc := bb_Way_settlePending) (maxL := 7) (ret := none) (by decide +kernel) rfl (Nat.le_of_ble_eq_true rfl) ?_
  intro p e s m args below meth cd D cid B X h1 h2 h3 h4
  have X : zX p s m args cd D cid B bb_Way_settlePending 7 rr_Way zT := X
  have H : zH s meth B c.length none "settlePending" := ⟨h1, h2, h4, h3⟩
  unfold f_Way_settlePending at h
  show Zz p l e (zRm 1 25 0 0) s m args below meth cd _ D cid B 7 0 0 c 0 [(0, .ref a0)] []
  refine z_aload_n X dd_Way_settlePending_0 rfl 0 rfl ?_
  obtain ⟨v1, ev1, h⟩ := zb h
  refine z_get (j := 12) X dd_Way_settlePending_1 kc_1 ki_1 (by decide) km_248 (zgr_v ev1) ?_
  refine z_aload_n X dd_Way_settlePending_4 rfl 0 rfl ?_
  obtain ⟨v2, ev2, h⟩ := zb h
  refine z_get (j := 9) X dd_Way_settlePending_5 kc_1 ki_1 (by decide) km_244 (zgi_v ev2) ?_
  obtain ⟨v3, ev3, h⟩ := zb h
  refine z_laload X dd_Way_settlePending_8 rfl ev3 ?_
  refine z_lstore_n (lv' := [(1, .long v3), (0, .ref a0)]) X dd_Way_settlePending_9 rfl (by decide) rfl ?_
  refine z_aload_n X dd_Way_settlePending_10 rfl 1 rfl ?_
  obtain ⟨v4, ev4, h⟩ := zb h
  refine z_get (j := 10) X dd_Way_settlePending_11 kc_1 ki_1 (by decide) km_246 (zgl_v ev4) ?_
  refine z_ldc2 (v := (-1)) X dd_Way_settlePending_14 km_220 ?_
  refine z_lcmp X dd_Way_settlePending_17 ?_
  refine z_if_ne (tgt := 22) X dd_Way_settlePending_18 (by decide) (fun q5 => ?_) (fun q5 => ?_)
  · rw [if_neg q5] at h
    refine z_lload_n X dd_Way_settlePending_22 rfl 0 rfl ?_
    refine z_ldc2 (v := (-1)) X dd_Way_settlePending_23 km_220 ?_
    refine z_lcmp X dd_Way_settlePending_26 ?_
    refine z_if_ne (tgt := 46) X dd_Way_settlePending_27 (by decide) (fun q6 => ?_) (fun q6 => ?_)
    · rw [if_neg q6] at h
      refine z_aload_n X dd_Way_settlePending_46 rfl 1 rfl ?_
      refine z_lload_n X dd_Way_settlePending_47 rfl 0 rfl ?_
      refine z_aload_n X dd_Way_settlePending_48 rfl 1 rfl ?_
      obtain ⟨v7, ev7, h⟩ := zb h
      refine z_get (j := 10) X dd_Way_settlePending_49 kc_1 ki_1 (by decide) km_246 (zgl_v ev7) ?_
      obtain ⟨w9, ew9, h⟩ := zb h
      obtain ⟨q8, eq8, h⟩ := zb h
      refine z_callVv X [.long v3, .long v7] rfl dd_Way_settlePending_52 (c_Way_lead l eq8) (cwV 2 X.1.2.2.2.2 (zg_V km_1096 km_1098 km_28 km_129 km_1099) rfl rfl rfl (by decide +kernel) ⟨Nat.le_of_ble_eq_true rfl, Nat.le_of_ble_eq_true rfl⟩) (zob_s ew9) kc_1 rfl (Nat.le_of_ble_eq_true rfl) ⟨Nat.le_of_ble_eq_true rfl, Nat.le_of_ble_eq_true rfl⟩ ?_
      refine z_lload_n X dd_Way_settlePending_55 rfl 0 rfl ?_
      refine z_ldc2 (v := 65535) X dd_Way_settlePending_56 km_1100 ?_
      refine z_land X dd_Way_settlePending_59 ?_
      refine z_lstore_n (lv' := [(3, .long (v3 &&& 65535)), (1, .long v3), (0, .ref a0)]) X dd_Way_settlePending_60 rfl (by decide) rfl ?_
      refine z_aload_n X dd_Way_settlePending_61 rfl 2 rfl ?_
      obtain ⟨v10, ev10, h⟩ := zb h
      refine z_get (j := 10) X dd_Way_settlePending_62 kc_1 ki_1 (by decide) km_246 (zgl_v ev10) ?_
      refine z_bipush (v := 16) X dd_Way_settlePending_65 (by decide) ?_
      refine z_lshr X dd_Way_settlePending_67 ?_
      refine z_ldc2 (v := 65535) X dd_Way_settlePending_68 km_1100 ?_
      refine z_land X dd_Way_settlePending_71 ?_
      refine z_lstore (lv' := [(5, .long ((v10 >>> (Int32.toInt64 16 &&& 63)) &&& 65535)), (3, .long (v3 &&& 65535)), (1, .long v3), (0, .ref a0)]) X dd_Way_settlePending_72 (by decide) rfl ?_
      refine z_lload_n X dd_Way_settlePending_74 rfl 2 rfl ?_
      refine z_ldc2 (v := 4294967296) X dd_Way_settlePending_75 km_1101 ?_
      refine z_land X dd_Way_settlePending_78 ?_
      refine z_lconst (v := 0) X dd_Way_settlePending_79 (by decide) ?_
      refine z_lcmp X dd_Way_settlePending_80 ?_
      refine z_if_eq (tgt := 95) X dd_Way_settlePending_81 (by decide) (fun q11 => ?_) (fun q11 => ?_)
      · rw [if_pos q11] at h
        refine z_sub [3, 2, 1, 0] rfl ?_
        exact t_Way_settlePending_95 X H h
      · rw [if_neg q11] at h
        refine z_lload_n X dd_Way_settlePending_84 rfl 1 rfl ?_
        refine z_aload_n X dd_Way_settlePending_85 rfl 3 rfl ?_
        obtain ⟨v19, ev19, h⟩ := zb h
        refine z_get (j := 10) X dd_Way_settlePending_86 kc_1 ki_1 (by decide) km_246 (zgl_v ev19) ?_
        refine z_ldc2 (v := 65535) X dd_Way_settlePending_89 km_1100 ?_
        refine z_land X dd_Way_settlePending_92 ?_
        refine z_lor X dd_Way_settlePending_93 ?_
        refine z_lstore_n (lv' := [(3, .long ((v3 &&& 65535) ||| (v19 &&& 65535))), (5, .long ((v10 >>> (Int32.toInt64 16 &&& 63)) &&& 65535)), (1, .long v3), (0, .ref a0)]) X dd_Way_settlePending_94 rfl (by decide) rfl ?_
        refine z_sub [3, 2, 0, 1] rfl ?_
        exact t_Way_settlePending_95 X H h
    · rw [if_pos q6] at h
      refine z_aload_n X dd_Way_settlePending_30 rfl 1 rfl ?_
      obtain ⟨v20, ev20, h⟩ := zb h
      refine z_get (j := 12) X dd_Way_settlePending_31 kc_1 ki_1 (by decide) km_248 (zgr_v ev20) ?_
      refine z_aload_n X dd_Way_settlePending_34 rfl 1 rfl ?_
      obtain ⟨v21, ev21, h⟩ := zb h
      refine z_get (j := 9) X dd_Way_settlePending_35 kc_1 ki_1 (by decide) km_244 (zgi_v ev21) ?_
      refine z_aload_n X dd_Way_settlePending_38 rfl 1 rfl ?_
      obtain ⟨v22, ev22, h⟩ := zb h
      refine z_get (j := 10) X dd_Way_settlePending_39 kc_1 ki_1 (by decide) km_246 (zgl_v ev22) ?_
      obtain ⟨c23, ec23, h⟩ := zb h
      refine z_lastore X dd_Way_settlePending_42 rfl ec23 ?_
      refine z_goto (tgt := 148) X dd_Way_settlePending_43 (by decide) ?_
      refine z_sub [1] rfl ?_
      exact t_Way_settlePending_148 X H h
  · rw [if_pos q5] at h
    obtain rfl := Option.some.inj h
    exact z_vret X H.1 H.2.1 H.2.2.1 dd_Way_settlePending_21
theorem dd_Way_openRows_0 : decode bb_Way_openRows 0 = .ok (.aload_n 0, 1) := by decide +kernel
theorem dd_Way_openRows_1 : decode bb_Way_openRows 1 = .ok (.invokevirtual 72, 3) := by decide +kernel
theorem dd_Way_openRows_4 : decode bb_Way_openRows 4 = .ok (.aload_n 0, 1) := by decide +kernel
theorem dd_Way_openRows_5 : decode bb_Way_openRows 5 = .ok (.getfield 42, 3) := by decide +kernel
theorem dd_Way_openRows_8 : decode bb_Way_openRows 8 = .ok (.iconst 1, 1) := by decide +kernel
theorem dd_Way_openRows_9 : decode bb_Way_openRows 9 = .ok (.iadd, 1) := by decide +kernel
theorem dd_Way_openRows_10 : decode bb_Way_openRows 10 = .ok (.aload_n 0, 1) := by decide +kernel
theorem dd_Way_openRows_11 : decode bb_Way_openRows 11 = .ok (.getfield 54, 3) := by decide +kernel
theorem dd_Way_openRows_14 : decode bb_Way_openRows 14 = .ok (.arraylength, 1) := by decide +kernel
theorem dd_Way_openRows_15 : decode bb_Way_openRows 15 = .ok (.if_icmp .ge 37, 3) := by decide +kernel
theorem dd_Way_openRows_18 : decode bb_Way_openRows 18 = .ok (.aload_n 0, 1) := by decide +kernel
theorem dd_Way_openRows_19 : decode bb_Way_openRows 19 = .ok (.dup, 1) := by decide +kernel
theorem dd_Way_openRows_20 : decode bb_Way_openRows 20 = .ok (.getfield 42, 3) := by decide +kernel
theorem dd_Way_openRows_23 : decode bb_Way_openRows 23 = .ok (.iconst 1, 1) := by decide +kernel
theorem dd_Way_openRows_24 : decode bb_Way_openRows 24 = .ok (.iadd, 1) := by decide +kernel
theorem dd_Way_openRows_25 : decode bb_Way_openRows 25 = .ok (.putfield 42, 3) := by decide +kernel
theorem dd_Way_openRows_28 : decode bb_Way_openRows 28 = .ok (.aload_n 0, 1) := by decide +kernel
theorem dd_Way_openRows_29 : decode bb_Way_openRows 29 = .ok (.getfield 50, 3) := by decide +kernel
theorem dd_Way_openRows_32 : decode bb_Way_openRows 32 = .ok (.aload_n 0, 1) := by decide +kernel
theorem dd_Way_openRows_33 : decode bb_Way_openRows 33 = .ok (.getfield 42, 3) := by decide +kernel
theorem dd_Way_openRows_36 : decode bb_Way_openRows 36 = .ok (.ldc2_w 45, 3) := by decide +kernel
theorem dd_Way_openRows_39 : decode bb_Way_openRows 39 = .ok (.lastore, 1) := by decide +kernel
theorem dd_Way_openRows_40 : decode bb_Way_openRows 40 = .ok (.aload_n 0, 1) := by decide +kernel
theorem dd_Way_openRows_41 : decode bb_Way_openRows 41 = .ok (.getfield 54, 3) := by decide +kernel
theorem dd_Way_openRows_44 : decode bb_Way_openRows 44 = .ok (.aload_n 0, 1) := by decide +kernel
theorem dd_Way_openRows_45 : decode bb_Way_openRows 45 = .ok (.getfield 42, 3) := by decide +kernel
theorem dd_Way_openRows_48 : decode bb_Way_openRows 48 = .ok (.ldc2_w 45, 3) := by decide +kernel
theorem dd_Way_openRows_51 : decode bb_Way_openRows 51 = .ok (.lastore, 1) := by decide +kernel
theorem dd_Way_openRows_52 : decode bb_Way_openRows 52 = .ok (.return_, 1) := by decide +kernel
set_option maxRecDepth 100000 in
set_option maxHeartbeats 4000000 in
theorem t_Way_openRows_52  (X : zX p s m args cd D cid B bb_Way_openRows 1 rr_Way zT) (H : zH s meth B n0 none "openRows") {nf : Nat}  {c : Zc} {res : Zc} (h : f_Way_openRows_52 nf  c = some res) : Zz p l e (zRm 2 51 0 0) s m args below meth cd (MQ below (zQv D cid B res n0 0) args s 0 0 (fun q => B ≤ q)) D cid B 1 0 0 c 52 [] [] := by
  unfold f_Way_openRows_52 at h
  obtain rfl := Option.some.inj h
  exact z_vret X H.1 H.2.1 H.2.2.1 dd_Way_openRows_52
set_option maxRecDepth 100000 in
set_option maxHeartbeats 4000000 in
theorem c_Way_openRows (l : Launch) {nf : Nat} {a0 : Nat} {c : Zc} {res : Zc} (h : f_Way_openRows nf a0 c = some res) : zM l yy_Way_openRows ww_Way_openRows 2 51 0 0 [.ref a0] c (fun D cid B => zQv D cid B res c.length 0) := by
  refine z_met (cc := bb_Way_openRows) (maxL := 1) (ret := none) (by decide +kernel) rfl (Nat.le_of_ble_eq_true rfl) ?_
  intro p e s m args below meth cd D cid B X h1 h2 h3 h4
  have X : zX p s m args cd D cid B bb_Way_openRows 1 rr_Way zT := X
  have H : zH s meth B c.length none "openRows" := ⟨h1, h2, h4, h3⟩
  unfold f_Way_openRows at h
  show Zz p l e (zRm 2 51 0 0) s m args below meth cd _ D cid B 1 0 0 c 0 [(0, .ref a0)] []
  refine z_aload_n X dd_Way_openRows_0 rfl 0 rfl ?_
  obtain ⟨w2, ew2, h⟩ := zb h
  obtain ⟨q1, eq1, h⟩ := zb h
  refine z_callVv X [] rfl dd_Way_openRows_1 (c_Way_settlePending l eq1) (cwV 0 X.1.2.2.2.2 (zg_V km_1092 km_1094 km_27 km_129 km_1095) rfl rfl rfl (by decide +kernel) ⟨Nat.le_of_ble_eq_true rfl, Nat.le_of_ble_eq_true rfl⟩) (zob_s ew2) kc_1 rfl (Nat.le_of_ble_eq_true rfl) ⟨Nat.le_of_ble_eq_true rfl, Nat.le_of_ble_eq_true rfl⟩ ?_
  refine z_aload_n X dd_Way_openRows_4 rfl 0 rfl ?_
  obtain ⟨v3, ev3, h⟩ := zb h
  refine z_get (j := 9) X dd_Way_openRows_5 kc_1 ki_1 (by decide) km_244 (zgi_v ev3) ?_
  refine z_iconst (v := 1) X dd_Way_openRows_8 (by decide) ?_
  refine z_iadd X dd_Way_openRows_9 ?_
  refine z_aload_n X dd_Way_openRows_10 rfl 0 rfl ?_
  obtain ⟨v4, ev4, h⟩ := zb h
  refine z_get (j := 12) X dd_Way_openRows_11 kc_1 ki_1 (by decide) km_248 (zgr_v ev4) ?_
  obtain ⟨v5, ev5, h⟩ := zb h
  refine z_alen X dd_Way_openRows_14 rfl ev5 ?_
  refine z_icmp_ge (tgt := 52) X dd_Way_openRows_15 (by decide) (fun q6 => ?_) (fun q6 => ?_)
  · rw [if_pos q6] at h
    refine z_sub [] rfl ?_
    exact t_Way_openRows_52 X H h
  · rw [if_neg q6] at h
    refine z_aload_n X dd_Way_openRows_18 rfl 0 rfl ?_
    refine z_dup X dd_Way_openRows_19 rfl ?_
    obtain ⟨v7, ev7, h⟩ := zb h
    refine z_get (j := 9) X dd_Way_openRows_20 kc_1 ki_1 (by decide) km_244 (zgi_v ev7) ?_
    refine z_iconst (v := 1) X dd_Way_openRows_23 (by decide) ?_
    refine z_iadd X dd_Way_openRows_24 ?_
    obtain ⟨c8, ec8, h⟩ := zb h
    refine z_put (j := 9) X dd_Way_openRows_25 kc_1 ki_1 tt_Way tk_Way nn_Way (by decide) km_244 rfl (tk_Way 9 (by decide)) rfl rfl ec8 ?_
    refine z_aload_n X dd_Way_openRows_28 rfl 0 rfl ?_
    obtain ⟨v9, ev9, h⟩ := zb h
    refine z_get (j := 11) X dd_Way_openRows_29 kc_1 ki_1 (by decide) km_247 (zgr_v ev9) ?_
    refine z_aload_n X dd_Way_openRows_32 rfl 0 rfl ?_
    obtain ⟨v10, ev10, h⟩ := zb h
    refine z_get (j := 9) X dd_Way_openRows_33 kc_1 ki_1 (by decide) km_244 (zgi_v ev10) ?_
    refine z_ldc2 (v := (-1)) X dd_Way_openRows_36 km_220 ?_
    obtain ⟨c11, ec11, h⟩ := zb h
    refine z_lastore X dd_Way_openRows_39 rfl ec11 ?_
    refine z_aload_n X dd_Way_openRows_40 rfl 0 rfl ?_
    obtain ⟨v12, ev12, h⟩ := zb h
    refine z_get (j := 12) X dd_Way_openRows_41 kc_1 ki_1 (by decide) km_248 (zgr_v ev12) ?_
    refine z_aload_n X dd_Way_openRows_44 rfl 0 rfl ?_
    obtain ⟨v13, ev13, h⟩ := zb h
    refine z_get (j := 9) X dd_Way_openRows_45 kc_1 ki_1 (by decide) km_244 (zgi_v ev13) ?_
    refine z_ldc2 (v := (-1)) X dd_Way_openRows_48 km_220 ?_
    obtain ⟨c14, ec14, h⟩ := zb h
    refine z_lastore X dd_Way_openRows_51 rfl ec14 ?_
    refine z_sub [] rfl ?_
    exact t_Way_openRows_52 X H h
theorem dd_Way_nextRow_0 : decode bb_Way_nextRow 0 = .ok (.aload_n 0, 1) := by decide +kernel
theorem dd_Way_nextRow_1 : decode bb_Way_nextRow 1 = .ok (.invokevirtual 72, 3) := by decide +kernel
theorem dd_Way_nextRow_4 : decode bb_Way_nextRow 4 = .ok (.aload_n 0, 1) := by decide +kernel
theorem dd_Way_nextRow_5 : decode bb_Way_nextRow 5 = .ok (.getfield 50, 3) := by decide +kernel
theorem dd_Way_nextRow_8 : decode bb_Way_nextRow 8 = .ok (.aload_n 0, 1) := by decide +kernel
theorem dd_Way_nextRow_9 : decode bb_Way_nextRow 9 = .ok (.getfield 42, 3) := by decide +kernel
theorem dd_Way_nextRow_12 : decode bb_Way_nextRow 12 = .ok (.laload, 1) := by decide +kernel
theorem dd_Way_nextRow_13 : decode bb_Way_nextRow 13 = .ok (.lstore_n 1, 1) := by decide +kernel
theorem dd_Way_nextRow_14 : decode bb_Way_nextRow 14 = .ok (.aload_n 0, 1) := by decide +kernel
theorem dd_Way_nextRow_15 : decode bb_Way_nextRow 15 = .ok (.getfield 50, 3) := by decide +kernel
theorem dd_Way_nextRow_18 : decode bb_Way_nextRow 18 = .ok (.aload_n 0, 1) := by decide +kernel
theorem dd_Way_nextRow_19 : decode bb_Way_nextRow 19 = .ok (.getfield 42, 3) := by decide +kernel
theorem dd_Way_nextRow_22 : decode bb_Way_nextRow 22 = .ok (.lload_n 1, 1) := by decide +kernel
theorem dd_Way_nextRow_23 : decode bb_Way_nextRow 23 = .ok (.ldc2_w 45, 3) := by decide +kernel
theorem dd_Way_nextRow_26 : decode bb_Way_nextRow 26 = .ok (.lcmp, 1) := by decide +kernel
theorem dd_Way_nextRow_27 : decode bb_Way_nextRow 27 = .ok (.ifCond .ne 15, 3) := by decide +kernel
theorem dd_Way_nextRow_30 : decode bb_Way_nextRow 30 = .ok (.aload_n 0, 1) := by decide +kernel
theorem dd_Way_nextRow_31 : decode bb_Way_nextRow 31 = .ok (.getfield 54, 3) := by decide +kernel
theorem dd_Way_nextRow_34 : decode bb_Way_nextRow 34 = .ok (.aload_n 0, 1) := by decide +kernel
theorem dd_Way_nextRow_35 : decode bb_Way_nextRow 35 = .ok (.getfield 42, 3) := by decide +kernel
theorem dd_Way_nextRow_38 : decode bb_Way_nextRow 38 = .ok (.laload, 1) := by decide +kernel
theorem dd_Way_nextRow_39 : decode bb_Way_nextRow 39 = .ok (.goto 14, 3) := by decide +kernel
theorem dd_Way_nextRow_42 : decode bb_Way_nextRow 42 = .ok (.lload_n 1, 1) := by decide +kernel
theorem dd_Way_nextRow_43 : decode bb_Way_nextRow 43 = .ok (.aload_n 0, 1) := by decide +kernel
theorem dd_Way_nextRow_44 : decode bb_Way_nextRow 44 = .ok (.getfield 54, 3) := by decide +kernel
theorem dd_Way_nextRow_47 : decode bb_Way_nextRow 47 = .ok (.aload_n 0, 1) := by decide +kernel
theorem dd_Way_nextRow_48 : decode bb_Way_nextRow 48 = .ok (.getfield 42, 3) := by decide +kernel
theorem dd_Way_nextRow_51 : decode bb_Way_nextRow 51 = .ok (.laload, 1) := by decide +kernel
theorem dd_Way_nextRow_52 : decode bb_Way_nextRow 52 = .ok (.lor, 1) := by decide +kernel
theorem dd_Way_nextRow_53 : decode bb_Way_nextRow 53 = .ok (.lastore, 1) := by decide +kernel
theorem dd_Way_nextRow_54 : decode bb_Way_nextRow 54 = .ok (.aload_n 0, 1) := by decide +kernel
theorem dd_Way_nextRow_55 : decode bb_Way_nextRow 55 = .ok (.getfield 54, 3) := by decide +kernel
theorem dd_Way_nextRow_58 : decode bb_Way_nextRow 58 = .ok (.aload_n 0, 1) := by decide +kernel
theorem dd_Way_nextRow_59 : decode bb_Way_nextRow 59 = .ok (.getfield 42, 3) := by decide +kernel
theorem dd_Way_nextRow_62 : decode bb_Way_nextRow 62 = .ok (.ldc2_w 45, 3) := by decide +kernel
theorem dd_Way_nextRow_65 : decode bb_Way_nextRow 65 = .ok (.lastore, 1) := by decide +kernel
theorem dd_Way_nextRow_66 : decode bb_Way_nextRow 66 = .ok (.return_, 1) := by decide +kernel
set_option maxRecDepth 100000 in
set_option maxHeartbeats 4000000 in
theorem t_Way_nextRow_53  (X : zX p s m args cd D cid B bb_Way_nextRow 3 rr_Way zT) (H : zH s meth B n0 none "nextRow") {nf : Nat} {x0 : Nat} {s0 : Nat} {s1 : Int32} {s2 : Int64} {c : Zc} {res : Zc} (h : f_Way_nextRow_53 nf x0 s0 s1 s2 c = some res) : Zz p l e (zRm 2 51 0 0) s m args below meth cd (MQ below (zQv D cid B res n0 0) args s 0 0 (fun q => B ≤ q)) D cid B 3 0 0 c 53 [(0, .ref x0)] [.long s2, .int s1, .ref s0] := by
  unfold f_Way_nextRow_53 at h
  obtain ⟨c12, ec12, h⟩ := zb h
  refine z_lastore X dd_Way_nextRow_53 rfl ec12 ?_
  refine z_aload_n X dd_Way_nextRow_54 rfl 0 rfl ?_
  obtain ⟨v13, ev13, h⟩ := zb h
  refine z_get (j := 12) X dd_Way_nextRow_55 kc_1 ki_1 (by decide) km_248 (zgr_v ev13) ?_
  refine z_aload_n X dd_Way_nextRow_58 rfl 0 rfl ?_
  obtain ⟨v14, ev14, h⟩ := zb h
  refine z_get (j := 9) X dd_Way_nextRow_59 kc_1 ki_1 (by decide) km_244 (zgi_v ev14) ?_
  refine z_ldc2 (v := (-1)) X dd_Way_nextRow_62 km_220 ?_
  obtain ⟨c15, ec15, h⟩ := zb h
  refine z_lastore X dd_Way_nextRow_65 rfl ec15 ?_
  obtain rfl := Option.some.inj h
  exact z_vret X H.1 H.2.1 H.2.2.1 dd_Way_nextRow_66
set_option maxRecDepth 100000 in
set_option maxHeartbeats 4000000 in
theorem c_Way_nextRow (l : Launch) {nf : Nat} {a0 : Nat} {c : Zc} {res : Zc} (h : f_Way_nextRow nf a0 c = some res) : zM l yy_Way_nextRow ww_Way_nextRow 2 51 0 0 [.ref a0] c (fun D cid B => zQv D cid B res c.length 0) := by
  refine z_met (cc := bb_Way_nextRow) (maxL := 3) (ret := none) (by decide +kernel) rfl (Nat.le_of_ble_eq_true rfl) ?_
  intro p e s m args below meth cd D cid B X h1 h2 h3 h4
  have X : zX p s m args cd D cid B bb_Way_nextRow 3 rr_Way zT := X
  have H : zH s meth B c.length none "nextRow" := ⟨h1, h2, h4, h3⟩
  unfold f_Way_nextRow at h
  show Zz p l e (zRm 2 51 0 0) s m args below meth cd _ D cid B 3 0 0 c 0 [(0, .ref a0)] []
  refine z_aload_n X dd_Way_nextRow_0 rfl 0 rfl ?_
  obtain ⟨w2, ew2, h⟩ := zb h
  obtain ⟨q1, eq1, h⟩ := zb h
  refine z_callVv X [] rfl dd_Way_nextRow_1 (c_Way_settlePending l eq1) (cwV 0 X.1.2.2.2.2 (zg_V km_1092 km_1094 km_27 km_129 km_1095) rfl rfl rfl (by decide +kernel) ⟨Nat.le_of_ble_eq_true rfl, Nat.le_of_ble_eq_true rfl⟩) (zob_s ew2) kc_1 rfl (Nat.le_of_ble_eq_true rfl) ⟨Nat.le_of_ble_eq_true rfl, Nat.le_of_ble_eq_true rfl⟩ ?_
  refine z_aload_n X dd_Way_nextRow_4 rfl 0 rfl ?_
  obtain ⟨v3, ev3, h⟩ := zb h
  refine z_get (j := 11) X dd_Way_nextRow_5 kc_1 ki_1 (by decide) km_247 (zgr_v ev3) ?_
  refine z_aload_n X dd_Way_nextRow_8 rfl 0 rfl ?_
  obtain ⟨v4, ev4, h⟩ := zb h
  refine z_get (j := 9) X dd_Way_nextRow_9 kc_1 ki_1 (by decide) km_244 (zgi_v ev4) ?_
  obtain ⟨v5, ev5, h⟩ := zb h
  refine z_laload X dd_Way_nextRow_12 rfl ev5 ?_
  refine z_lstore_n (lv' := [(1, .long v5), (0, .ref a0)]) X dd_Way_nextRow_13 rfl (by decide) rfl ?_
  refine z_aload_n X dd_Way_nextRow_14 rfl 1 rfl ?_
  obtain ⟨v6, ev6, h⟩ := zb h
  refine z_get (j := 11) X dd_Way_nextRow_15 kc_1 ki_1 (by decide) km_247 (zgr_v ev6) ?_
  refine z_aload_n X dd_Way_nextRow_18 rfl 1 rfl ?_
  obtain ⟨v7, ev7, h⟩ := zb h
  refine z_get (j := 9) X dd_Way_nextRow_19 kc_1 ki_1 (by decide) km_244 (zgi_v ev7) ?_
  refine z_lload_n X dd_Way_nextRow_22 rfl 0 rfl ?_
  refine z_ldc2 (v := (-1)) X dd_Way_nextRow_23 km_220 ?_
  refine z_lcmp X dd_Way_nextRow_26 ?_
  refine z_if_ne (tgt := 42) X dd_Way_nextRow_27 (by decide) (fun q8 => ?_) (fun q8 => ?_)
  · rw [if_neg q8] at h
    refine z_lload_n X dd_Way_nextRow_42 rfl 0 rfl ?_
    refine z_aload_n X dd_Way_nextRow_43 rfl 1 rfl ?_
    obtain ⟨v9, ev9, h⟩ := zb h
    refine z_get (j := 12) X dd_Way_nextRow_44 kc_1 ki_1 (by decide) km_248 (zgr_v ev9) ?_
    refine z_aload_n X dd_Way_nextRow_47 rfl 1 rfl ?_
    obtain ⟨v10, ev10, h⟩ := zb h
    refine z_get (j := 9) X dd_Way_nextRow_48 kc_1 ki_1 (by decide) km_244 (zgi_v ev10) ?_
    obtain ⟨v11, ev11, h⟩ := zb h
    refine z_laload X dd_Way_nextRow_51 rfl ev11 ?_
    refine z_lor X dd_Way_nextRow_52 ?_
    refine z_sub [1] rfl ?_
    exact t_Way_nextRow_53 X H h
  · rw [if_pos q8] at h
    refine z_aload_n X dd_Way_nextRow_30 rfl 1 rfl ?_
    obtain ⟨v16, ev16, h⟩ := zb h
    refine z_get (j := 12) X dd_Way_nextRow_31 kc_1 ki_1 (by decide) km_248 (zgr_v ev16) ?_
    refine z_aload_n X dd_Way_nextRow_34 rfl 1 rfl ?_
    obtain ⟨v17, ev17, h⟩ := zb h
    refine z_get (j := 9) X dd_Way_nextRow_35 kc_1 ki_1 (by decide) km_244 (zgi_v ev17) ?_
    obtain ⟨v18, ev18, h⟩ := zb h
    refine z_laload X dd_Way_nextRow_38 rfl ev18 ?_
    refine z_goto (tgt := 53) X dd_Way_nextRow_39 (by decide) ?_
    refine z_sub [1] rfl ?_
    exact t_Way_nextRow_53 X H h
theorem dd_Way_closeRows_0 : decode bb_Way_closeRows 0 = .ok (.aload_n 0, 1) := by decide +kernel
theorem dd_Way_closeRows_1 : decode bb_Way_closeRows 1 = .ok (.invokevirtual 75, 3) := by decide +kernel
theorem dd_Way_closeRows_4 : decode bb_Way_closeRows 4 = .ok (.aload_n 0, 1) := by decide +kernel
theorem dd_Way_closeRows_5 : decode bb_Way_closeRows 5 = .ok (.aload_n 0, 1) := by decide +kernel
theorem dd_Way_closeRows_6 : decode bb_Way_closeRows 6 = .ok (.getfield 50, 3) := by decide +kernel
theorem dd_Way_closeRows_9 : decode bb_Way_closeRows 9 = .ok (.aload_n 0, 1) := by decide +kernel
theorem dd_Way_closeRows_10 : decode bb_Way_closeRows 10 = .ok (.getfield 42, 3) := by decide +kernel
theorem dd_Way_closeRows_13 : decode bb_Way_closeRows 13 = .ok (.laload, 1) := by decide +kernel
theorem dd_Way_closeRows_14 : decode bb_Way_closeRows 14 = .ok (.putfield 47, 3) := by decide +kernel
theorem dd_Way_closeRows_17 : decode bb_Way_closeRows 17 = .ok (.aload_n 0, 1) := by decide +kernel
theorem dd_Way_closeRows_18 : decode bb_Way_closeRows 18 = .ok (.getfield 42, 3) := by decide +kernel
theorem dd_Way_closeRows_21 : decode bb_Way_closeRows 21 = .ok (.ifCond .le 13, 3) := by decide +kernel
theorem dd_Way_closeRows_24 : decode bb_Way_closeRows 24 = .ok (.aload_n 0, 1) := by decide +kernel
theorem dd_Way_closeRows_25 : decode bb_Way_closeRows 25 = .ok (.dup, 1) := by decide +kernel
theorem dd_Way_closeRows_26 : decode bb_Way_closeRows 26 = .ok (.getfield 42, 3) := by decide +kernel
theorem dd_Way_closeRows_29 : decode bb_Way_closeRows 29 = .ok (.iconst 1, 1) := by decide +kernel
theorem dd_Way_closeRows_30 : decode bb_Way_closeRows 30 = .ok (.isub, 1) := by decide +kernel
theorem dd_Way_closeRows_31 : decode bb_Way_closeRows 31 = .ok (.putfield 42, 3) := by decide +kernel
theorem dd_Way_closeRows_34 : decode bb_Way_closeRows 34 = .ok (.return_, 1) := by decide +kernel
set_option maxRecDepth 100000 in
set_option maxHeartbeats 4000000 in
theorem t_Way_closeRows_34  (X : zX p s m args cd D cid B bb_Way_closeRows 1 rr_Way zT) (H : zH s meth B n0 none "closeRows") {nf : Nat}  {c : Zc} {res : Zc} (h : f_Way_closeRows_34 nf  c = some res) : Zz p l e (zRm 3 73 0 0) s m args below meth cd (MQ below (zQv D cid B res n0 0) args s 0 0 (fun q => B ≤ q)) D cid B 1 0 0 c 34 [] [] := by
  unfold f_Way_closeRows_34 at h
  obtain rfl := Option.some.inj h
  exact z_vret X H.1 H.2.1 H.2.2.1 dd_Way_closeRows_34
set_option maxRecDepth 100000 in
set_option maxHeartbeats 4000000 in
theorem c_Way_closeRows (l : Launch) {nf : Nat} {a0 : Nat} {c : Zc} {res : Zc} (h : f_Way_closeRows nf a0 c = some res) : zM l yy_Way_closeRows ww_Way_closeRows 3 73 0 0 [.ref a0] c (fun D cid B => zQv D cid B res c.length 0) := by
  refine z_met (cc := bb_Way_closeRows) (maxL := 1) (ret := none) (by decide +kernel) rfl (Nat.le_of_ble_eq_true rfl) ?_
  intro p e s m args below meth cd D cid B X h1 h2 h3 h4
  have X : zX p s m args cd D cid B bb_Way_closeRows 1 rr_Way zT := X
  have H : zH s meth B c.length none "closeRows" := ⟨h1, h2, h4, h3⟩
  unfold f_Way_closeRows at h
  show Zz p l e (zRm 3 73 0 0) s m args below meth cd _ D cid B 1 0 0 c 0 [(0, .ref a0)] []
  refine z_aload_n X dd_Way_closeRows_0 rfl 0 rfl ?_
  obtain ⟨w2, ew2, h⟩ := zb h
  obtain ⟨q1, eq1, h⟩ := zb h
  refine z_callVv X [] rfl dd_Way_closeRows_1 (c_Way_nextRow l eq1) (cwV 0 X.1.2.2.2.2 (zg_V km_1126 km_1119 km_1120 km_129 km_1121) rfl rfl rfl (by decide +kernel) ⟨Nat.le_of_ble_eq_true rfl, Nat.le_of_ble_eq_true rfl⟩) (zob_s ew2) kc_1 rfl (Nat.le_of_ble_eq_true rfl) ⟨Nat.le_of_ble_eq_true rfl, Nat.le_of_ble_eq_true rfl⟩ ?_
  refine z_aload_n X dd_Way_closeRows_4 rfl 0 rfl ?_
  refine z_aload_n X dd_Way_closeRows_5 rfl 0 rfl ?_
  obtain ⟨v3, ev3, h⟩ := zb h
  refine z_get (j := 11) X dd_Way_closeRows_6 kc_1 ki_1 (by decide) km_247 (zgr_v ev3) ?_
  refine z_aload_n X dd_Way_closeRows_9 rfl 0 rfl ?_
  obtain ⟨v4, ev4, h⟩ := zb h
  refine z_get (j := 9) X dd_Way_closeRows_10 kc_1 ki_1 (by decide) km_244 (zgi_v ev4) ?_
  obtain ⟨v5, ev5, h⟩ := zb h
  refine z_laload X dd_Way_closeRows_13 rfl ev5 ?_
  obtain ⟨c6, ec6, h⟩ := zb h
  refine z_put (j := 10) X dd_Way_closeRows_14 kc_1 ki_1 tt_Way tk_Way nn_Way (by decide) km_246 rfl (tk_Way 10 (by decide)) rfl rfl ec6 ?_
  refine z_aload_n X dd_Way_closeRows_17 rfl 0 rfl ?_
  obtain ⟨v7, ev7, h⟩ := zb h
  refine z_get (j := 9) X dd_Way_closeRows_18 kc_1 ki_1 (by decide) km_244 (zgi_v ev7) ?_
  refine z_if_le (tgt := 34) X dd_Way_closeRows_21 (by decide) (fun q8 => ?_) (fun q8 => ?_)
  · rw [if_pos q8] at h
    refine z_sub [] rfl ?_
    exact t_Way_closeRows_34 X H h
  · rw [if_neg q8] at h
    refine z_aload_n X dd_Way_closeRows_24 rfl 0 rfl ?_
    refine z_dup X dd_Way_closeRows_25 rfl ?_
    obtain ⟨v9, ev9, h⟩ := zb h
    refine z_get (j := 9) X dd_Way_closeRows_26 kc_1 ki_1 (by decide) km_244 (zgi_v ev9) ?_
    refine z_iconst (v := 1) X dd_Way_closeRows_29 (by decide) ?_
    refine z_isub X dd_Way_closeRows_30 ?_
    obtain ⟨c10, ec10, h⟩ := zb h
    refine z_put (j := 9) X dd_Way_closeRows_31 kc_1 ki_1 tt_Way tk_Way nn_Way (by decide) km_244 rfl (tk_Way 9 (by decide)) rfl rfl ec10 ?_
    refine z_sub [] rfl ?_
    exact t_Way_closeRows_34 X H h
theorem dd_Way_endRows_0 : decode bb_Way_endRows 0 = .ok (.aload_n 0, 1) := by decide +kernel
theorem dd_Way_endRows_1 : decode bb_Way_endRows 1 = .ok (.invokevirtual 75, 3) := by decide +kernel
theorem dd_Way_endRows_4 : decode bb_Way_endRows 4 = .ok (.aload_n 0, 1) := by decide +kernel
theorem dd_Way_endRows_5 : decode bb_Way_endRows 5 = .ok (.aload_n 0, 1) := by decide +kernel
theorem dd_Way_endRows_6 : decode bb_Way_endRows 6 = .ok (.getfield 50, 3) := by decide +kernel
theorem dd_Way_endRows_9 : decode bb_Way_endRows 9 = .ok (.aload_n 0, 1) := by decide +kernel
theorem dd_Way_endRows_10 : decode bb_Way_endRows 10 = .ok (.getfield 42, 3) := by decide +kernel
theorem dd_Way_endRows_13 : decode bb_Way_endRows 13 = .ok (.laload, 1) := by decide +kernel
theorem dd_Way_endRows_14 : decode bb_Way_endRows 14 = .ok (.putfield 38, 3) := by decide +kernel
theorem dd_Way_endRows_17 : decode bb_Way_endRows 17 = .ok (.return_, 1) := by decide +kernel
set_option maxRecDepth 100000 in
set_option maxHeartbeats 4000000 in
theorem c_Way_endRows (l : Launch) {nf : Nat} {a0 : Nat} {c : Zc} {res : Zc} (h : f_Way_endRows nf a0 c = some res) : zM l yy_Way_endRows ww_Way_endRows 3 73 0 0 [.ref a0] c (fun D cid B => zQv D cid B res c.length 0) := by
  refine z_met (cc := bb_Way_endRows) (maxL := 1) (ret := none) (by decide +kernel) rfl (Nat.le_of_ble_eq_true rfl) ?_
  intro p e s m args below meth cd D cid B X h1 h2 h3 h4
  have X : zX p s m args cd D cid B bb_Way_endRows 1 rr_Way zT := X
  have H : zH s meth B c.length none "endRows" := ⟨h1, h2, h4, h3⟩
  unfold f_Way_endRows at h
  show Zz p l e (zRm 3 73 0 0) s m args below meth cd _ D cid B 1 0 0 c 0 [(0, .ref a0)] []
  refine z_aload_n X dd_Way_endRows_0 rfl 0 rfl ?_
  obtain ⟨w2, ew2, h⟩ := zb h
  obtain ⟨q1, eq1, h⟩ := zb h
  refine z_callVv X [] rfl dd_Way_endRows_1 (c_Way_nextRow l eq1) (cwV 0 X.1.2.2.2.2 (zg_V km_1126 km_1119 km_1120 km_129 km_1121) rfl rfl rfl (by decide +kernel) ⟨Nat.le_of_ble_eq_true rfl, Nat.le_of_ble_eq_true rfl⟩) (zob_s ew2) kc_1 rfl (Nat.le_of_ble_eq_true rfl) ⟨Nat.le_of_ble_eq_true rfl, Nat.le_of_ble_eq_true rfl⟩ ?_
  refine z_aload_n X dd_Way_endRows_4 rfl 0 rfl ?_
  refine z_aload_n X dd_Way_endRows_5 rfl 0 rfl ?_
  obtain ⟨v3, ev3, h⟩ := zb h
  refine z_get (j := 11) X dd_Way_endRows_6 kc_1 ki_1 (by decide) km_247 (zgr_v ev3) ?_
  refine z_aload_n X dd_Way_endRows_9 rfl 0 rfl ?_
  obtain ⟨v4, ev4, h⟩ := zb h
  refine z_get (j := 9) X dd_Way_endRows_10 kc_1 ki_1 (by decide) km_244 (zgi_v ev4) ?_
  obtain ⟨v5, ev5, h⟩ := zb h
  refine z_laload X dd_Way_endRows_13 rfl ev5 ?_
  obtain ⟨c6, ec6, h⟩ := zb h
  refine z_put (j := 8) X dd_Way_endRows_14 kc_1 ki_1 tt_Way tk_Way nn_Way (by decide) km_242 rfl (tk_Way 8 (by decide)) rfl rfl ec6 ?_
  obtain rfl := Option.some.inj h
  exact z_vret X H.1 H.2.1 H.2.2.1 dd_Way_endRows_17
theorem dd_Way_addStep_0 : decode bb_Way_addStep 0 = .ok (.aload_n 0, 1) := by decide +kernel
theorem dd_Way_addStep_1 : decode bb_Way_addStep 1 = .ok (.invokevirtual 72, 3) := by decide +kernel
theorem dd_Way_addStep_4 : decode bb_Way_addStep 4 = .ok (.aload_n 0, 1) := by decide +kernel
theorem dd_Way_addStep_5 : decode bb_Way_addStep 5 = .ok (.getfield 28, 3) := by decide +kernel
theorem dd_Way_addStep_8 : decode bb_Way_addStep 8 = .ok (.bipush 16, 2) := by decide +kernel
theorem dd_Way_addStep_10 : decode bb_Way_addStep 10 = .ok (.if_icmp .ge 83, 3) := by decide +kernel
theorem dd_Way_addStep_13 : decode bb_Way_addStep 13 = .ok (.aload_n 0, 1) := by decide +kernel
theorem dd_Way_addStep_14 : decode bb_Way_addStep 14 = .ok (.getfield 31, 3) := by decide +kernel
theorem dd_Way_addStep_17 : decode bb_Way_addStep 17 = .ok (.aload_n 0, 1) := by decide +kernel
theorem dd_Way_addStep_18 : decode bb_Way_addStep 18 = .ok (.getfield 28, 3) := by decide +kernel
theorem dd_Way_addStep_21 : decode bb_Way_addStep 21 = .ok (.iconst 2, 1) := by decide +kernel
theorem dd_Way_addStep_22 : decode bb_Way_addStep 22 = .ok (.iload_n 1, 1) := by decide +kernel
theorem dd_Way_addStep_23 : decode bb_Way_addStep 23 = .ok (.imul, 1) := by decide +kernel
theorem dd_Way_addStep_24 : decode bb_Way_addStep 24 = .ok (.iload_n 2, 1) := by decide +kernel
theorem dd_Way_addStep_25 : decode bb_Way_addStep 25 = .ok (.iadd, 1) := by decide +kernel
theorem dd_Way_addStep_26 : decode bb_Way_addStep 26 = .ok (.iastore, 1) := by decide +kernel
theorem dd_Way_addStep_27 : decode bb_Way_addStep 27 = .ok (.aload_n 0, 1) := by decide +kernel
theorem dd_Way_addStep_28 : decode bb_Way_addStep 28 = .ok (.getfield 35, 3) := by decide +kernel
theorem dd_Way_addStep_31 : decode bb_Way_addStep 31 = .ok (.aload_n 0, 1) := by decide +kernel
theorem dd_Way_addStep_32 : decode bb_Way_addStep 32 = .ok (.getfield 28, 3) := by decide +kernel
theorem dd_Way_addStep_35 : decode bb_Way_addStep 35 = .ok (.iconst 0, 1) := by decide +kernel
theorem dd_Way_addStep_36 : decode bb_Way_addStep 36 = .ok (.iastore, 1) := by decide +kernel
theorem dd_Way_addStep_37 : decode bb_Way_addStep 37 = .ok (.aload_n 0, 1) := by decide +kernel
theorem dd_Way_addStep_38 : decode bb_Way_addStep 38 = .ok (.lconst 1, 1) := by decide +kernel
theorem dd_Way_addStep_39 : decode bb_Way_addStep 39 = .ok (.aload_n 0, 1) := by decide +kernel
theorem dd_Way_addStep_40 : decode bb_Way_addStep 40 = .ok (.getfield 28, 3) := by decide +kernel
theorem dd_Way_addStep_43 : decode bb_Way_addStep 43 = .ok (.lshl, 1) := by decide +kernel
theorem dd_Way_addStep_44 : decode bb_Way_addStep 44 = .ok (.lconst 1, 1) := by decide +kernel
theorem dd_Way_addStep_45 : decode bb_Way_addStep 45 = .ok (.aload_n 0, 1) := by decide +kernel
theorem dd_Way_addStep_46 : decode bb_Way_addStep 46 = .ok (.getfield 28, 3) := by decide +kernel
theorem dd_Way_addStep_49 : decode bb_Way_addStep 49 = .ok (.bipush 16, 2) := by decide +kernel
theorem dd_Way_addStep_51 : decode bb_Way_addStep 51 = .ok (.iadd, 1) := by decide +kernel
theorem dd_Way_addStep_52 : decode bb_Way_addStep 52 = .ok (.lshl, 1) := by decide +kernel
theorem dd_Way_addStep_53 : decode bb_Way_addStep 53 = .ok (.lor, 1) := by decide +kernel
theorem dd_Way_addStep_54 : decode bb_Way_addStep 54 = .ok (.putfield 47, 3) := by decide +kernel
theorem dd_Way_addStep_57 : decode bb_Way_addStep 57 = .ok (.aload_n 0, 1) := by decide +kernel
theorem dd_Way_addStep_58 : decode bb_Way_addStep 58 = .ok (.dup, 1) := by decide +kernel
theorem dd_Way_addStep_59 : decode bb_Way_addStep 59 = .ok (.getfield 25, 3) := by decide +kernel
theorem dd_Way_addStep_62 : decode bb_Way_addStep 62 = .ok (.iload_n 1, 1) := by decide +kernel
theorem dd_Way_addStep_63 : decode bb_Way_addStep 63 = .ok (.bipush 8, 2) := by decide +kernel
theorem dd_Way_addStep_65 : decode bb_Way_addStep 65 = .ok (.if_icmp .lt 13, 3) := by decide +kernel
theorem dd_Way_addStep_68 : decode bb_Way_addStep 68 = .ok (.iload_n 1, 1) := by decide +kernel
theorem dd_Way_addStep_69 : decode bb_Way_addStep 69 = .ok (.bipush 12, 2) := by decide +kernel
theorem dd_Way_addStep_71 : decode bb_Way_addStep 71 = .ok (.if_icmp .ge 7, 3) := by decide +kernel
theorem dd_Way_addStep_74 : decode bb_Way_addStep 74 = .ok (.iconst 1, 1) := by decide +kernel
theorem dd_Way_addStep_75 : decode bb_Way_addStep 75 = .ok (.goto 4, 3) := by decide +kernel
theorem dd_Way_addStep_78 : decode bb_Way_addStep 78 = .ok (.iconst 0, 1) := by decide +kernel
theorem dd_Way_addStep_79 : decode bb_Way_addStep 79 = .ok (.ior, 1) := by decide +kernel
theorem dd_Way_addStep_80 : decode bb_Way_addStep 80 = .ok (.putfield 25, 3) := by decide +kernel
theorem dd_Way_addStep_83 : decode bb_Way_addStep 83 = .ok (.aload_n 0, 1) := by decide +kernel
theorem dd_Way_addStep_84 : decode bb_Way_addStep 84 = .ok (.dup, 1) := by decide +kernel
theorem dd_Way_addStep_85 : decode bb_Way_addStep 85 = .ok (.getfield 28, 3) := by decide +kernel
theorem dd_Way_addStep_88 : decode bb_Way_addStep 88 = .ok (.iconst 1, 1) := by decide +kernel
theorem dd_Way_addStep_89 : decode bb_Way_addStep 89 = .ok (.iadd, 1) := by decide +kernel
theorem dd_Way_addStep_90 : decode bb_Way_addStep 90 = .ok (.putfield 28, 3) := by decide +kernel
theorem dd_Way_addStep_93 : decode bb_Way_addStep 93 = .ok (.return_, 1) := by decide +kernel
set_option maxRecDepth 100000 in
set_option maxHeartbeats 4000000 in
theorem t_Way_addStep_93  (X : zX p s m args cd D cid B bb_Way_addStep 3 rr_Way zT) (H : zH s meth B n0 none "addStep") {nf : Nat}  {c : Zc} {res : Zc} (h : f_Way_addStep_93 nf  c = some res) : Zz p l e (zRm 2 51 0 0) s m args below meth cd (MQ below (zQv D cid B res n0 0) args s 0 0 (fun q => B ≤ q)) D cid B 3 0 0 c 93 [] [] := by
  unfold f_Way_addStep_93 at h
  obtain rfl := Option.some.inj h
  exact z_vret X H.1 H.2.1 H.2.2.1 dd_Way_addStep_93
set_option maxRecDepth 100000 in
set_option maxHeartbeats 4000000 in
theorem t_Way_addStep_79  (X : zX p s m args cd D cid B bb_Way_addStep 3 rr_Way zT) (H : zH s meth B n0 none "addStep") {nf : Nat} {x0 : Nat} {s0 : Nat} {s1 : Int32} {s2 : Int32} {c : Zc} {res : Zc} (h : f_Way_addStep_79 nf x0 s0 s1 s2 c = some res) : Zz p l e (zRm 2 51 0 0) s m args below meth cd (MQ below (zQv D cid B res n0 0) args s 0 0 (fun q => B ≤ q)) D cid B 3 0 0 c 79 [(0, .ref x0)] [.int s2, .int s1, .ref s0] := by
  unfold f_Way_addStep_79 at h
  refine z_ior X dd_Way_addStep_79 ?_
  obtain ⟨c16, ec16, h⟩ := zb h
  obtain ⟨bc16, ec16⟩ := zpz_s ec16
  refine z_put (j := 4) X dd_Way_addStep_80 kc_1 ki_1 tt_Way tk_Way nn_Way (by decide) km_233 rfl (tk_Way 4 (by decide)) (zn_z bc16) (zf_z bc16) ec16 ?_
  refine z_aload_n X dd_Way_addStep_83 rfl 0 rfl ?_
  refine z_dup X dd_Way_addStep_84 rfl ?_
  obtain ⟨v17, ev17, h⟩ := zb h
  refine z_get (j := 5) X dd_Way_addStep_85 kc_1 ki_1 (by decide) km_235 (zgi_v ev17) ?_
  refine z_iconst (v := 1) X dd_Way_addStep_88 (by decide) ?_
  refine z_iadd X dd_Way_addStep_89 ?_
  obtain ⟨c18, ec18, h⟩ := zb h
  refine z_put (j := 5) X dd_Way_addStep_90 kc_1 ki_1 tt_Way tk_Way nn_Way (by decide) km_235 rfl (tk_Way 5 (by decide)) rfl rfl ec18 ?_
  refine z_sub [] rfl ?_
  exact t_Way_addStep_93 X H h
set_option maxRecDepth 100000 in
set_option maxHeartbeats 4000000 in
theorem t_Way_addStep_78  (X : zX p s m args cd D cid B bb_Way_addStep 3 rr_Way zT) (H : zH s meth B n0 none "addStep") {nf : Nat} {x0 : Nat} {s0 : Nat} {s1 : Int32} {c : Zc} {res : Zc} (h : f_Way_addStep_78 nf x0 s0 s1 c = some res) : Zz p l e (zRm 2 51 0 0) s m args below meth cd (MQ below (zQv D cid B res n0 0) args s 0 0 (fun q => B ≤ q)) D cid B 3 0 0 c 78 [(0, .ref x0)] [.int s1, .ref s0] := by
  unfold f_Way_addStep_78 at h
  refine z_iconst (v := 0) X dd_Way_addStep_78 (by decide) ?_
  exact t_Way_addStep_79 X H h
set_option maxRecDepth 100000 in
set_option maxHeartbeats 4000000 in
theorem c_Way_addStep (l : Launch) {nf : Nat} {a0 : Nat} {a1 : Int32} {a2 : Int32} {c : Zc} {res : Zc} (h : f_Way_addStep nf a0 a1 a2 c = some res) : zM l yy_Way_addStep ww_Way_addStep 2 51 0 0 [.ref a0, .int a1, .int a2] c (fun D cid B => zQv D cid B res c.length 0) := by
  refine z_met (cc := bb_Way_addStep) (maxL := 3) (ret := none) (by decide +kernel) rfl (Nat.le_of_ble_eq_true rfl) ?_
  intro p e s m args below meth cd D cid B X h1 h2 h3 h4
  have X : zX p s m args cd D cid B bb_Way_addStep 3 rr_Way zT := X
  have H : zH s meth B c.length none "addStep" := ⟨h1, h2, h4, h3⟩
  unfold f_Way_addStep at h
  show Zz p l e (zRm 2 51 0 0) s m args below meth cd _ D cid B 3 0 0 c 0 [(0, .ref a0), (1, .int a1), (2, .int a2)] []
  refine z_aload_n X dd_Way_addStep_0 rfl 0 rfl ?_
  obtain ⟨w2, ew2, h⟩ := zb h
  obtain ⟨q1, eq1, h⟩ := zb h
  refine z_callVv X [] rfl dd_Way_addStep_1 (c_Way_settlePending l eq1) (cwV 0 X.1.2.2.2.2 (zg_V km_1092 km_1094 km_27 km_129 km_1095) rfl rfl rfl (by decide +kernel) ⟨Nat.le_of_ble_eq_true rfl, Nat.le_of_ble_eq_true rfl⟩) (zob_s ew2) kc_1 rfl (Nat.le_of_ble_eq_true rfl) ⟨Nat.le_of_ble_eq_true rfl, Nat.le_of_ble_eq_true rfl⟩ ?_
  refine z_aload_n X dd_Way_addStep_4 rfl 0 rfl ?_
  obtain ⟨v3, ev3, h⟩ := zb h
  refine z_get (j := 5) X dd_Way_addStep_5 kc_1 ki_1 (by decide) km_235 (zgi_v ev3) ?_
  refine z_bipush (v := 16) X dd_Way_addStep_8 (by decide) ?_
  refine z_icmp_ge (tgt := 93) X dd_Way_addStep_10 (by decide) (fun q4 => ?_) (fun q4 => ?_)
  · rw [if_pos q4] at h
    refine z_sub [] rfl ?_
    exact t_Way_addStep_93 X H h
  · rw [if_neg q4] at h
    refine z_aload_n X dd_Way_addStep_13 rfl 0 rfl ?_
    obtain ⟨v5, ev5, h⟩ := zb h
    refine z_get (j := 6) X dd_Way_addStep_14 kc_1 ki_1 (by decide) km_238 (zgr_v ev5) ?_
    refine z_aload_n X dd_Way_addStep_17 rfl 0 rfl ?_
    obtain ⟨v6, ev6, h⟩ := zb h
    refine z_get (j := 5) X dd_Way_addStep_18 kc_1 ki_1 (by decide) km_235 (zgi_v ev6) ?_
    refine z_iconst (v := 2) X dd_Way_addStep_21 (by decide) ?_
    refine z_iload_n X dd_Way_addStep_22 rfl 1 rfl ?_
    refine z_imul X dd_Way_addStep_23 ?_
    refine z_iload_n X dd_Way_addStep_24 rfl 2 rfl ?_
    refine z_iadd X dd_Way_addStep_25 ?_
    obtain ⟨c7, ec7, h⟩ := zb h
    refine z_iastore X dd_Way_addStep_26 rfl ec7 ?_
    refine z_aload_n X dd_Way_addStep_27 rfl 0 rfl ?_
    obtain ⟨v8, ev8, h⟩ := zb h
    refine z_get (j := 7) X dd_Way_addStep_28 kc_1 ki_1 (by decide) km_240 (zgr_v ev8) ?_
    refine z_aload_n X dd_Way_addStep_31 rfl 0 rfl ?_
    obtain ⟨v9, ev9, h⟩ := zb h
    refine z_get (j := 5) X dd_Way_addStep_32 kc_1 ki_1 (by decide) km_235 (zgi_v ev9) ?_
    refine z_iconst (v := 0) X dd_Way_addStep_35 (by decide) ?_
    obtain ⟨c10, ec10, h⟩ := zb h
    refine z_iastore X dd_Way_addStep_36 rfl ec10 ?_
    refine z_aload_n X dd_Way_addStep_37 rfl 0 rfl ?_
    refine z_lconst (v := 1) X dd_Way_addStep_38 (by decide) ?_
    refine z_aload_n X dd_Way_addStep_39 rfl 0 rfl ?_
    obtain ⟨v11, ev11, h⟩ := zb h
    refine z_get (j := 5) X dd_Way_addStep_40 kc_1 ki_1 (by decide) km_235 (zgi_v ev11) ?_
    refine z_lshl X dd_Way_addStep_43 ?_
    refine z_lconst (v := 1) X dd_Way_addStep_44 (by decide) ?_
    refine z_aload_n X dd_Way_addStep_45 rfl 0 rfl ?_
    obtain ⟨v12, ev12, h⟩ := zb h
    refine z_get (j := 5) X dd_Way_addStep_46 kc_1 ki_1 (by decide) km_235 (zgi_v ev12) ?_
    refine z_bipush (v := 16) X dd_Way_addStep_49 (by decide) ?_
    refine z_iadd X dd_Way_addStep_51 ?_
    refine z_lshl X dd_Way_addStep_52 ?_
    refine z_lor X dd_Way_addStep_53 ?_
    obtain ⟨c13, ec13, h⟩ := zb h
    refine z_put (j := 10) X dd_Way_addStep_54 kc_1 ki_1 tt_Way tk_Way nn_Way (by decide) km_246 rfl (tk_Way 10 (by decide)) rfl rfl ec13 ?_
    refine z_aload_n X dd_Way_addStep_57 rfl 0 rfl ?_
    refine z_dup X dd_Way_addStep_58 rfl ?_
    obtain ⟨v14, ev14, h⟩ := zb h
    refine z_get (j := 4) X dd_Way_addStep_59 kc_1 ki_1 (by decide) km_233 (zgi_v ev14) ?_
    refine z_iload_n X dd_Way_addStep_62 rfl 1 rfl ?_
    refine z_bipush (v := 8) X dd_Way_addStep_63 (by decide) ?_
    refine z_icmp_lt (tgt := 78) X dd_Way_addStep_65 (by decide) (fun q15 => ?_) (fun q15 => ?_)
    · rw [if_pos q15] at h
      refine z_sub [0] rfl ?_
      exact t_Way_addStep_78 X H h
    · rw [if_neg q15] at h
      refine z_iload_n X dd_Way_addStep_68 rfl 1 rfl ?_
      refine z_bipush (v := 12) X dd_Way_addStep_69 (by decide) ?_
      refine z_icmp_ge (tgt := 78) X dd_Way_addStep_71 (by decide) (fun q19 => ?_) (fun q19 => ?_)
      · rw [if_pos q19] at h
        refine z_sub [0] rfl ?_
        exact t_Way_addStep_78 X H h
      · rw [if_neg q19] at h
        refine z_iconst (v := 1) X dd_Way_addStep_74 (by decide) ?_
        refine z_goto (tgt := 79) X dd_Way_addStep_75 (by decide) ?_
        refine z_sub [0] rfl ?_
        exact t_Way_addStep_79 X H h
theorem dd_Way_repeat_0 : decode bb_Way_repeat 0 = .ok (.iload_n 2, 1) := by decide +kernel
theorem dd_Way_repeat_1 : decode bb_Way_repeat 1 = .ok (.ifCond .eq 15, 3) := by decide +kernel
theorem dd_Way_repeat_4 : decode bb_Way_repeat 4 = .ok (.aload_n 0, 1) := by decide +kernel
theorem dd_Way_repeat_5 : decode bb_Way_repeat 5 = .ok (.aload_n 0, 1) := by decide +kernel
theorem dd_Way_repeat_6 : decode bb_Way_repeat 6 = .ok (.getfield 47, 3) := by decide +kernel
theorem dd_Way_repeat_9 : decode bb_Way_repeat 9 = .ok (.aload_n 0, 1) := by decide +kernel
theorem dd_Way_repeat_10 : decode bb_Way_repeat 10 = .ok (.getfield 47, 3) := by decide +kernel
theorem dd_Way_repeat_13 : decode bb_Way_repeat 13 = .ok (.invokevirtual 78, 3) := by decide +kernel
theorem dd_Way_repeat_16 : decode bb_Way_repeat 16 = .ok (.iload_n 1, 1) := by decide +kernel
theorem dd_Way_repeat_17 : decode bb_Way_repeat 17 = .ok (.ifCond .eq 15, 3) := by decide +kernel
theorem dd_Way_repeat_20 : decode bb_Way_repeat 20 = .ok (.aload_n 0, 1) := by decide +kernel
theorem dd_Way_repeat_21 : decode bb_Way_repeat 21 = .ok (.dup, 1) := by decide +kernel
theorem dd_Way_repeat_22 : decode bb_Way_repeat 22 = .ok (.getfield 47, 3) := by decide +kernel
theorem dd_Way_repeat_25 : decode bb_Way_repeat 25 = .ok (.ldc2_w 82, 3) := by decide +kernel
theorem dd_Way_repeat_28 : decode bb_Way_repeat 28 = .ok (.lor, 1) := by decide +kernel
theorem dd_Way_repeat_29 : decode bb_Way_repeat 29 = .ok (.putfield 47, 3) := by decide +kernel
theorem dd_Way_repeat_32 : decode bb_Way_repeat 32 = .ok (.return_, 1) := by decide +kernel
set_option maxRecDepth 100000 in
set_option maxHeartbeats 4000000 in
theorem t_Way_repeat_32  (X : zX p s m args cd D cid B bb_Way_repeat 3 rr_Way zT) (H : zH s meth B n0 none "repeat") {nf : Nat}  {c : Zc} {res : Zc} (h : f_Way_repeat_32 nf  c = some res) : Zz p l e (zRm 1 25 0 0) s m args below meth cd (MQ below (zQv D cid B res n0 0) args s 0 0 (fun q => B ≤ q)) D cid B 3 0 0 c 32 [] [] := by
  unfold f_Way_repeat_32 at h
  obtain rfl := Option.some.inj h
  exact z_vret X H.1 H.2.1 H.2.2.1 dd_Way_repeat_32
set_option maxRecDepth 100000 in
set_option maxHeartbeats 4000000 in
theorem t_Way_repeat_16  (X : zX p s m args cd D cid B bb_Way_repeat 3 rr_Way zT) (H : zH s meth B n0 none "repeat") {nf : Nat} {x0 : Nat} {x1 : Int32} {c : Zc} {res : Zc} (h : f_Way_repeat_16 nf x0 x1 c = some res) : Zz p l e (zRm 1 25 0 0) s m args below meth cd (MQ below (zQv D cid B res n0 0) args s 0 0 (fun q => B ≤ q)) D cid B 3 0 0 c 16 [(0, .ref x0), (1, .int x1)] [] := by
  unfold f_Way_repeat_16 at h
  refine z_iload_n X dd_Way_repeat_16 rfl 1 rfl ?_
  refine z_if_eq (tgt := 32) X dd_Way_repeat_17 (by decide) (fun q2 => ?_) (fun q2 => ?_)
  · rw [if_pos q2] at h
    refine z_sub [] rfl ?_
    exact t_Way_repeat_32 X H h
  · rw [if_neg q2] at h
    refine z_aload_n X dd_Way_repeat_20 rfl 0 rfl ?_
    refine z_dup X dd_Way_repeat_21 rfl ?_
    obtain ⟨v3, ev3, h⟩ := zb h
    refine z_get (j := 10) X dd_Way_repeat_22 kc_1 ki_1 (by decide) km_246 (zgl_v ev3) ?_
    refine z_ldc2 (v := 4294967296) X dd_Way_repeat_25 km_1101 ?_
    refine z_lor X dd_Way_repeat_28 ?_
    obtain ⟨c4, ec4, h⟩ := zb h
    refine z_put (j := 10) X dd_Way_repeat_29 kc_1 ki_1 tt_Way tk_Way nn_Way (by decide) km_246 rfl (tk_Way 10 (by decide)) rfl rfl ec4 ?_
    refine z_sub [] rfl ?_
    exact t_Way_repeat_32 X H h
set_option maxRecDepth 100000 in
set_option maxHeartbeats 4000000 in
theorem c_Way_repeat (l : Launch) {nf : Nat} {a0 : Nat} {a1 : Int32} {a2 : Int32} {c : Zc} {res : Zc} (h : f_Way_repeat nf a0 a1 a2 c = some res) : zM l yy_Way_repeat ww_Way_repeat 1 25 0 0 [.ref a0, .int a1, .int a2] c (fun D cid B => zQv D cid B res c.length 0) := by
  refine z_met (cc := bb_Way_repeat) (maxL := 3) (ret := none) (by decide +kernel) rfl (Nat.le_of_ble_eq_true rfl) ?_
  intro p e s m args below meth cd D cid B X h1 h2 h3 h4
  have X : zX p s m args cd D cid B bb_Way_repeat 3 rr_Way zT := X
  have H : zH s meth B c.length none "repeat" := ⟨h1, h2, h4, h3⟩
  unfold f_Way_repeat at h
  show Zz p l e (zRm 1 25 0 0) s m args below meth cd _ D cid B 3 0 0 c 0 [(0, .ref a0), (1, .int a1), (2, .int a2)] []
  refine z_iload_n X dd_Way_repeat_0 rfl 2 rfl ?_
  refine z_if_eq (tgt := 16) X dd_Way_repeat_1 (by decide) (fun q1 => ?_) (fun q1 => ?_)
  · rw [if_pos q1] at h
    refine z_sub [0, 1] rfl ?_
    exact t_Way_repeat_16 X H h
  · rw [if_neg q1] at h
    refine z_aload_n X dd_Way_repeat_4 rfl 0 rfl ?_
    refine z_aload_n X dd_Way_repeat_5 rfl 0 rfl ?_
    obtain ⟨v5, ev5, h⟩ := zb h
    refine z_get (j := 10) X dd_Way_repeat_6 kc_1 ki_1 (by decide) km_246 (zgl_v ev5) ?_
    refine z_aload_n X dd_Way_repeat_9 rfl 0 rfl ?_
    obtain ⟨v6, ev6, h⟩ := zb h
    refine z_get (j := 10) X dd_Way_repeat_10 kc_1 ki_1 (by decide) km_246 (zgl_v ev6) ?_
    obtain ⟨w8, ew8, h⟩ := zb h
    obtain ⟨q7, eq7, h⟩ := zb h
    refine z_callVv X [.long v5, .long v6] rfl dd_Way_repeat_13 (c_Way_lead l eq7) (cwV 2 X.1.2.2.2.2 (zg_V km_1096 km_1098 km_28 km_129 km_1099) rfl rfl rfl (by decide +kernel) ⟨Nat.le_of_ble_eq_true rfl, Nat.le_of_ble_eq_true rfl⟩) (zob_s ew8) kc_1 rfl (Nat.le_of_ble_eq_true rfl) ⟨Nat.le_of_ble_eq_true rfl, Nat.le_of_ble_eq_true rfl⟩ ?_
    refine z_sub [0, 1] rfl ?_
    exact t_Way_repeat_16 X H h
theorem dd_Way_forgetArcs_0 : decode bb_Way_forgetArcs 0 = .ok (.aload_n 0, 1) := by decide +kernel
theorem dd_Way_forgetArcs_1 : decode bb_Way_forgetArcs 1 = .ok (.getfield 57, 3) := by decide +kernel
theorem dd_Way_forgetArcs_4 : decode bb_Way_forgetArcs 4 = .ok (.iconst (-1), 1) := by decide +kernel
theorem dd_Way_forgetArcs_5 : decode bb_Way_forgetArcs 5 = .ok (.invokestatic 86, 3) := by decide +kernel
theorem dd_Way_forgetArcs_8 : decode bb_Way_forgetArcs 8 = .ok (.aload_n 0, 1) := by decide +kernel
theorem dd_Way_forgetArcs_9 : decode bb_Way_forgetArcs 9 = .ok (.getfield 60, 3) := by decide +kernel
theorem dd_Way_forgetArcs_12 : decode bb_Way_forgetArcs 12 = .ok (.iconst 0, 1) := by decide +kernel
theorem dd_Way_forgetArcs_13 : decode bb_Way_forgetArcs 13 = .ok (.invokestatic 86, 3) := by decide +kernel
theorem dd_Way_forgetArcs_16 : decode bb_Way_forgetArcs 16 = .ok (.aload_n 0, 1) := by decide +kernel
theorem dd_Way_forgetArcs_17 : decode bb_Way_forgetArcs 17 = .ok (.getfield 63, 3) := by decide +kernel
theorem dd_Way_forgetArcs_20 : decode bb_Way_forgetArcs 20 = .ok (.iconst 0, 1) := by decide +kernel
theorem dd_Way_forgetArcs_21 : decode bb_Way_forgetArcs 21 = .ok (.invokestatic 86, 3) := by decide +kernel
theorem dd_Way_forgetArcs_24 : decode bb_Way_forgetArcs 24 = .ok (.aload_n 0, 1) := by decide +kernel
theorem dd_Way_forgetArcs_25 : decode bb_Way_forgetArcs 25 = .ok (.iconst 0, 1) := by decide +kernel
theorem dd_Way_forgetArcs_26 : decode bb_Way_forgetArcs 26 = .ok (.putfield 66, 3) := by decide +kernel
theorem dd_Way_forgetArcs_29 : decode bb_Way_forgetArcs 29 = .ok (.return_, 1) := by decide +kernel
set_option maxRecDepth 100000 in
set_option maxHeartbeats 4000000 in
theorem c_Way_forgetArcs (l : Launch) {nf : Nat} {a0 : Nat} {c : Zc} {res : Zc} (h : f_Way_forgetArcs nf a0 c = some res) : zM l yy_Way_forgetArcs ww_Way_forgetArcs 1 23 0 0 [.ref a0] c (fun D cid B => zQv D cid B res c.length 0) := by
  refine z_met (cc := bb_Way_forgetArcs) (maxL := 1) (ret := none) (by decide +kernel) rfl (Nat.le_of_ble_eq_true rfl) ?_
  intro p e s m args below meth cd D cid B X h1 h2 h3 h4
  have X : zX p s m args cd D cid B bb_Way_forgetArcs 1 rr_Way zT := X
  have H : zH s meth B c.length none "forgetArcs" := ⟨h1, h2, h4, h3⟩
  unfold f_Way_forgetArcs at h
  show Zz p l e (zRm 1 23 0 0) s m args below meth cd _ D cid B 1 0 0 c 0 [(0, .ref a0)] []
  refine z_aload_n X dd_Way_forgetArcs_0 rfl 0 rfl ?_
  obtain ⟨v1, ev1, h⟩ := zb h
  refine z_get (j := 13) X dd_Way_forgetArcs_1 kc_1 ki_1 (by decide) km_249 (zgr_v ev1) ?_
  refine z_iconst (v := (-1)) X dd_Way_forgetArcs_4 (by decide) ?_
  obtain ⟨q2, eq2, h⟩ := zb h
  refine z_callSv X [.ref v1, .int (-1)] rfl dd_Way_forgetArcs_5 (c_Arrays_fill l eq2) (va_cwS 2 X.1.2.2.2.2 (zg_S km_1301 km_162 km_127 km_163) rfl rfl rfl (by decide +kernel) ⟨Nat.le_of_ble_eq_true rfl, Nat.le_of_ble_eq_true rfl⟩) rfl (Nat.le_of_ble_eq_true rfl) ⟨Nat.le_of_ble_eq_true rfl, Nat.le_of_ble_eq_true rfl⟩ ?_
  refine z_aload_n X dd_Way_forgetArcs_8 rfl 0 rfl ?_
  obtain ⟨v3, ev3, h⟩ := zb h
  refine z_get (j := 14) X dd_Way_forgetArcs_9 kc_1 ki_1 (by decide) km_250 (zgr_v ev3) ?_
  refine z_iconst (v := 0) X dd_Way_forgetArcs_12 (by decide) ?_
  obtain ⟨q4, eq4, h⟩ := zb h
  refine z_callSv X [.ref v3, .int 0] rfl dd_Way_forgetArcs_13 (c_Arrays_fill l eq4) (va_cwS 2 X.1.2.2.2.2 (zg_S km_1301 km_162 km_127 km_163) rfl rfl rfl (by decide +kernel) ⟨Nat.le_of_ble_eq_true rfl, Nat.le_of_ble_eq_true rfl⟩) rfl (Nat.le_of_ble_eq_true rfl) ⟨Nat.le_of_ble_eq_true rfl, Nat.le_of_ble_eq_true rfl⟩ ?_
  refine z_aload_n X dd_Way_forgetArcs_16 rfl 0 rfl ?_
  obtain ⟨v5, ev5, h⟩ := zb h
  refine z_get (j := 15) X dd_Way_forgetArcs_17 kc_1 ki_1 (by decide) km_253 (zgr_v ev5) ?_
  refine z_iconst (v := 0) X dd_Way_forgetArcs_20 (by decide) ?_
  obtain ⟨q6, eq6, h⟩ := zb h
  refine z_callSv X [.ref v5, .int 0] rfl dd_Way_forgetArcs_21 (c_Arrays_fill l eq6) (va_cwS 2 X.1.2.2.2.2 (zg_S km_1301 km_162 km_127 km_163) rfl rfl rfl (by decide +kernel) ⟨Nat.le_of_ble_eq_true rfl, Nat.le_of_ble_eq_true rfl⟩) rfl (Nat.le_of_ble_eq_true rfl) ⟨Nat.le_of_ble_eq_true rfl, Nat.le_of_ble_eq_true rfl⟩ ?_
  refine z_aload_n X dd_Way_forgetArcs_24 rfl 0 rfl ?_
  refine z_iconst (v := 0) X dd_Way_forgetArcs_25 (by decide) ?_
  obtain ⟨c7, ec7, h⟩ := zb h
  refine z_put (j := 16) X dd_Way_forgetArcs_26 kc_1 ki_1 tt_Way tk_Way nn_Way (by decide) km_255 rfl (tk_Way 16 (by decide)) rfl rfl ec7 ?_
  obtain rfl := Option.some.inj h
  exact z_vret X H.1 H.2.1 H.2.2.1 dd_Way_forgetArcs_29
theorem dd_Way_arrive_0 : decode bb_Way_arrive 0 = .ok (.iload_n 2, 1) := by decide +kernel
theorem dd_Way_arrive_1 : decode bb_Way_arrive 1 = .ok (.aload_n 0, 1) := by decide +kernel
theorem dd_Way_arrive_2 : decode bb_Way_arrive 2 = .ok (.getfield 60, 3) := by decide +kernel
theorem dd_Way_arrive_5 : decode bb_Way_arrive 5 = .ok (.iload_n 1, 1) := by decide +kernel
theorem dd_Way_arrive_6 : decode bb_Way_arrive 6 = .ok (.iaload, 1) := by decide +kernel
theorem dd_Way_arrive_7 : decode bb_Way_arrive 7 = .ok (.iconst (-1), 1) := by decide +kernel
theorem dd_Way_arrive_8 : decode bb_Way_arrive 8 = .ok (.ixor, 1) := by decide +kernel
theorem dd_Way_arrive_9 : decode bb_Way_arrive 9 = .ok (.iand, 1) := by decide +kernel
theorem dd_Way_arrive_10 : decode bb_Way_arrive 10 = .ok (.istore 4, 2) := by decide +kernel
theorem dd_Way_arrive_12 : decode bb_Way_arrive 12 = .ok (.iconst 0, 1) := by decide +kernel
theorem dd_Way_arrive_13 : decode bb_Way_arrive 13 = .ok (.istore 5, 2) := by decide +kernel
theorem dd_Way_arrive_15 : decode bb_Way_arrive 15 = .ok (.iload 5, 2) := by decide +kernel
theorem dd_Way_arrive_17 : decode bb_Way_arrive 17 = .ok (.bipush 16, 2) := by decide +kernel
theorem dd_Way_arrive_19 : decode bb_Way_arrive 19 = .ok (.if_icmp .ge 45, 3) := by decide +kernel
theorem dd_Way_arrive_22 : decode bb_Way_arrive 22 = .ok (.iload 4, 2) := by decide +kernel
theorem dd_Way_arrive_24 : decode bb_Way_arrive 24 = .ok (.iload 5, 2) := by decide +kernel
theorem dd_Way_arrive_26 : decode bb_Way_arrive 26 = .ok (.ishr, 1) := by decide +kernel
theorem dd_Way_arrive_27 : decode bb_Way_arrive 27 = .ok (.iconst 1, 1) := by decide +kernel
theorem dd_Way_arrive_28 : decode bb_Way_arrive 28 = .ok (.iand, 1) := by decide +kernel
theorem dd_Way_arrive_29 : decode bb_Way_arrive 29 = .ok (.ifCond .eq 29, 3) := by decide +kernel
theorem dd_Way_arrive_32 : decode bb_Way_arrive 32 = .ok (.aload_n 0, 1) := by decide +kernel
theorem dd_Way_arrive_33 : decode bb_Way_arrive 33 = .ok (.getfield 57, 3) := by decide +kernel
theorem dd_Way_arrive_36 : decode bb_Way_arrive 36 = .ok (.iload_n 1, 1) := by decide +kernel
theorem dd_Way_arrive_37 : decode bb_Way_arrive 37 = .ok (.bipush 16, 2) := by decide +kernel
theorem dd_Way_arrive_39 : decode bb_Way_arrive 39 = .ok (.imul, 1) := by decide +kernel
theorem dd_Way_arrive_40 : decode bb_Way_arrive 40 = .ok (.iload 5, 2) := by decide +kernel
theorem dd_Way_arrive_42 : decode bb_Way_arrive 42 = .ok (.iadd, 1) := by decide +kernel
theorem dd_Way_arrive_43 : decode bb_Way_arrive 43 = .ok (.iload_n 3, 1) := by decide +kernel
theorem dd_Way_arrive_44 : decode bb_Way_arrive 44 = .ok (.iastore, 1) := by decide +kernel
theorem dd_Way_arrive_45 : decode bb_Way_arrive 45 = .ok (.aload_n 0, 1) := by decide +kernel
theorem dd_Way_arrive_46 : decode bb_Way_arrive 46 = .ok (.getfield 63, 3) := by decide +kernel
theorem dd_Way_arrive_49 : decode bb_Way_arrive 49 = .ok (.iload 5, 2) := by decide +kernel
theorem dd_Way_arrive_51 : decode bb_Way_arrive 51 = .ok (.dup2, 1) := by decide +kernel
theorem dd_Way_arrive_52 : decode bb_Way_arrive 52 = .ok (.iaload, 1) := by decide +kernel
theorem dd_Way_arrive_53 : decode bb_Way_arrive 53 = .ok (.iconst 1, 1) := by decide +kernel
theorem dd_Way_arrive_54 : decode bb_Way_arrive 54 = .ok (.iload_n 1, 1) := by decide +kernel
theorem dd_Way_arrive_55 : decode bb_Way_arrive 55 = .ok (.ishl, 1) := by decide +kernel
theorem dd_Way_arrive_56 : decode bb_Way_arrive 56 = .ok (.ior, 1) := by decide +kernel
theorem dd_Way_arrive_57 : decode bb_Way_arrive 57 = .ok (.iastore, 1) := by decide +kernel
theorem dd_Way_arrive_58 : decode bb_Way_arrive 58 = .ok (.iinc 5 1, 3) := by decide +kernel
theorem dd_Way_arrive_61 : decode bb_Way_arrive 61 = .ok (.goto (-46), 3) := by decide +kernel
theorem dd_Way_arrive_64 : decode bb_Way_arrive 64 = .ok (.aload_n 0, 1) := by decide +kernel
theorem dd_Way_arrive_65 : decode bb_Way_arrive 65 = .ok (.getfield 60, 3) := by decide +kernel
theorem dd_Way_arrive_68 : decode bb_Way_arrive 68 = .ok (.iload_n 1, 1) := by decide +kernel
theorem dd_Way_arrive_69 : decode bb_Way_arrive 69 = .ok (.dup2, 1) := by decide +kernel
theorem dd_Way_arrive_70 : decode bb_Way_arrive 70 = .ok (.iaload, 1) := by decide +kernel
theorem dd_Way_arrive_71 : decode bb_Way_arrive 71 = .ok (.iload 4, 2) := by decide +kernel
theorem dd_Way_arrive_73 : decode bb_Way_arrive 73 = .ok (.ior, 1) := by decide +kernel
theorem dd_Way_arrive_74 : decode bb_Way_arrive 74 = .ok (.iastore, 1) := by decide +kernel
theorem dd_Way_arrive_75 : decode bb_Way_arrive 75 = .ok (.aload_n 0, 1) := by decide +kernel
theorem dd_Way_arrive_76 : decode bb_Way_arrive 76 = .ok (.dup, 1) := by decide +kernel
theorem dd_Way_arrive_77 : decode bb_Way_arrive 77 = .ok (.getfield 66, 3) := by decide +kernel
theorem dd_Way_arrive_80 : decode bb_Way_arrive 80 = .ok (.iload 4, 2) := by decide +kernel
theorem dd_Way_arrive_82 : decode bb_Way_arrive 82 = .ok (.iconst 1, 1) := by decide +kernel
theorem dd_Way_arrive_83 : decode bb_Way_arrive 83 = .ok (.iload_n 1, 1) := by decide +kernel
theorem dd_Way_arrive_84 : decode bb_Way_arrive 84 = .ok (.ishl, 1) := by decide +kernel
theorem dd_Way_arrive_85 : decode bb_Way_arrive 85 = .ok (.iand, 1) := by decide +kernel
theorem dd_Way_arrive_86 : decode bb_Way_arrive 86 = .ok (.ior, 1) := by decide +kernel
theorem dd_Way_arrive_87 : decode bb_Way_arrive 87 = .ok (.putfield 66, 3) := by decide +kernel
theorem dd_Way_arrive_90 : decode bb_Way_arrive 90 = .ok (.return_, 1) := by decide +kernel
set_option maxRecDepth 100000 in
set_option maxHeartbeats 4000000 in
theorem t_Way_arrive_58  (X : zX p s m args cd D cid B bb_Way_arrive 6 rr_Way zT) (H : zH s meth B n0 none "arrive") {nf : Nat} {x0 : Nat} {x1 : Int32} {x3 : Int32} {x4 : Int32} {x5 : Int32} {c : Zc} {r : (Nat × Int32 × Int32 × Int32 × Int32 × Zc) ⊕ (Nat × Int32 × Int32 × Zc)} (h : f_Way_arrive_58 nf x0 x1 x3 x4 x5 c = some r) (k0 : ∀ a, r = .inl a → (fun a : Nat × Int32 × Int32 × Int32 × Int32 × Zc => Zz p l e (zRm 0 0 0 0) s m args below meth cd Q D cid B 6 0 0 a.2.2.2.2.2 15 [(0, .ref a.1), (1, .int a.2.1), (3, .int a.2.2.1), (4, .int a.2.2.2.1), (5, .int a.2.2.2.2.1)] []) a) (k1 : ∀ b, r = .inr b → (fun b : Nat × Int32 × Int32 × Zc => Zz p l e (zRm 0 0 0 0) s m args below meth cd Q D cid B 6 0 0 b.2.2.2 64 [(0, .ref b.1), (1, .int b.2.1), (4, .int b.2.2.1)] []) b) : Zz p l e (zRm 0 0 0 0) s m args below meth cd Q D cid B 6 0 0 c 58 [(0, .ref x0), (1, .int x1), (3, .int x3), (4, .int x4), (5, .int x5)] [] := by
  unfold f_Way_arrive_58 at h
  refine z_iinc (v := (x5 + 1)) (lv' := [(5, .int (x5 + 1)), (0, .ref x0), (1, .int x1), (3, .int x3), (4, .int x4)]) X dd_Way_arrive_58 4 rfl rfl (by decide) rfl ?_
  refine z_goto (tgt := 15) X dd_Way_arrive_61 (by decide) ?_
  refine z_sub [1, 2, 3, 4, 0] rfl ?_
  obtain rfl := Option.some.inj h
  exact k0 _ rfl
set_option maxRecDepth 100000 in
set_option maxHeartbeats 4000000 in
theorem u_Way_arrive_15  (X : zX p s m args cd D cid B bb_Way_arrive 6 rr_Way zT) (H : zH s meth B n0 none "arrive") {nf : Nat} {x0 : Nat} {x1 : Int32} {x3 : Int32} {x4 : Int32} {x5 : Int32} {c : Zc} {r : (Nat × Int32 × Int32 × Int32 × Int32 × Zc) ⊕ (Nat × Int32 × Int32 × Zc)} (h : g_Way_arrive_15 nf x0 x1 x3 x4 x5 c = some r) (k0 : ∀ a, r = .inl a → (fun a : Nat × Int32 × Int32 × Int32 × Int32 × Zc => Zz p l e (zRm 0 0 0 0) s m args below meth cd Q D cid B 6 0 0 a.2.2.2.2.2 15 [(0, .ref a.1), (1, .int a.2.1), (3, .int a.2.2.1), (4, .int a.2.2.2.1), (5, .int a.2.2.2.2.1)] []) a) (k1 : ∀ b, r = .inr b → (fun b : Nat × Int32 × Int32 × Zc => Zz p l e (zRm 0 0 0 0) s m args below meth cd Q D cid B 6 0 0 b.2.2.2 64 [(0, .ref b.1), (1, .int b.2.1), (4, .int b.2.2.1)] []) b) : Zz p l e (zRm 0 0 0 0) s m args below meth cd Q D cid B 6 0 0 c 15 [(0, .ref x0), (1, .int x1), (3, .int x3), (4, .int x4), (5, .int x5)] [] := by
  unfold g_Way_arrive_15 at h
  refine z_iload X dd_Way_arrive_15 4 rfl ?_
  refine z_bipush (v := 16) X dd_Way_arrive_17 (by decide) ?_
  refine z_icmp_ge (tgt := 64) X dd_Way_arrive_19 (by decide) (fun q3 => ?_) (fun q3 => ?_)
  · rw [if_pos q3] at h
    refine z_sub [0, 1, 3] rfl ?_
    obtain rfl := Option.some.inj h
    exact k1 _ rfl
  · rw [if_neg q3] at h
    refine z_iload X dd_Way_arrive_22 3 rfl ?_
    refine z_iload X dd_Way_arrive_24 4 rfl ?_
    refine z_ishr X dd_Way_arrive_26 ?_
    refine z_iconst (v := 1) X dd_Way_arrive_27 (by decide) ?_
    refine z_iand X dd_Way_arrive_28 ?_
    refine z_if_eq (tgt := 58) X dd_Way_arrive_29 (by decide) (fun q4 => ?_) (fun q4 => ?_)
    · rw [if_pos q4] at h
      exact t_Way_arrive_58 X H h k0 k1
    · rw [if_neg q4] at h
      refine z_aload_n X dd_Way_arrive_32 rfl 0 rfl ?_
      obtain ⟨v5, ev5, h⟩ := zb h
      refine z_get (j := 13) X dd_Way_arrive_33 kc_1 ki_1 (by decide) km_249 (zgr_v ev5) ?_
      refine z_iload_n X dd_Way_arrive_36 rfl 1 rfl ?_
      refine z_bipush (v := 16) X dd_Way_arrive_37 (by decide) ?_
      refine z_imul X dd_Way_arrive_39 ?_
      refine z_iload X dd_Way_arrive_40 4 rfl ?_
      refine z_iadd X dd_Way_arrive_42 ?_
      refine z_iload_n X dd_Way_arrive_43 rfl 2 rfl ?_
      obtain ⟨c6, ec6, h⟩ := zb h
      refine z_iastore X dd_Way_arrive_44 rfl ec6 ?_
      refine z_aload_n X dd_Way_arrive_45 rfl 0 rfl ?_
      obtain ⟨v7, ev7, h⟩ := zb h
      refine z_get (j := 15) X dd_Way_arrive_46 kc_1 ki_1 (by decide) km_253 (zgr_v ev7) ?_
      refine z_iload X dd_Way_arrive_49 4 rfl ?_
      refine z_dup2_11 X dd_Way_arrive_51 rfl rfl ?_
      obtain ⟨v8, ev8, h⟩ := zb h
      refine z_iaload X dd_Way_arrive_52 rfl ev8 ?_
      refine z_iconst (v := 1) X dd_Way_arrive_53 (by decide) ?_
      refine z_iload_n X dd_Way_arrive_54 rfl 1 rfl ?_
      refine z_ishl X dd_Way_arrive_55 ?_
      refine z_ior X dd_Way_arrive_56 ?_
      obtain ⟨c9, ec9, h⟩ := zb h
      refine z_iastore X dd_Way_arrive_57 rfl ec9 ?_
      exact t_Way_arrive_58 X H h k0 k1
set_option maxRecDepth 100000 in
set_option maxHeartbeats 4000000 in
theorem t_Way_arrive_15  (X : zX p s m args cd D cid B bb_Way_arrive 6 rr_Way zT) (H : zH s meth B n0 none "arrive") {nf : Nat} {x0 : Nat} {x1 : Int32} {x3 : Int32} {x4 : Int32} {x5 : Int32} {c : Zc} {res : Zc} (h : f_Way_arrive_15 nf x0 x1 x3 x4 x5 c = some res) : Zz p l e (zRm 0 0 0 0) s m args below meth cd (MQ below (zQv D cid B res n0 0) args s 0 0 (fun q => B ≤ q)) D cid B 6 0 0 c 15 [(0, .ref x0), (1, .int x1), (3, .int x3), (4, .int x4), (5, .int x5)] [] := by
  unfold f_Way_arrive_15 at h
  obtain ⟨b, eb, h⟩ := zb h
  refine zlp_ok (P := fun a : Nat × Int32 × Int32 × Int32 × Int32 × Zc => Zz p l e (zRm 0 0 0 0) s m args below meth cd _ D cid B 6 0 0 a.2.2.2.2.2 15 [(0, .ref a.1), (1, .int a.2.1), (3, .int a.2.2.1), (4, .int a.2.2.2.1), (5, .int a.2.2.2.2.1)] []) (G := fun b : Nat × Int32 × Int32 × Zc => Zz p l e (zRm 0 0 0 0) s m args below meth cd _ D cid B 6 0 0 b.2.2.2 64 [(0, .ref b.1), (1, .int b.2.1), (4, .int b.2.2.1)] []) (fun a r ha k0 k1 => u_Way_arrive_15 X H ha k0 k1) nf _ b eb ?_
  refine z_aload_n X dd_Way_arrive_64 rfl 0 rfl ?_
  obtain ⟨v10, ev10, h⟩ := zb h
  refine z_get (j := 14) X dd_Way_arrive_65 kc_1 ki_1 (by decide) km_250 (zgr_v ev10) ?_
  refine z_iload_n X dd_Way_arrive_68 rfl 1 rfl ?_
  refine z_dup2_11 X dd_Way_arrive_69 rfl rfl ?_
  obtain ⟨v11, ev11, h⟩ := zb h
  refine z_iaload X dd_Way_arrive_70 rfl ev11 ?_
  refine z_iload X dd_Way_arrive_71 2 rfl ?_
  refine z_ior X dd_Way_arrive_73 ?_
  obtain ⟨c12, ec12, h⟩ := zb h
  refine z_iastore X dd_Way_arrive_74 rfl ec12 ?_
  refine z_aload_n X dd_Way_arrive_75 rfl 0 rfl ?_
  refine z_dup X dd_Way_arrive_76 rfl ?_
  obtain ⟨v13, ev13, h⟩ := zb h
  refine z_get (j := 16) X dd_Way_arrive_77 kc_1 ki_1 (by decide) km_255 (zgi_v ev13) ?_
  refine z_iload X dd_Way_arrive_80 2 rfl ?_
  refine z_iconst (v := 1) X dd_Way_arrive_82 (by decide) ?_
  refine z_iload_n X dd_Way_arrive_83 rfl 1 rfl ?_
  refine z_ishl X dd_Way_arrive_84 ?_
  refine z_iand X dd_Way_arrive_85 ?_
  refine z_ior X dd_Way_arrive_86 ?_
  obtain ⟨c14, ec14, h⟩ := zb h
  refine z_put (j := 16) X dd_Way_arrive_87 kc_1 ki_1 tt_Way tk_Way nn_Way (by decide) km_255 rfl (tk_Way 16 (by decide)) rfl rfl ec14 ?_
  obtain rfl := Option.some.inj h
  exact z_vret X H.1 H.2.1 H.2.2.1 dd_Way_arrive_90
set_option maxRecDepth 100000 in
set_option maxHeartbeats 4000000 in
theorem c_Way_arrive (l : Launch) {nf : Nat} {a0 : Nat} {a1 : Int32} {a2 : Int32} {a3 : Int32} {c : Zc} {res : Zc} (h : f_Way_arrive nf a0 a1 a2 a3 c = some res) : zM l yy_Way_arrive ww_Way_arrive 0 0 0 0 [.ref a0, .int a1, .int a2, .int a3] c (fun D cid B => zQv D cid B res c.length 0) := by
  refine z_met (cc := bb_Way_arrive) (maxL := 6) (ret := none) (by decide +kernel) rfl (Nat.le_of_ble_eq_true rfl) ?_
  intro p e s m args below meth cd D cid B X h1 h2 h3 h4
  have X : zX p s m args cd D cid B bb_Way_arrive 6 rr_Way zT := X
  have H : zH s meth B c.length none "arrive" := ⟨h1, h2, h4, h3⟩
  unfold f_Way_arrive at h
  show Zz p l e (zRm 0 0 0 0) s m args below meth cd _ D cid B 6 0 0 c 0 [(0, .ref a0), (1, .int a1), (2, .int a2), (3, .int a3)] []
  refine z_iload_n X dd_Way_arrive_0 rfl 2 rfl ?_
  refine z_aload_n X dd_Way_arrive_1 rfl 0 rfl ?_
  obtain ⟨v1, ev1, h⟩ := zb h
  refine z_get (j := 14) X dd_Way_arrive_2 kc_1 ki_1 (by decide) km_250 (zgr_v ev1) ?_
  refine z_iload_n X dd_Way_arrive_5 rfl 1 rfl ?_
  obtain ⟨v2, ev2, h⟩ := zb h
  refine z_iaload X dd_Way_arrive_6 rfl ev2 ?_
  refine z_iconst (v := (-1)) X dd_Way_arrive_7 (by decide) ?_
  refine z_ixor X dd_Way_arrive_8 ?_
  refine z_iand X dd_Way_arrive_9 ?_
  refine z_istore (lv' := [(4, .int (a2 &&& (v2 ^^^ (-1)))), (0, .ref a0), (1, .int a1), (2, .int a2), (3, .int a3)]) X dd_Way_arrive_10 (by decide) rfl ?_
  refine z_iconst (v := 0) X dd_Way_arrive_12 (by decide) ?_
  refine z_istore (lv' := [(5, .int 0), (4, .int (a2 &&& (v2 ^^^ (-1)))), (0, .ref a0), (1, .int a1), (2, .int a2), (3, .int a3)]) X dd_Way_arrive_13 (by decide) rfl ?_
  refine z_sub [2, 3, 5, 1, 0] rfl ?_
  exact t_Way_arrive_15 X H h
end ZzM
