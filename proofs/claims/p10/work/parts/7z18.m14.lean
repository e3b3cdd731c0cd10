section ZzM
variable {p : Program} {l : Launch} {e : Env} {s : State} {m : MethodId} {args : Array Value} {below : List Frame} {meth : Method} {cd : Code} {Q : State → Prop} {D : va_G} {cid : Nat → ClassId} {B n0 : Nat}
theorem dd_PQ_feed_0 : decode bb_PQ_feed 0 = .ok (.aload_n 0, 1) := by decide +kernel
theorem dd_PQ_feed_1 : decode bb_PQ_feed 1 = .ok (.getfield 77, 3) := by decide +kernel
theorem dd_PQ_feed_4 : decode bb_PQ_feed 4 = .ok (.bipush 20, 2) := by decide +kernel
theorem dd_PQ_feed_6 : decode bb_PQ_feed 6 = .ok (.iadd, 1) := by decide +kernel
theorem dd_PQ_feed_7 : decode bb_PQ_feed 7 = .ok (.sipush 1500, 3) := by decide +kernel
theorem dd_PQ_feed_10 : decode bb_PQ_feed 10 = .ok (.if_icmp .le 6, 3) := by decide +kernel
theorem dd_PQ_feed_13 : decode bb_PQ_feed 13 = .ok (.bipush (-3), 2) := by decide +kernel
theorem dd_PQ_feed_15 : decode bb_PQ_feed 15 = .ok (.ireturn, 1) := by decide +kernel
theorem dd_PQ_feed_16 : decode bb_PQ_feed 16 = .ok (.aload_n 0, 1) := by decide +kernel
theorem dd_PQ_feed_17 : decode bb_PQ_feed 17 = .ok (.iload_n 1, 1) := by decide +kernel
theorem dd_PQ_feed_18 : decode bb_PQ_feed 18 = .ok (.invokevirtual 82, 3) := by decide +kernel
theorem dd_PQ_feed_21 : decode bb_PQ_feed 21 = .ok (.aload_n 0, 1) := by decide +kernel
theorem dd_PQ_feed_22 : decode bb_PQ_feed 22 = .ok (.iload_n 2, 1) := by decide +kernel
theorem dd_PQ_feed_23 : decode bb_PQ_feed 23 = .ok (.invokevirtual 82, 3) := by decide +kernel
theorem dd_PQ_feed_26 : decode bb_PQ_feed 26 = .ok (.aload_n 0, 1) := by decide +kernel
theorem dd_PQ_feed_27 : decode bb_PQ_feed 27 = .ok (.iload_n 3, 1) := by decide +kernel
theorem dd_PQ_feed_28 : decode bb_PQ_feed 28 = .ok (.invokevirtual 82, 3) := by decide +kernel
theorem dd_PQ_feed_31 : decode bb_PQ_feed 31 = .ok (.aload_n 0, 1) := by decide +kernel
theorem dd_PQ_feed_32 : decode bb_PQ_feed 32 = .ok (.iload 4, 2) := by decide +kernel
theorem dd_PQ_feed_34 : decode bb_PQ_feed 34 = .ok (.invokevirtual 82, 3) := by decide +kernel
theorem dd_PQ_feed_37 : decode bb_PQ_feed 37 = .ok (.aload_n 0, 1) := by decide +kernel
theorem dd_PQ_feed_38 : decode bb_PQ_feed 38 = .ok (.iload 5, 2) := by decide +kernel
theorem dd_PQ_feed_40 : decode bb_PQ_feed 40 = .ok (.invokevirtual 82, 3) := by decide +kernel
theorem dd_PQ_feed_43 : decode bb_PQ_feed 43 = .ok (.aload_n 0, 1) := by decide +kernel
theorem dd_PQ_feed_44 : decode bb_PQ_feed 44 = .ok (.getfield 77, 3) := by decide +kernel
theorem dd_PQ_feed_47 : decode bb_PQ_feed 47 = .ok (.ireturn, 1) := by decide +kernel
set_option maxRecDepth 100000 in
set_option maxHeartbeats 4000000 in
theorem c_PQ_feed (l : Launch) {nf : Nat} {a0 : Nat} {a1 : Int32} {a2 : Int32} {a3 : Int32} {a4 : Int32} {a5 : Int32} {c : Zc} {res : Int32 × Zc} (h : f_PQ_feed nf a0 a1 a2 a3 a4 a5 c = some res) : zM l yy_PQ_feed ww_PQ_feed 1 22 0 0 [.ref a0, .int a1, .int a2, .int a3, .int a4, .int a5] c (fun D cid B => zQi D cid B res.1 res.2 c.length 0) := by
  refine z_met (cc := bb_PQ_feed) (maxL := 6) (ret := (some (.int))) (by decide +kernel) rfl (Nat.le_of_ble_eq_true rfl) ?_
  intro p e s m args below meth cd D cid B X h1 h2 h3 h4
  have X : zX p s m args cd D cid B bb_PQ_feed 6 rr_PQ zT := X
  have H : zH s meth B c.length (some (.int)) "feed" := ⟨h1, h2, h4, h3⟩
  unfold f_PQ_feed at h
  show Zz p l e (zRm 1 22 0 0) s m args below meth cd _ D cid B 6 0 0 c 0 [(0, .ref a0), (1, .int a1), (2, .int a2), (3, .int a3), (4, .int a4), (5, .int a5)] []
  refine z_aload_n X dd_PQ_feed_0 rfl 0 rfl ?_
  obtain ⟨v1, ev1, h⟩ := zb h
  refine z_get (j := 10) X dd_PQ_feed_1 kc_11 ki_11 (by decide) km_699 (zgi_v ev1) ?_
  refine z_bipush (v := 20) X dd_PQ_feed_4 (by decide) ?_
  refine z_iadd X dd_PQ_feed_6 ?_
  refine z_sipush (v := 1500) X dd_PQ_feed_7 (by decide) ?_
  refine z_icmp_le (tgt := 16) X dd_PQ_feed_10 (by decide) (fun q2 => ?_) (fun q2 => ?_)
  · rw [if_pos q2] at h
    refine z_aload_n X dd_PQ_feed_16 rfl 0 rfl ?_
    refine z_iload_n X dd_PQ_feed_17 rfl 1 rfl ?_
    obtain ⟨w4, ew4, h⟩ := zb h
    obtain ⟨q3, eq3, h⟩ := zb h
    refine z_callVv X [.int a1] rfl dd_PQ_feed_18 (c_PQ_append l eq3) (cwV 1 X.1.2.2.2.2 (zg_V km_727 km_729 km_0 km_125 km_730) rfl rfl rfl (by decide +kernel) ⟨Nat.le_of_ble_eq_true rfl, Nat.le_of_ble_eq_true rfl⟩) (zob_s ew4) kc_11 rfl (Nat.le_of_ble_eq_true rfl) ⟨Nat.le_of_ble_eq_true rfl, Nat.le_of_ble_eq_true rfl⟩ ?_
    refine z_aload_n X dd_PQ_feed_21 rfl 0 rfl ?_
    refine z_iload_n X dd_PQ_feed_22 rfl 2 rfl ?_
    obtain ⟨w6, ew6, h⟩ := zb h
    obtain ⟨q5, eq5, h⟩ := zb h
    refine z_callVv X [.int a2] rfl dd_PQ_feed_23 (c_PQ_append l eq5) (cwV 1 X.1.2.2.2.2 (zg_V km_727 km_729 km_0 km_125 km_730) rfl rfl rfl (by decide +kernel) ⟨Nat.le_of_ble_eq_true rfl, Nat.le_of_ble_eq_true rfl⟩) (zob_s ew6) kc_11 rfl (Nat.le_of_ble_eq_true rfl) ⟨Nat.le_of_ble_eq_true rfl, Nat.le_of_ble_eq_true rfl⟩ ?_
    refine z_aload_n X dd_PQ_feed_26 rfl 0 rfl ?_
    refine z_iload_n X dd_PQ_feed_27 rfl 3 rfl ?_
    obtain ⟨w8, ew8, h⟩ := zb h
    obtain ⟨q7, eq7, h⟩ := zb h
    refine z_callVv X [.int a3] rfl dd_PQ_feed_28 (c_PQ_append l eq7) (cwV 1 X.1.2.2.2.2 (zg_V km_727 km_729 km_0 km_125 km_730) rfl rfl rfl (by decide +kernel) ⟨Nat.le_of_ble_eq_true rfl, Nat.le_of_ble_eq_true rfl⟩) (zob_s ew8) kc_11 rfl (Nat.le_of_ble_eq_true rfl) ⟨Nat.le_of_ble_eq_true rfl, Nat.le_of_ble_eq_true rfl⟩ ?_
    refine z_aload_n X dd_PQ_feed_31 rfl 0 rfl ?_
    refine z_iload X dd_PQ_feed_32 4 rfl ?_
    obtain ⟨w10, ew10, h⟩ := zb h
    obtain ⟨q9, eq9, h⟩ := zb h
    refine z_callVv X [.int a4] rfl dd_PQ_feed_34 (c_PQ_append l eq9) (cwV 1 X.1.2.2.2.2 (zg_V km_727 km_729 km_0 km_125 km_730) rfl rfl rfl (by decide +kernel) ⟨Nat.le_of_ble_eq_true rfl, Nat.le_of_ble_eq_true rfl⟩) (zob_s ew10) kc_11 rfl (Nat.le_of_ble_eq_true rfl) ⟨Nat.le_of_ble_eq_true rfl, Nat.le_of_ble_eq_true rfl⟩ ?_
    refine z_aload_n X dd_PQ_feed_37 rfl 0 rfl ?_
    refine z_iload X dd_PQ_feed_38 5 rfl ?_
    obtain ⟨w12, ew12, h⟩ := zb h
    obtain ⟨q11, eq11, h⟩ := zb h
    refine z_callVv X [.int a5] rfl dd_PQ_feed_40 (c_PQ_append l eq11) (cwV 1 X.1.2.2.2.2 (zg_V km_727 km_729 km_0 km_125 km_730) rfl rfl rfl (by decide +kernel) ⟨Nat.le_of_ble_eq_true rfl, Nat.le_of_ble_eq_true rfl⟩) (zob_s ew12) kc_11 rfl (Nat.le_of_ble_eq_true rfl) ⟨Nat.le_of_ble_eq_true rfl, Nat.le_of_ble_eq_true rfl⟩ ?_
    refine z_aload_n X dd_PQ_feed_43 rfl 0 rfl ?_
    obtain ⟨v13, ev13, h⟩ := zb h
    refine z_get (j := 10) X dd_PQ_feed_44 kc_11 ki_11 (by decide) km_699 (zgi_v ev13) ?_
    obtain rfl := Option.some.inj h
    exact z_iret X H.1 H.2.1 H.2.2.1 dd_PQ_feed_47
  · rw [if_neg q2] at h
    refine z_bipush (v := (-3)) X dd_PQ_feed_13 (by decide) ?_
    obtain rfl := Option.some.inj h
    exact z_iret X H.1 H.2.1 H.2.2.1 dd_PQ_feed_15
theorem dd_PQ_cut_0 : decode bb_PQ_cut 0 = .ok (.iload_n 1, 1) := by decide +kernel
theorem dd_PQ_cut_1 : decode bb_PQ_cut 1 = .ok (.ifCond .lt 11, 3) := by decide +kernel
theorem dd_PQ_cut_4 : decode bb_PQ_cut 4 = .ok (.iload_n 1, 1) := by decide +kernel
theorem dd_PQ_cut_5 : decode bb_PQ_cut 5 = .ok (.aload_n 0, 1) := by decide +kernel
theorem dd_PQ_cut_6 : decode bb_PQ_cut 6 = .ok (.getfield 77, 3) := by decide +kernel
theorem dd_PQ_cut_9 : decode bb_PQ_cut 9 = .ok (.if_icmp .le 5, 3) := by decide +kernel
theorem dd_PQ_cut_12 : decode bb_PQ_cut 12 = .ok (.iconst (-1), 1) := by decide +kernel
theorem dd_PQ_cut_13 : decode bb_PQ_cut 13 = .ok (.ireturn, 1) := by decide +kernel
theorem dd_PQ_cut_14 : decode bb_PQ_cut 14 = .ok (.aload_n 0, 1) := by decide +kernel
theorem dd_PQ_cut_15 : decode bb_PQ_cut 15 = .ok (.dup, 1) := by decide +kernel
theorem dd_PQ_cut_16 : decode bb_PQ_cut 16 = .ok (.getfield 77, 3) := by decide +kernel
theorem dd_PQ_cut_19 : decode bb_PQ_cut 19 = .ok (.iload_n 1, 1) := by decide +kernel
theorem dd_PQ_cut_20 : decode bb_PQ_cut 20 = .ok (.isub, 1) := by decide +kernel
theorem dd_PQ_cut_21 : decode bb_PQ_cut 21 = .ok (.putfield 77, 3) := by decide +kernel
theorem dd_PQ_cut_24 : decode bb_PQ_cut 24 = .ok (.aload_n 0, 1) := by decide +kernel
theorem dd_PQ_cut_25 : decode bb_PQ_cut 25 = .ok (.getfield 77, 3) := by decide +kernel
theorem dd_PQ_cut_28 : decode bb_PQ_cut 28 = .ok (.ireturn, 1) := by decide +kernel
set_option maxRecDepth 100000 in
set_option maxHeartbeats 4000000 in
theorem t_PQ_cut_12  (X : zX p s m args cd D cid B bb_PQ_cut 2 rr_PQ zT) (H : zH s meth B n0 (some (.int)) "cut") {nf : Nat}  {c : Zc} {res : Int32 × Zc} (h : f_PQ_cut_12 nf  c = some res) : Zz p l e (zRm 0 0 0 0) s m args below meth cd (MQ below (zQi D cid B res.1 res.2 n0 0) args s 0 0 (fun q => B ≤ q)) D cid B 2 0 0 c 12 [] [] := by
  unfold f_PQ_cut_12 at h
  refine z_iconst (v := (-1)) X dd_PQ_cut_12 (by decide) ?_
  obtain rfl := Option.some.inj h
  exact z_iret X H.1 H.2.1 H.2.2.1 dd_PQ_cut_13
set_option maxRecDepth 100000 in
set_option maxHeartbeats 4000000 in
theorem c_PQ_cut (l : Launch) {nf : Nat} {a0 : Nat} {a1 : Int32} {c : Zc} {res : Int32 × Zc} (h : f_PQ_cut nf a0 a1 c = some res) : zM l yy_PQ_cut ww_PQ_cut 0 0 0 0 [.ref a0, .int a1] c (fun D cid B => zQi D cid B res.1 res.2 c.length 0) := by
  refine z_met (cc := bb_PQ_cut) (maxL := 2) (ret := (some (.int))) (by decide +kernel) rfl (Nat.le_of_ble_eq_true rfl) ?_
  intro p e s m args below meth cd D cid B X h1 h2 h3 h4
  have X : zX p s m args cd D cid B bb_PQ_cut 2 rr_PQ zT := X
  have H : zH s meth B c.length (some (.int)) "cut" := ⟨h1, h2, h4, h3⟩
  unfold f_PQ_cut at h
  show Zz p l e (zRm 0 0 0 0) s m args below meth cd _ D cid B 2 0 0 c 0 [(0, .ref a0), (1, .int a1)] []
  refine z_iload_n X dd_PQ_cut_0 rfl 1 rfl ?_
  refine z_if_lt (tgt := 12) X dd_PQ_cut_1 (by decide) (fun q1 => ?_) (fun q1 => ?_)
  · rw [if_pos q1] at h
    refine z_sub [] rfl ?_
    exact t_PQ_cut_12 X H h
  · rw [if_neg q1] at h
    refine z_iload_n X dd_PQ_cut_4 rfl 1 rfl ?_
    refine z_aload_n X dd_PQ_cut_5 rfl 0 rfl ?_
    obtain ⟨v2, ev2, h⟩ := zb h
    refine z_get (j := 10) X dd_PQ_cut_6 kc_11 ki_11 (by decide) km_699 (zgi_v ev2) ?_
    refine z_icmp_le (tgt := 14) X dd_PQ_cut_9 (by decide) (fun q3 => ?_) (fun q3 => ?_)
    · rw [if_pos q3] at h
      refine z_aload_n X dd_PQ_cut_14 rfl 0 rfl ?_
      refine z_dup X dd_PQ_cut_15 rfl ?_
      obtain ⟨v4, ev4, h⟩ := zb h
      refine z_get (j := 10) X dd_PQ_cut_16 kc_11 ki_11 (by decide) km_699 (zgi_v ev4) ?_
      refine z_iload_n X dd_PQ_cut_19 rfl 1 rfl ?_
      refine z_isub X dd_PQ_cut_20 ?_
      obtain ⟨c5, ec5, h⟩ := zb h
      refine z_put (j := 10) X dd_PQ_cut_21 kc_11 ki_11 tt_PQ tk_PQ nn_PQ (by decide) km_699 rfl (tk_PQ 10 (by decide)) rfl rfl ec5 ?_
      refine z_aload_n X dd_PQ_cut_24 rfl 0 rfl ?_
      obtain ⟨v6, ev6, h⟩ := zb h
      refine z_get (j := 10) X dd_PQ_cut_25 kc_11 ki_11 (by decide) km_699 (zgi_v ev6) ?_
      obtain rfl := Option.some.inj h
      exact z_iret X H.1 H.2.1 H.2.2.1 dd_PQ_cut_28
    · rw [if_neg q3] at h
      refine z_sub [] rfl ?_
      exact t_PQ_cut_12 X H h
theorem dd_PQ_node_0 : decode bb_PQ_node 0 = .ok (.iload_n 1, 1) := by decide +kernel
theorem dd_PQ_node_1 : decode bb_PQ_node 1 = .ok (.ifCond .lt 10, 3) := by decide +kernel
theorem dd_PQ_node_4 : decode bb_PQ_node 4 = .ok (.iload_n 1, 1) := by decide +kernel
theorem dd_PQ_node_5 : decode bb_PQ_node 5 = .ok (.sipush 256, 3) := by decide +kernel
theorem dd_PQ_node_8 : decode bb_PQ_node 8 = .ok (.if_icmp .lt 5, 3) := by decide +kernel
theorem dd_PQ_node_11 : decode bb_PQ_node 11 = .ok (.iconst (-1), 1) := by decide +kernel
theorem dd_PQ_node_12 : decode bb_PQ_node 12 = .ok (.ireturn, 1) := by decide +kernel
theorem dd_PQ_node_13 : decode bb_PQ_node 13 = .ok (.aload_n 0, 1) := by decide +kernel
theorem dd_PQ_node_14 : decode bb_PQ_node 14 = .ok (.getfield 16, 3) := by decide +kernel
theorem dd_PQ_node_17 : decode bb_PQ_node 17 = .ok (.iload_n 1, 1) := by decide +kernel
theorem dd_PQ_node_18 : decode bb_PQ_node 18 = .ok (.invokevirtual 86, 3) := by decide +kernel
theorem dd_PQ_node_21 : decode bb_PQ_node 21 = .ok (.ireturn, 1) := by decide +kernel
set_option maxRecDepth 100000 in
set_option maxHeartbeats 4000000 in
theorem t_PQ_node_11  (X : zX p s m args cd D cid B bb_PQ_node 2 rr_PQ zT) (H : zH s meth B n0 (some (.int)) "node") {nf : Nat}  {c : Zc} {res : Int32 × Zc} (h : f_PQ_node_11 nf  c = some res) : Zz p l e (zRm 1 21 0 0) s m args below meth cd (MQ below (zQi D cid B res.1 res.2 n0 0) args s 0 0 (fun q => B ≤ q)) D cid B 2 0 0 c 11 [] [] := by
  unfold f_PQ_node_11 at h
  refine z_iconst (v := (-1)) X dd_PQ_node_11 (by decide) ?_
  obtain rfl := Option.some.inj h
  exact z_iret X H.1 H.2.1 H.2.2.1 dd_PQ_node_12
set_option maxRecDepth 100000 in
set_option maxHeartbeats 4000000 in
theorem c_PQ_node (l : Launch) {nf : Nat} {a0 : Nat} {a1 : Int32} {c : Zc} {res : Int32 × Zc} (h : f_PQ_node nf a0 a1 c = some res) : zM l yy_PQ_node ww_PQ_node 1 21 0 0 [.ref a0, .int a1] c (fun D cid B => zQi D cid B res.1 res.2 c.length 0) := by
  refine z_met (cc := bb_PQ_node) (maxL := 2) (ret := (some (.int))) (by decide +kernel) rfl (Nat.le_of_ble_eq_true rfl) ?_
  intro p e s m args below meth cd D cid B X h1 h2 h3 h4
  have X : zX p s m args cd D cid B bb_PQ_node 2 rr_PQ zT := X
  have H : zH s meth B c.length (some (.int)) "node" := ⟨h1, h2, h4, h3⟩
  unfold f_PQ_node at h
  show Zz p l e (zRm 1 21 0 0) s m args below meth cd _ D cid B 2 0 0 c 0 [(0, .ref a0), (1, .int a1)] []
  refine z_iload_n X dd_PQ_node_0 rfl 1 rfl ?_
  refine z_if_lt (tgt := 11) X dd_PQ_node_1 (by decide) (fun q1 => ?_) (fun q1 => ?_)
  · rw [if_pos q1] at h
    refine z_sub [] rfl ?_
    exact t_PQ_node_11 X H h
  · rw [if_neg q1] at h
    refine z_iload_n X dd_PQ_node_4 rfl 1 rfl ?_
    refine z_sipush (v := 256) X dd_PQ_node_5 (by decide) ?_
    refine z_icmp_lt (tgt := 13) X dd_PQ_node_8 (by decide) (fun q2 => ?_) (fun q2 => ?_)
    · rw [if_pos q2] at h
      refine z_aload_n X dd_PQ_node_13 rfl 0 rfl ?_
      obtain ⟨v3, ev3, h⟩ := zb h
      refine z_get (j := 1) X dd_PQ_node_14 kc_11 ki_11 (by decide) km_690 (zgr_v ev3) ?_
      refine z_iload_n X dd_PQ_node_17 rfl 1 rfl ?_
      obtain ⟨w5, ew5, h⟩ := zb h
      obtain ⟨q4, eq4, h⟩ := zb h
      refine z_callVi X [.int a1] rfl dd_PQ_node_18 (c_Graph_addNode l eq4) (cwV 1 X.1.2.2.2.2 (zg_V km_739 km_740 km_741 km_126 km_742) rfl rfl rfl (by decide +kernel) ⟨Nat.le_of_ble_eq_true rfl, Nat.le_of_ble_eq_true rfl⟩) (zob_s ew5) kc_0 rfl (Nat.le_of_ble_eq_true rfl) ⟨Nat.le_of_ble_eq_true rfl, Nat.le_of_ble_eq_true rfl⟩ ?_
      obtain rfl := Option.some.inj h
      exact z_iret X H.1 H.2.1 H.2.2.1 dd_PQ_node_21
    · rw [if_neg q2] at h
      refine z_sub [] rfl ?_
      exact t_PQ_node_11 X H h
theorem dd_PQ_mark_0 : decode bb_PQ_mark 0 = .ok (.aload_n 0, 1) := by decide +kernel
theorem dd_PQ_mark_1 : decode bb_PQ_mark 1 = .ok (.getfield 16, 3) := by decide +kernel
theorem dd_PQ_mark_4 : decode bb_PQ_mark 4 = .ok (.iload_n 1, 1) := by decide +kernel
theorem dd_PQ_mark_5 : decode bb_PQ_mark 5 = .ok (.invokevirtual 90, 3) := by decide +kernel
theorem dd_PQ_mark_8 : decode bb_PQ_mark 8 = .ok (.ifCond .eq 14, 3) := by decide +kernel
theorem dd_PQ_mark_11 : decode bb_PQ_mark 11 = .ok (.iload_n 2, 1) := by decide +kernel
theorem dd_PQ_mark_12 : decode bb_PQ_mark 12 = .ok (.ifCond .lt 10, 3) := by decide +kernel
theorem dd_PQ_mark_15 : decode bb_PQ_mark 15 = .ok (.iload_n 2, 1) := by decide +kernel
theorem dd_PQ_mark_16 : decode bb_PQ_mark 16 = .ok (.sipush 256, 3) := by decide +kernel
theorem dd_PQ_mark_19 : decode bb_PQ_mark 19 = .ok (.if_icmp .lt 5, 3) := by decide +kernel
theorem dd_PQ_mark_22 : decode bb_PQ_mark 22 = .ok (.iconst (-1), 1) := by decide +kernel
theorem dd_PQ_mark_23 : decode bb_PQ_mark 23 = .ok (.ireturn, 1) := by decide +kernel
theorem dd_PQ_mark_24 : decode bb_PQ_mark 24 = .ok (.aload_n 0, 1) := by decide +kernel
theorem dd_PQ_mark_25 : decode bb_PQ_mark 25 = .ok (.getfield 16, 3) := by decide +kernel
theorem dd_PQ_mark_28 : decode bb_PQ_mark 28 = .ok (.iload_n 1, 1) := by decide +kernel
theorem dd_PQ_mark_29 : decode bb_PQ_mark 29 = .ok (.iload_n 2, 1) := by decide +kernel
theorem dd_PQ_mark_30 : decode bb_PQ_mark 30 = .ok (.invokevirtual 94, 3) := by decide +kernel
theorem dd_PQ_mark_33 : decode bb_PQ_mark 33 = .ok (.ireturn, 1) := by decide +kernel
set_option maxRecDepth 100000 in
set_option maxHeartbeats 4000000 in
theorem t_PQ_mark_22  (X : zX p s m args cd D cid B bb_PQ_mark 3 rr_PQ zT) (H : zH s meth B n0 (some (.int)) "mark") {nf : Nat}  {c : Zc} {res : Int32 × Zc} (h : f_PQ_mark_22 nf  c = some res) : Zz p l e (zRm 1 23 0 0) s m args below meth cd (MQ below (zQi D cid B res.1 res.2 n0 0) args s 0 0 (fun q => B ≤ q)) D cid B 3 0 0 c 22 [] [] := by
  unfold f_PQ_mark_22 at h
  refine z_iconst (v := (-1)) X dd_PQ_mark_22 (by decide) ?_
  obtain rfl := Option.some.inj h
  exact z_iret X H.1 H.2.1 H.2.2.1 dd_PQ_mark_23
set_option maxRecDepth 100000 in
set_option maxHeartbeats 4000000 in
theorem c_PQ_mark (l : Launch) {nf : Nat} {a0 : Nat} {a1 : Int32} {a2 : Int32} {c : Zc} {res : Int32 × Zc} (h : f_PQ_mark nf a0 a1 a2 c = some res) : zM l yy_PQ_mark ww_PQ_mark 1 23 0 0 [.ref a0, .int a1, .int a2] c (fun D cid B => zQi D cid B res.1 res.2 c.length 0) := by
  refine z_met (cc := bb_PQ_mark) (maxL := 3) (ret := (some (.int))) (by decide +kernel) rfl (Nat.le_of_ble_eq_true rfl) ?_
  intro p e s m args below meth cd D cid B X h1 h2 h3 h4
  have X : zX p s m args cd D cid B bb_PQ_mark 3 rr_PQ zT := X
  have H : zH s meth B c.length (some (.int)) "mark" := ⟨h1, h2, h4, h3⟩
  unfold f_PQ_mark at h
  show Zz p l e (zRm 1 23 0 0) s m args below meth cd _ D cid B 3 0 0 c 0 [(0, .ref a0), (1, .int a1), (2, .int a2)] []
  refine z_aload_n X dd_PQ_mark_0 rfl 0 rfl ?_
  obtain ⟨v1, ev1, h⟩ := zb h
  refine z_get (j := 1) X dd_PQ_mark_1 kc_11 ki_11 (by decide) km_690 (zgr_v ev1) ?_
  refine z_iload_n X dd_PQ_mark_4 rfl 1 rfl ?_
  obtain ⟨w3, ew3, h⟩ := zb h
  obtain ⟨q2, eq2, h⟩ := zb h
  refine z_callVi X [.int a1] rfl dd_PQ_mark_5 (c_Graph_isNode l eq2) (cwV 1 X.1.2.2.2.2 (zg_V km_747 km_748 km_749 km_126 km_750) rfl rfl rfl (by decide +kernel) ⟨Nat.le_of_ble_eq_true rfl, Nat.le_of_ble_eq_true rfl⟩) (zob_s ew3) kc_0 rfl (Nat.le_of_ble_eq_true rfl) ⟨Nat.le_of_ble_eq_true rfl, Nat.le_of_ble_eq_true rfl⟩ ?_
  refine z_if_eq (tgt := 22) X dd_PQ_mark_8 (by decide) (fun q4 => ?_) (fun q4 => ?_)
  · rw [if_pos q4] at h
    refine z_sub [] rfl ?_
    exact t_PQ_mark_22 X H h
  · rw [if_neg q4] at h
    refine z_iload_n X dd_PQ_mark_11 rfl 2 rfl ?_
    refine z_if_lt (tgt := 22) X dd_PQ_mark_12 (by decide) (fun q5 => ?_) (fun q5 => ?_)
    · rw [if_pos q5] at h
      refine z_sub [] rfl ?_
      exact t_PQ_mark_22 X H h
    · rw [if_neg q5] at h
      refine z_iload_n X dd_PQ_mark_15 rfl 2 rfl ?_
      refine z_sipush (v := 256) X dd_PQ_mark_16 (by decide) ?_
      refine z_icmp_lt (tgt := 24) X dd_PQ_mark_19 (by decide) (fun q6 => ?_) (fun q6 => ?_)
      · rw [if_pos q6] at h
        refine z_aload_n X dd_PQ_mark_24 rfl 0 rfl ?_
        obtain ⟨v7, ev7, h⟩ := zb h
        refine z_get (j := 1) X dd_PQ_mark_25 kc_11 ki_11 (by decide) km_690 (zgr_v ev7) ?_
        refine z_iload_n X dd_PQ_mark_28 rfl 1 rfl ?_
        refine z_iload_n X dd_PQ_mark_29 rfl 2 rfl ?_
        obtain ⟨w9, ew9, h⟩ := zb h
        obtain ⟨q8, eq8, h⟩ := zb h
        refine z_callVi X [.int a1, .int a2] rfl dd_PQ_mark_30 (c_Graph_changeMarks l eq8) (cwV 2 X.1.2.2.2.2 (zg_V km_751 km_752 km_753 km_126 km_754) rfl rfl rfl (by decide +kernel) ⟨Nat.le_of_ble_eq_true rfl, Nat.le_of_ble_eq_true rfl⟩) (zob_s ew9) kc_0 rfl (Nat.le_of_ble_eq_true rfl) ⟨Nat.le_of_ble_eq_true rfl, Nat.le_of_ble_eq_true rfl⟩ ?_
        obtain rfl := Option.some.inj h
        exact z_iret X H.1 H.2.1 H.2.2.1 dd_PQ_mark_33
      · rw [if_neg q6] at h
        refine z_sub [] rfl ?_
        exact t_PQ_mark_22 X H h
theorem dd_PQ_put_0 : decode bb_PQ_put 0 = .ok (.aload_n 0, 1) := by decide +kernel
theorem dd_PQ_put_1 : decode bb_PQ_put 1 = .ok (.getfield 16, 3) := by decide +kernel
theorem dd_PQ_put_4 : decode bb_PQ_put 4 = .ok (.iload_n 1, 1) := by decide +kernel
theorem dd_PQ_put_5 : decode bb_PQ_put 5 = .ok (.invokevirtual 90, 3) := by decide +kernel
theorem dd_PQ_put_8 : decode bb_PQ_put 8 = .ok (.ifCond .eq 16, 3) := by decide +kernel
theorem dd_PQ_put_11 : decode bb_PQ_put 11 = .ok (.iload_n 2, 1) := by decide +kernel
theorem dd_PQ_put_12 : decode bb_PQ_put 12 = .ok (.ifCond .lt 12, 3) := by decide +kernel
theorem dd_PQ_put_15 : decode bb_PQ_put 15 = .ok (.iload_n 2, 1) := by decide +kernel
theorem dd_PQ_put_16 : decode bb_PQ_put 16 = .ok (.iconst 4, 1) := by decide +kernel
theorem dd_PQ_put_17 : decode bb_PQ_put 17 = .ok (.if_icmp .ge 7, 3) := by decide +kernel
theorem dd_PQ_put_20 : decode bb_PQ_put 20 = .ok (.iconst 1, 1) := by decide +kernel
theorem dd_PQ_put_21 : decode bb_PQ_put 21 = .ok (.goto 4, 3) := by decide +kernel
theorem dd_PQ_put_24 : decode bb_PQ_put 24 = .ok (.iconst 0, 1) := by decide +kernel
theorem dd_PQ_put_25 : decode bb_PQ_put 25 = .ok (.istore 4, 2) := by decide +kernel
theorem dd_PQ_put_27 : decode bb_PQ_put 27 = .ok (.iload 4, 2) := by decide +kernel
theorem dd_PQ_put_29 : decode bb_PQ_put 29 = .ok (.ifCond .eq 17, 3) := by decide +kernel
theorem dd_PQ_put_32 : decode bb_PQ_put 32 = .ok (.iload_n 3, 1) := by decide +kernel
theorem dd_PQ_put_33 : decode bb_PQ_put 33 = .ok (.sipush (-9999), 3) := by decide +kernel
theorem dd_PQ_put_36 : decode bb_PQ_put 36 = .ok (.if_icmp .lt 10, 3) := by decide +kernel
theorem dd_PQ_put_39 : decode bb_PQ_put 39 = .ok (.iload_n 3, 1) := by decide +kernel
theorem dd_PQ_put_40 : decode bb_PQ_put 40 = .ok (.sipush 9999, 3) := by decide +kernel
theorem dd_PQ_put_43 : decode bb_PQ_put 43 = .ok (.if_icmp .le 7, 3) := by decide +kernel
theorem dd_PQ_put_46 : decode bb_PQ_put 46 = .ok (.sipush 10000, 3) := by decide +kernel
theorem dd_PQ_put_49 : decode bb_PQ_put 49 = .ok (.ireturn, 1) := by decide +kernel
theorem dd_PQ_put_50 : decode bb_PQ_put 50 = .ok (.aload_n 0, 1) := by decide +kernel
theorem dd_PQ_put_51 : decode bb_PQ_put 51 = .ok (.getfield 16, 3) := by decide +kernel
theorem dd_PQ_put_54 : decode bb_PQ_put 54 = .ok (.iload_n 1, 1) := by decide +kernel
theorem dd_PQ_put_55 : decode bb_PQ_put 55 = .ok (.iload_n 2, 1) := by decide +kernel
theorem dd_PQ_put_56 : decode bb_PQ_put 56 = .ok (.iload_n 3, 1) := by decide +kernel
theorem dd_PQ_put_57 : decode bb_PQ_put 57 = .ok (.invokevirtual 98, 3) := by decide +kernel
theorem dd_PQ_put_60 : decode bb_PQ_put 60 = .ok (.ireturn, 1) := by decide +kernel
set_option maxRecDepth 100000 in
set_option maxHeartbeats 4000000 in
theorem t_PQ_put_46  (X : zX p s m args cd D cid B bb_PQ_put 5 rr_PQ zT) (H : zH s meth B n0 (some (.int)) "put") {nf : Nat}  {c : Zc} {res : Int32 × Zc} (h : f_PQ_put_46 nf  c = some res) : Zz p l e (zRm 1 24 0 0) s m args below meth cd (MQ below (zQi D cid B res.1 res.2 n0 0) args s 0 0 (fun q => B ≤ q)) D cid B 5 0 0 c 46 [] [] := by
  unfold f_PQ_put_46 at h
  refine z_sipush (v := 10000) X dd_PQ_put_46 (by decide) ?_
  obtain rfl := Option.some.inj h
  exact z_iret X H.1 H.2.1 H.2.2.1 dd_PQ_put_49
set_option maxRecDepth 100000 in
set_option maxHeartbeats 4000000 in
theorem t_PQ_put_25  (X : zX p s m args cd D cid B bb_PQ_put 5 rr_PQ zT) (H : zH s meth B n0 (some (.int)) "put") {nf : Nat} {x0 : Nat} {x1 : Int32} {x2 : Int32} {x3 : Int32} {s0 : Int32} {c : Zc} {res : Int32 × Zc} (h : f_PQ_put_25 nf x0 x1 x2 x3 s0 c = some res) : Zz p l e (zRm 1 24 0 0) s m args below meth cd (MQ below (zQi D cid B res.1 res.2 n0 0) args s 0 0 (fun q => B ≤ q)) D cid B 5 0 0 c 25 [(0, .ref x0), (1, .int x1), (2, .int x2), (3, .int x3)] [.int s0] := by
  unfold f_PQ_put_25 at h
  refine z_istore (lv' := [(4, .int s0), (0, .ref x0), (1, .int x1), (2, .int x2), (3, .int x3)]) X dd_PQ_put_25 (by decide) rfl ?_
  refine z_iload X dd_PQ_put_27 0 rfl ?_
  refine z_if_eq (tgt := 46) X dd_PQ_put_29 (by decide) (fun q5 => ?_) (fun q5 => ?_)
  · rw [if_pos q5] at h
    refine z_sub [] rfl ?_
    exact t_PQ_put_46 X H h
  · rw [if_neg q5] at h
    refine z_iload_n X dd_PQ_put_32 rfl 4 rfl ?_
    refine z_sipush (v := (-9999)) X dd_PQ_put_33 (by decide) ?_
    refine z_icmp_lt (tgt := 46) X dd_PQ_put_36 (by decide) (fun q6 => ?_) (fun q6 => ?_)
    · rw [if_pos q6] at h
      refine z_sub [] rfl ?_
      exact t_PQ_put_46 X H h
    · rw [if_neg q6] at h
      refine z_iload_n X dd_PQ_put_39 rfl 4 rfl ?_
      refine z_sipush (v := 9999) X dd_PQ_put_40 (by decide) ?_
      refine z_icmp_le (tgt := 50) X dd_PQ_put_43 (by decide) (fun q7 => ?_) (fun q7 => ?_)
      · rw [if_pos q7] at h
        refine z_aload_n X dd_PQ_put_50 rfl 1 rfl ?_
        obtain ⟨v8, ev8, h⟩ := zb h
        refine z_get (j := 1) X dd_PQ_put_51 kc_11 ki_11 (by decide) km_690 (zgr_v ev8) ?_
        refine z_iload_n X dd_PQ_put_54 rfl 2 rfl ?_
        refine z_iload_n X dd_PQ_put_55 rfl 3 rfl ?_
        refine z_iload_n X dd_PQ_put_56 rfl 4 rfl ?_
        obtain ⟨w10, ew10, h⟩ := zb h
        obtain ⟨q9, eq9, h⟩ := zb h
        refine z_callVi X [.int x1, .int x2, .int x3] rfl dd_PQ_put_57 (c_Graph_changeColumn l eq9) (cwV 3 X.1.2.2.2.2 (zg_V km_759 km_760 km_761 km_126 km_762) rfl rfl rfl (by decide +kernel) ⟨Nat.le_of_ble_eq_true rfl, Nat.le_of_ble_eq_true rfl⟩) (zob_s ew10) kc_0 rfl (Nat.le_of_ble_eq_true rfl) ⟨Nat.le_of_ble_eq_true rfl, Nat.le_of_ble_eq_true rfl⟩ ?_
        obtain rfl := Option.some.inj h
        exact z_iret X H.1 H.2.1 H.2.2.1 dd_PQ_put_60
      · rw [if_neg q7] at h
        refine z_sub [] rfl ?_
        exact t_PQ_put_46 X H h
set_option maxRecDepth 100000 in
set_option maxHeartbeats 4000000 in
theorem t_PQ_put_24  (X : zX p s m args cd D cid B bb_PQ_put 5 rr_PQ zT) (H : zH s meth B n0 (some (.int)) "put") {nf : Nat} {x0 : Nat} {x1 : Int32} {x2 : Int32} {x3 : Int32} {c : Zc} {res : Int32 × Zc} (h : f_PQ_put_24 nf x0 x1 x2 x3 c = some res) : Zz p l e (zRm 1 24 0 0) s m args below meth cd (MQ below (zQi D cid B res.1 res.2 n0 0) args s 0 0 (fun q => B ≤ q)) D cid B 5 0 0 c 24 [(0, .ref x0), (1, .int x1), (2, .int x2), (3, .int x3)] [] := by
  unfold f_PQ_put_24 at h
  refine z_iconst (v := 0) X dd_PQ_put_24 (by decide) ?_
  exact t_PQ_put_25 X H h
set_option maxRecDepth 100000 in
set_option maxHeartbeats 4000000 in
theorem c_PQ_put (l : Launch) {nf : Nat} {a0 : Nat} {a1 : Int32} {a2 : Int32} {a3 : Int32} {c : Zc} {res : Int32 × Zc} (h : f_PQ_put nf a0 a1 a2 a3 c = some res) : zM l yy_PQ_put ww_PQ_put 1 24 0 0 [.ref a0, .int a1, .int a2, .int a3] c (fun D cid B => zQi D cid B res.1 res.2 c.length 0) := by
  refine z_met (cc := bb_PQ_put) (maxL := 5) (ret := (some (.int))) (by decide +kernel) rfl (Nat.le_of_ble_eq_true rfl) ?_
  intro p e s m args below meth cd D cid B X h1 h2 h3 h4
  have X : zX p s m args cd D cid B bb_PQ_put 5 rr_PQ zT := X
  have H : zH s meth B c.length (some (.int)) "put" := ⟨h1, h2, h4, h3⟩
  unfold f_PQ_put at h
  show Zz p l e (zRm 1 24 0 0) s m args below meth cd _ D cid B 5 0 0 c 0 [(0, .ref a0), (1, .int a1), (2, .int a2), (3, .int a3)] []
  refine z_aload_n X dd_PQ_put_0 rfl 0 rfl ?_
  obtain ⟨v1, ev1, h⟩ := zb h
  refine z_get (j := 1) X dd_PQ_put_1 kc_11 ki_11 (by decide) km_690 (zgr_v ev1) ?_
  refine z_iload_n X dd_PQ_put_4 rfl 1 rfl ?_
  obtain ⟨w3, ew3, h⟩ := zb h
  obtain ⟨q2, eq2, h⟩ := zb h
  refine z_callVi X [.int a1] rfl dd_PQ_put_5 (c_Graph_isNode l eq2) (cwV 1 X.1.2.2.2.2 (zg_V km_747 km_748 km_749 km_126 km_750) rfl rfl rfl (by decide +kernel) ⟨Nat.le_of_ble_eq_true rfl, Nat.le_of_ble_eq_true rfl⟩) (zob_s ew3) kc_0 rfl (Nat.le_of_ble_eq_true rfl) ⟨Nat.le_of_ble_eq_true rfl, Nat.le_of_ble_eq_true rfl⟩ ?_
  refine z_if_eq (tgt := 24) X dd_PQ_put_8 (by decide) (fun q4 => ?_) (fun q4 => ?_)
  · rw [if_pos q4] at h
    exact t_PQ_put_24 X H h
  · rw [if_neg q4] at h
    refine z_iload_n X dd_PQ_put_11 rfl 2 rfl ?_
    refine z_if_lt (tgt := 24) X dd_PQ_put_12 (by decide) (fun q11 => ?_) (fun q11 => ?_)
    · rw [if_pos q11] at h
      exact t_PQ_put_24 X H h
    · rw [if_neg q11] at h
      refine z_iload_n X dd_PQ_put_15 rfl 2 rfl ?_
      refine z_iconst (v := 4) X dd_PQ_put_16 (by decide) ?_
      refine z_icmp_ge (tgt := 24) X dd_PQ_put_17 (by decide) (fun q12 => ?_) (fun q12 => ?_)
      · rw [if_pos q12] at h
        exact t_PQ_put_24 X H h
      · rw [if_neg q12] at h
        refine z_iconst (v := 1) X dd_PQ_put_20 (by decide) ?_
        refine z_goto (tgt := 25) X dd_PQ_put_21 (by decide) ?_
        exact t_PQ_put_25 X H h
theorem dd_PQ_arc_0 : decode bb_PQ_arc 0 = .ok (.aload_n 0, 1) := by decide +kernel
theorem dd_PQ_arc_1 : decode bb_PQ_arc 1 = .ok (.getfield 16, 3) := by decide +kernel
theorem dd_PQ_arc_4 : decode bb_PQ_arc 4 = .ok (.iload_n 1, 1) := by decide +kernel
theorem dd_PQ_arc_5 : decode bb_PQ_arc 5 = .ok (.invokevirtual 90, 3) := by decide +kernel
theorem dd_PQ_arc_8 : decode bb_PQ_arc 8 = .ok (.ifCond .eq 28, 3) := by decide +kernel
theorem dd_PQ_arc_11 : decode bb_PQ_arc 11 = .ok (.aload_n 0, 1) := by decide +kernel
theorem dd_PQ_arc_12 : decode bb_PQ_arc 12 = .ok (.getfield 16, 3) := by decide +kernel
theorem dd_PQ_arc_15 : decode bb_PQ_arc 15 = .ok (.iload_n 2, 1) := by decide +kernel
theorem dd_PQ_arc_16 : decode bb_PQ_arc 16 = .ok (.invokevirtual 90, 3) := by decide +kernel
theorem dd_PQ_arc_19 : decode bb_PQ_arc 19 = .ok (.ifCond .eq 17, 3) := by decide +kernel
theorem dd_PQ_arc_22 : decode bb_PQ_arc 22 = .ok (.iload_n 3, 1) := by decide +kernel
theorem dd_PQ_arc_23 : decode bb_PQ_arc 23 = .ok (.ifCond .lt 13, 3) := by decide +kernel
theorem dd_PQ_arc_26 : decode bb_PQ_arc 26 = .ok (.iload_n 3, 1) := by decide +kernel
theorem dd_PQ_arc_27 : decode bb_PQ_arc 27 = .ok (.bipush 8, 2) := by decide +kernel
theorem dd_PQ_arc_29 : decode bb_PQ_arc 29 = .ok (.if_icmp .ge 7, 3) := by decide +kernel
theorem dd_PQ_arc_32 : decode bb_PQ_arc 32 = .ok (.iconst 1, 1) := by decide +kernel
theorem dd_PQ_arc_33 : decode bb_PQ_arc 33 = .ok (.goto 4, 3) := by decide +kernel
theorem dd_PQ_arc_36 : decode bb_PQ_arc 36 = .ok (.iconst 0, 1) := by decide +kernel
theorem dd_PQ_arc_37 : decode bb_PQ_arc 37 = .ok (.istore 5, 2) := by decide +kernel
theorem dd_PQ_arc_39 : decode bb_PQ_arc 39 = .ok (.iload 5, 2) := by decide +kernel
theorem dd_PQ_arc_41 : decode bb_PQ_arc 41 = .ok (.ifCond .eq 15, 3) := by decide +kernel
theorem dd_PQ_arc_44 : decode bb_PQ_arc 44 = .ok (.iload 4, 2) := by decide +kernel
theorem dd_PQ_arc_46 : decode bb_PQ_arc 46 = .ok (.ifCond .lt 10, 3) := by decide +kernel
theorem dd_PQ_arc_49 : decode bb_PQ_arc 49 = .ok (.iload 4, 2) := by decide +kernel
theorem dd_PQ_arc_51 : decode bb_PQ_arc 51 = .ok (.bipush 99, 2) := by decide +kernel
theorem dd_PQ_arc_53 : decode bb_PQ_arc 53 = .ok (.if_icmp .le 5, 3) := by decide +kernel
theorem dd_PQ_arc_56 : decode bb_PQ_arc 56 = .ok (.iconst (-1), 1) := by decide +kernel
theorem dd_PQ_arc_57 : decode bb_PQ_arc 57 = .ok (.ireturn, 1) := by decide +kernel
theorem dd_PQ_arc_58 : decode bb_PQ_arc 58 = .ok (.aload_n 0, 1) := by decide +kernel
theorem dd_PQ_arc_59 : decode bb_PQ_arc 59 = .ok (.getfield 16, 3) := by decide +kernel
theorem dd_PQ_arc_62 : decode bb_PQ_arc 62 = .ok (.iload_n 1, 1) := by decide +kernel
theorem dd_PQ_arc_63 : decode bb_PQ_arc 63 = .ok (.iload_n 2, 1) := by decide +kernel
theorem dd_PQ_arc_64 : decode bb_PQ_arc 64 = .ok (.iload_n 3, 1) := by decide +kernel
theorem dd_PQ_arc_65 : decode bb_PQ_arc 65 = .ok (.iload 4, 2) := by decide +kernel
theorem dd_PQ_arc_67 : decode bb_PQ_arc 67 = .ok (.invokevirtual 102, 3) := by decide +kernel
theorem dd_PQ_arc_70 : decode bb_PQ_arc 70 = .ok (.ireturn, 1) := by decide +kernel
set_option maxRecDepth 100000 in
set_option maxHeartbeats 4000000 in
theorem t_PQ_arc_56  (X : zX p s m args cd D cid B bb_PQ_arc 6 rr_PQ zT) (H : zH s meth B n0 (some (.int)) "arc") {nf : Nat}  {c : Zc} {res : Int32 × Zc} (h : f_PQ_arc_56 nf  c = some res) : Zz p l e (zRm 1 25 0 0) s m args below meth cd (MQ below (zQi D cid B res.1 res.2 n0 0) args s 0 0 (fun q => B ≤ q)) D cid B 6 0 0 c 56 [] [] := by
  unfold f_PQ_arc_56 at h
  refine z_iconst (v := (-1)) X dd_PQ_arc_56 (by decide) ?_
  obtain rfl := Option.some.inj h
  exact z_iret X H.1 H.2.1 H.2.2.1 dd_PQ_arc_57
set_option maxRecDepth 100000 in
set_option maxHeartbeats 4000000 in
theorem t_PQ_arc_37  (X : zX p s m args cd D cid B bb_PQ_arc 6 rr_PQ zT) (H : zH s meth B n0 (some (.int)) "arc") {nf : Nat} {x0 : Nat} {x1 : Int32} {x2 : Int32} {x3 : Int32} {x4 : Int32} {s0 : Int32} {c : Zc} {res : Int32 × Zc} (h : f_PQ_arc_37 nf x0 x1 x2 x3 x4 s0 c = some res) : Zz p l e (zRm 1 25 0 0) s m args below meth cd (MQ below (zQi D cid B res.1 res.2 n0 0) args s 0 0 (fun q => B ≤ q)) D cid B 6 0 0 c 37 [(0, .ref x0), (1, .int x1), (2, .int x2), (3, .int x3), (4, .int x4)] [.int s0] := by
  unfold f_PQ_arc_37 at h
  refine z_istore (lv' := [(5, .int s0), (0, .ref x0), (1, .int x1), (2, .int x2), (3, .int x3), (4, .int x4)]) X dd_PQ_arc_37 (by decide) rfl ?_
  refine z_iload X dd_PQ_arc_39 0 rfl ?_
  refine z_if_eq (tgt := 56) X dd_PQ_arc_41 (by decide) (fun q5 => ?_) (fun q5 => ?_)
  · rw [if_pos q5] at h
    refine z_sub [] rfl ?_
    exact t_PQ_arc_56 X H h
  · rw [if_neg q5] at h
    refine z_iload X dd_PQ_arc_44 5 rfl ?_
    refine z_if_lt (tgt := 56) X dd_PQ_arc_46 (by decide) (fun q6 => ?_) (fun q6 => ?_)
    · rw [if_pos q6] at h
      refine z_sub [] rfl ?_
      exact t_PQ_arc_56 X H h
    · rw [if_neg q6] at h
      refine z_iload X dd_PQ_arc_49 5 rfl ?_
      refine z_bipush (v := 99) X dd_PQ_arc_51 (by decide) ?_
      refine z_icmp_le (tgt := 58) X dd_PQ_arc_53 (by decide) (fun q7 => ?_) (fun q7 => ?_)
      · rw [if_pos q7] at h
        refine z_aload_n X dd_PQ_arc_58 rfl 1 rfl ?_
        obtain ⟨v8, ev8, h⟩ := zb h
        refine z_get (j := 1) X dd_PQ_arc_59 kc_11 ki_11 (by decide) km_690 (zgr_v ev8) ?_
        refine z_iload_n X dd_PQ_arc_62 rfl 2 rfl ?_
        refine z_iload_n X dd_PQ_arc_63 rfl 3 rfl ?_
        refine z_iload_n X dd_PQ_arc_64 rfl 4 rfl ?_
        refine z_iload X dd_PQ_arc_65 5 rfl ?_
        obtain ⟨w10, ew10, h⟩ := zb h
        obtain ⟨q9, eq9, h⟩ := zb h
        refine z_callVi X [.int x1, .int x2, .int x3, .int x4] rfl dd_PQ_arc_67 (c_Graph_addArc l eq9) (cwV 4 X.1.2.2.2.2 (zg_V km_767 km_768 km_769 km_126 km_770) rfl rfl rfl (by decide +kernel) ⟨Nat.le_of_ble_eq_true rfl, Nat.le_of_ble_eq_true rfl⟩) (zob_s ew10) kc_0 rfl (Nat.le_of_ble_eq_true rfl) ⟨Nat.le_of_ble_eq_true rfl, Nat.le_of_ble_eq_true rfl⟩ ?_
        obtain rfl := Option.some.inj h
        exact z_iret X H.1 H.2.1 H.2.2.1 dd_PQ_arc_70
      · rw [if_neg q7] at h
        refine z_sub [] rfl ?_
        exact t_PQ_arc_56 X H h
set_option maxRecDepth 100000 in
set_option maxHeartbeats 4000000 in
theorem t_PQ_arc_36  (X : zX p s m args cd D cid B bb_PQ_arc 6 rr_PQ zT) (H : zH s meth B n0 (some (.int)) "arc") {nf : Nat} {x0 : Nat} {x1 : Int32} {x2 : Int32} {x3 : Int32} {x4 : Int32} {c : Zc} {res : Int32 × Zc} (h : f_PQ_arc_36 nf x0 x1 x2 x3 x4 c = some res) : Zz p l e (zRm 1 25 0 0) s m args below meth cd (MQ below (zQi D cid B res.1 res.2 n0 0) args s 0 0 (fun q => B ≤ q)) D cid B 6 0 0 c 36 [(0, .ref x0), (1, .int x1), (2, .int x2), (3, .int x3), (4, .int x4)] [] := by
  unfold f_PQ_arc_36 at h
  refine z_iconst (v := 0) X dd_PQ_arc_36 (by decide) ?_
  exact t_PQ_arc_37 X H h
set_option maxRecDepth 100000 in
set_option maxHeartbeats 4000000 in
theorem c_PQ_arc (l : Launch) {nf : Nat} {a0 : Nat} {a1 : Int32} {a2 : Int32} {a3 : Int32} {a4 : Int32} {c : Zc} {res : Int32 × Zc} (h : f_PQ_arc nf a0 a1 a2 a3 a4 c = some res) : zM l yy_PQ_arc ww_PQ_arc 1 25 0 0 [.ref a0, .int a1, .int a2, .int a3, .int a4] c (fun D cid B => zQi D cid B res.1 res.2 c.length 0) := by
  refine z_met (cc := bb_PQ_arc) (maxL := 6) (ret := (some (.int))) (by decide +kernel) rfl (Nat.le_of_ble_eq_true rfl) ?_
  intro p e s m args below meth cd D cid B X h1 h2 h3 h4
  have X : zX p s m args cd D cid B bb_PQ_arc 6 rr_PQ zT := X
  have H : zH s meth B c.length (some (.int)) "arc" := ⟨h1, h2, h4, h3⟩
  unfold f_PQ_arc at h
  show Zz p l e (zRm 1 25 0 0) s m args below meth cd _ D cid B 6 0 0 c 0 [(0, .ref a0), (1, .int a1), (2, .int a2), (3, .int a3), (4, .int a4)] []
  refine z_aload_n X dd_PQ_arc_0 rfl 0 rfl ?_
  obtain ⟨v1, ev1, h⟩ := zb h
  refine z_get (j := 1) X dd_PQ_arc_1 kc_11 ki_11 (by decide) km_690 (zgr_v ev1) ?_
  refine z_iload_n X dd_PQ_arc_4 rfl 1 rfl ?_
  obtain ⟨w3, ew3, h⟩ := zb h
  obtain ⟨q2, eq2, h⟩ := zb h
  refine z_callVi X [.int a1] rfl dd_PQ_arc_5 (c_Graph_isNode l eq2) (cwV 1 X.1.2.2.2.2 (zg_V km_747 km_748 km_749 km_126 km_750) rfl rfl rfl (by decide +kernel) ⟨Nat.le_of_ble_eq_true rfl, Nat.le_of_ble_eq_true rfl⟩) (zob_s ew3) kc_0 rfl (Nat.le_of_ble_eq_true rfl) ⟨Nat.le_of_ble_eq_true rfl, Nat.le_of_ble_eq_true rfl⟩ ?_
  refine z_if_eq (tgt := 36) X dd_PQ_arc_8 (by decide) (fun q4 => ?_) (fun q4 => ?_)
  · rw [if_pos q4] at h
    exact t_PQ_arc_36 X H h
  · rw [if_neg q4] at h
    refine z_aload_n X dd_PQ_arc_11 rfl 0 rfl ?_
    obtain ⟨v11, ev11, h⟩ := zb h
    refine z_get (j := 1) X dd_PQ_arc_12 kc_11 ki_11 (by decide) km_690 (zgr_v ev11) ?_
    refine z_iload_n X dd_PQ_arc_15 rfl 2 rfl ?_
    obtain ⟨w13, ew13, h⟩ := zb h
    obtain ⟨q12, eq12, h⟩ := zb h
    refine z_callVi X [.int a2] rfl dd_PQ_arc_16 (c_Graph_isNode l eq12) (cwV 1 X.1.2.2.2.2 (zg_V km_747 km_748 km_749 km_126 km_750) rfl rfl rfl (by decide +kernel) ⟨Nat.le_of_ble_eq_true rfl, Nat.le_of_ble_eq_true rfl⟩) (zob_s ew13) kc_0 rfl (Nat.le_of_ble_eq_true rfl) ⟨Nat.le_of_ble_eq_true rfl, Nat.le_of_ble_eq_true rfl⟩ ?_
    refine z_if_eq (tgt := 36) X dd_PQ_arc_19 (by decide) (fun q14 => ?_) (fun q14 => ?_)
    · rw [if_pos q14] at h
      exact t_PQ_arc_36 X H h
    · rw [if_neg q14] at h
      refine z_iload_n X dd_PQ_arc_22 rfl 3 rfl ?_
      refine z_if_lt (tgt := 36) X dd_PQ_arc_23 (by decide) (fun q15 => ?_) (fun q15 => ?_)
      · rw [if_pos q15] at h
        exact t_PQ_arc_36 X H h
      · rw [if_neg q15] at h
        refine z_iload_n X dd_PQ_arc_26 rfl 3 rfl ?_
        refine z_bipush (v := 8) X dd_PQ_arc_27 (by decide) ?_
        refine z_icmp_ge (tgt := 36) X dd_PQ_arc_29 (by decide) (fun q16 => ?_) (fun q16 => ?_)
        · rw [if_pos q16] at h
          exact t_PQ_arc_36 X H h
        · rw [if_neg q16] at h
          refine z_iconst (v := 1) X dd_PQ_arc_32 (by decide) ?_
          refine z_goto (tgt := 37) X dd_PQ_arc_33 (by decide) ?_
          exact t_PQ_arc_37 X H h
theorem dd_PQ_drop_0 : decode bb_PQ_drop 0 = .ok (.aload_n 0, 1) := by decide +kernel
theorem dd_PQ_drop_1 : decode bb_PQ_drop 1 = .ok (.getfield 16, 3) := by decide +kernel
theorem dd_PQ_drop_4 : decode bb_PQ_drop 4 = .ok (.iload_n 1, 1) := by decide +kernel
theorem dd_PQ_drop_5 : decode bb_PQ_drop 5 = .ok (.invokevirtual 106, 3) := by decide +kernel
theorem dd_PQ_drop_8 : decode bb_PQ_drop 8 = .ok (.ifCond .ne 5, 3) := by decide +kernel
theorem dd_PQ_drop_11 : decode bb_PQ_drop 11 = .ok (.iconst (-1), 1) := by decide +kernel
theorem dd_PQ_drop_12 : decode bb_PQ_drop 12 = .ok (.ireturn, 1) := by decide +kernel
theorem dd_PQ_drop_13 : decode bb_PQ_drop 13 = .ok (.aload_n 0, 1) := by decide +kernel
theorem dd_PQ_drop_14 : decode bb_PQ_drop 14 = .ok (.getfield 16, 3) := by decide +kernel
theorem dd_PQ_drop_17 : decode bb_PQ_drop 17 = .ok (.iload_n 1, 1) := by decide +kernel
theorem dd_PQ_drop_18 : decode bb_PQ_drop 18 = .ok (.invokevirtual 109, 3) := by decide +kernel
theorem dd_PQ_drop_21 : decode bb_PQ_drop 21 = .ok (.aload_n 0, 1) := by decide +kernel
theorem dd_PQ_drop_22 : decode bb_PQ_drop 22 = .ok (.getfield 16, 3) := by decide +kernel
theorem dd_PQ_drop_25 : decode bb_PQ_drop 25 = .ok (.getfield 112, 3) := by decide +kernel
theorem dd_PQ_drop_28 : decode bb_PQ_drop 28 = .ok (.ireturn, 1) := by decide +kernel
set_option maxRecDepth 100000 in
set_option maxHeartbeats 4000000 in
theorem c_PQ_drop (l : Launch) {nf : Nat} {a0 : Nat} {a1 : Int32} {c : Zc} {res : Int32 × Zc} (h : f_PQ_drop nf a0 a1 c = some res) : zM l yy_PQ_drop ww_PQ_drop 1 21 0 0 [.ref a0, .int a1] c (fun D cid B => zQi D cid B res.1 res.2 c.length 0) := by
  refine z_met (cc := bb_PQ_drop) (maxL := 2) (ret := (some (.int))) (by decide +kernel) rfl (Nat.le_of_ble_eq_true rfl) ?_
  intro p e s m args below meth cd D cid B X h1 h2 h3 h4
  have X : zX p s m args cd D cid B bb_PQ_drop 2 rr_PQ zT := X
  have H : zH s meth B c.length (some (.int)) "drop" := ⟨h1, h2, h4, h3⟩
  unfold f_PQ_drop at h
  show Zz p l e (zRm 1 21 0 0) s m args below meth cd _ D cid B 2 0 0 c 0 [(0, .ref a0), (1, .int a1)] []
  refine z_aload_n X dd_PQ_drop_0 rfl 0 rfl ?_
  obtain ⟨v1, ev1, h⟩ := zb h
  refine z_get (j := 1) X dd_PQ_drop_1 kc_11 ki_11 (by decide) km_690 (zgr_v ev1) ?_
  refine z_iload_n X dd_PQ_drop_4 rfl 1 rfl ?_
  obtain ⟨w3, ew3, h⟩ := zb h
  obtain ⟨q2, eq2, h⟩ := zb h
  refine z_callVi X [.int a1] rfl dd_PQ_drop_5 (c_Graph_isArc l eq2) (cwV 1 X.1.2.2.2.2 (zg_V km_775 km_776 km_777 km_126 km_778) rfl rfl rfl (by decide +kernel) ⟨Nat.le_of_ble_eq_true rfl, Nat.le_of_ble_eq_true rfl⟩) (zob_s ew3) kc_0 rfl (Nat.le_of_ble_eq_true rfl) ⟨Nat.le_of_ble_eq_true rfl, Nat.le_of_ble_eq_true rfl⟩ ?_
  refine z_if_ne (tgt := 13) X dd_PQ_drop_8 (by decide) (fun q4 => ?_) (fun q4 => ?_)
  · rw [if_neg q4] at h
    refine z_aload_n X dd_PQ_drop_13 rfl 0 rfl ?_
    obtain ⟨v5, ev5, h⟩ := zb h
    refine z_get (j := 1) X dd_PQ_drop_14 kc_11 ki_11 (by decide) km_690 (zgr_v ev5) ?_
    refine z_iload_n X dd_PQ_drop_17 rfl 1 rfl ?_
    obtain ⟨w7, ew7, h⟩ := zb h
    obtain ⟨q6, eq6, h⟩ := zb h
    refine z_callVv X [.int a1] rfl dd_PQ_drop_18 (c_Graph_removeArc l eq6) (cwV 1 X.1.2.2.2.2 (zg_V km_779 km_780 km_781 km_126 km_782) rfl rfl rfl (by decide +kernel) ⟨Nat.le_of_ble_eq_true rfl, Nat.le_of_ble_eq_true rfl⟩) (zob_s ew7) kc_0 rfl (Nat.le_of_ble_eq_true rfl) ⟨Nat.le_of_ble_eq_true rfl, Nat.le_of_ble_eq_true rfl⟩ ?_
    refine z_aload_n X dd_PQ_drop_21 rfl 0 rfl ?_
    obtain ⟨v8, ev8, h⟩ := zb h
    refine z_get (j := 1) X dd_PQ_drop_22 kc_11 ki_11 (by decide) km_690 (zgr_v ev8) ?_
    obtain ⟨v9, ev9, h⟩ := zb h
    refine z_get (j := 8) X dd_PQ_drop_25 kc_0 ki_0 (by decide) km_179 (zgi_v ev9) ?_
    obtain rfl := Option.some.inj h
    exact z_iret X H.1 H.2.1 H.2.2.1 dd_PQ_drop_28
  · rw [if_pos q4] at h
    refine z_iconst (v := (-1)) X dd_PQ_drop_11 (by decide) ?_
    obtain rfl := Option.some.inj h
    exact z_iret X H.1 H.2.1 H.2.2.1 dd_PQ_drop_12
theorem dd_PQ_told_0 : decode bb_PQ_told 0 = .ok (.iload_n 1, 1) := by decide +kernel
theorem dd_PQ_told_1 : decode bb_PQ_told 1 = .ok (.ifCond .ne 11, 3) := by decide +kernel
theorem dd_PQ_told_4 : decode bb_PQ_told 4 = .ok (.aload_n 0, 1) := by decide +kernel
theorem dd_PQ_told_5 : decode bb_PQ_told 5 = .ok (.getfield 16, 3) := by decide +kernel
theorem dd_PQ_told_8 : decode bb_PQ_told 8 = .ok (.getfield 115, 3) := by decide +kernel
theorem dd_PQ_told_11 : decode bb_PQ_told 11 = .ok (.ireturn, 1) := by decide +kernel
theorem dd_PQ_told_12 : decode bb_PQ_told 12 = .ok (.iload_n 1, 1) := by decide +kernel
theorem dd_PQ_told_13 : decode bb_PQ_told 13 = .ok (.iconst 1, 1) := by decide +kernel
theorem dd_PQ_told_14 : decode bb_PQ_told 14 = .ok (.if_icmp .ne 11, 3) := by decide +kernel
theorem dd_PQ_told_17 : decode bb_PQ_told 17 = .ok (.aload_n 0, 1) := by decide +kernel
theorem dd_PQ_told_18 : decode bb_PQ_told 18 = .ok (.getfield 16, 3) := by decide +kernel
theorem dd_PQ_told_21 : decode bb_PQ_told 21 = .ok (.getfield 112, 3) := by decide +kernel
theorem dd_PQ_told_24 : decode bb_PQ_told 24 = .ok (.ireturn, 1) := by decide +kernel
theorem dd_PQ_told_25 : decode bb_PQ_told 25 = .ok (.iload_n 1, 1) := by decide +kernel
theorem dd_PQ_told_26 : decode bb_PQ_told 26 = .ok (.iconst 2, 1) := by decide +kernel
theorem dd_PQ_told_27 : decode bb_PQ_told 27 = .ok (.if_icmp .ne 11, 3) := by decide +kernel
theorem dd_PQ_told_30 : decode bb_PQ_told 30 = .ok (.aload_n 0, 1) := by decide +kernel
theorem dd_PQ_told_31 : decode bb_PQ_told 31 = .ok (.getfield 50, 3) := by decide +kernel
theorem dd_PQ_told_34 : decode bb_PQ_told 34 = .ok (.invokevirtual 118, 3) := by decide +kernel
theorem dd_PQ_told_37 : decode bb_PQ_told 37 = .ok (.ireturn, 1) := by decide +kernel
theorem dd_PQ_told_38 : decode bb_PQ_told 38 = .ok (.iload_n 1, 1) := by decide +kernel
theorem dd_PQ_told_39 : decode bb_PQ_told 39 = .ok (.iconst 3, 1) := by decide +kernel
theorem dd_PQ_told_40 : decode bb_PQ_told 40 = .ok (.if_icmp .lt 30, 3) := by decide +kernel
theorem dd_PQ_told_43 : decode bb_PQ_told 43 = .ok (.iload_n 1, 1) := by decide +kernel
theorem dd_PQ_told_44 : decode bb_PQ_told 44 = .ok (.bipush 9, 2) := by decide +kernel
theorem dd_PQ_told_46 : decode bb_PQ_told 46 = .ok (.if_icmp .gt 24, 3) := by decide +kernel
theorem dd_PQ_told_49 : decode bb_PQ_told 49 = .ok (.aload_n 0, 1) := by decide +kernel
theorem dd_PQ_told_50 : decode bb_PQ_told 50 = .ok (.getfield 16, 3) := by decide +kernel
theorem dd_PQ_told_53 : decode bb_PQ_told 53 = .ok (.iload_n 2, 1) := by decide +kernel
theorem dd_PQ_told_54 : decode bb_PQ_told 54 = .ok (.invokevirtual 90, 3) := by decide +kernel
theorem dd_PQ_told_57 : decode bb_PQ_told 57 = .ok (.ifCond .eq 13, 3) := by decide +kernel
theorem dd_PQ_told_60 : decode bb_PQ_told 60 = .ok (.aload_n 0, 1) := by decide +kernel
theorem dd_PQ_told_61 : decode bb_PQ_told 61 = .ok (.getfield 16, 3) := by decide +kernel
theorem dd_PQ_told_64 : decode bb_PQ_told 64 = .ok (.iload_n 1, 1) := by decide +kernel
theorem dd_PQ_told_65 : decode bb_PQ_told 65 = .ok (.iload_n 2, 1) := by decide +kernel
theorem dd_PQ_told_66 : decode bb_PQ_told 66 = .ok (.invokevirtual 122, 3) := by decide +kernel
theorem dd_PQ_told_69 : decode bb_PQ_told 69 = .ok (.ireturn, 1) := by decide +kernel
theorem dd_PQ_told_70 : decode bb_PQ_told 70 = .ok (.iload_n 1, 1) := by decide +kernel
theorem dd_PQ_told_71 : decode bb_PQ_told 71 = .ok (.bipush 10, 2) := by decide +kernel
theorem dd_PQ_told_73 : decode bb_PQ_told 73 = .ok (.if_icmp .lt 30, 3) := by decide +kernel
theorem dd_PQ_told_76 : decode bb_PQ_told 76 = .ok (.iload_n 1, 1) := by decide +kernel
theorem dd_PQ_told_77 : decode bb_PQ_told 77 = .ok (.bipush 13, 2) := by decide +kernel
theorem dd_PQ_told_79 : decode bb_PQ_told 79 = .ok (.if_icmp .gt 24, 3) := by decide +kernel
theorem dd_PQ_told_82 : decode bb_PQ_told 82 = .ok (.aload_n 0, 1) := by decide +kernel
theorem dd_PQ_told_83 : decode bb_PQ_told 83 = .ok (.getfield 16, 3) := by decide +kernel
theorem dd_PQ_told_86 : decode bb_PQ_told 86 = .ok (.iload_n 2, 1) := by decide +kernel
theorem dd_PQ_told_87 : decode bb_PQ_told 87 = .ok (.invokevirtual 106, 3) := by decide +kernel
theorem dd_PQ_told_90 : decode bb_PQ_told 90 = .ok (.ifCond .eq 13, 3) := by decide +kernel
theorem dd_PQ_told_93 : decode bb_PQ_told 93 = .ok (.aload_n 0, 1) := by decide +kernel
theorem dd_PQ_told_94 : decode bb_PQ_told 94 = .ok (.getfield 16, 3) := by decide +kernel
theorem dd_PQ_told_97 : decode bb_PQ_told 97 = .ok (.iload_n 1, 1) := by decide +kernel
theorem dd_PQ_told_98 : decode bb_PQ_told 98 = .ok (.iload_n 2, 1) := by decide +kernel
theorem dd_PQ_told_99 : decode bb_PQ_told 99 = .ok (.invokevirtual 125, 3) := by decide +kernel
theorem dd_PQ_told_102 : decode bb_PQ_told 102 = .ok (.ireturn, 1) := by decide +kernel
theorem dd_PQ_told_103 : decode bb_PQ_told 103 = .ok (.sipush 10000, 3) := by decide +kernel
theorem dd_PQ_told_106 : decode bb_PQ_told 106 = .ok (.ireturn, 1) := by decide +kernel
set_option maxRecDepth 100000 in
set_option maxHeartbeats 4000000 in
theorem t_PQ_told_103  (X : zX p s m args cd D cid B bb_PQ_told 3 rr_PQ zT) (H : zH s meth B n0 (some (.int)) "told") {nf : Nat}  {c : Zc} {res : Int32 × Zc} (h : f_PQ_told_103 nf  c = some res) : Zz p l e (zRm 1 24 0 0) s m args below meth cd (MQ below (zQi D cid B res.1 res.2 n0 0) args s 0 0 (fun q => B ≤ q)) D cid B 3 0 0 c 103 [] [] := by
  unfold f_PQ_told_103 at h
  refine z_sipush (v := 10000) X dd_PQ_told_103 (by decide) ?_
  obtain rfl := Option.some.inj h
  exact z_iret X H.1 H.2.1 H.2.2.1 dd_PQ_told_106
set_option maxRecDepth 100000 in
set_option maxHeartbeats 4000000 in
theorem t_PQ_told_70  (X : zX p s m args cd D cid B bb_PQ_told 3 rr_PQ zT) (H : zH s meth B n0 (some (.int)) "told") {nf : Nat} {x0 : Nat} {x1 : Int32} {x2 : Int32} {c : Zc} {res : Int32 × Zc} (h : f_PQ_told_70 nf x0 x1 x2 c = some res) : Zz p l e (zRm 1 24 0 0) s m args below meth cd (MQ below (zQi D cid B res.1 res.2 n0 0) args s 0 0 (fun q => B ≤ q)) D cid B 3 0 0 c 70 [(0, .ref x0), (1, .int x1), (2, .int x2)] [] := by
  unfold f_PQ_told_70 at h
  refine z_iload_n X dd_PQ_told_70 rfl 1 rfl ?_
  refine z_bipush (v := 10) X dd_PQ_told_71 (by decide) ?_
  refine z_icmp_lt (tgt := 103) X dd_PQ_told_73 (by decide) (fun q5 => ?_) (fun q5 => ?_)
  · rw [if_pos q5] at h
    refine z_sub [] rfl ?_
    exact t_PQ_told_103 X H h
  · rw [if_neg q5] at h
    refine z_iload_n X dd_PQ_told_76 rfl 1 rfl ?_
    refine z_bipush (v := 13) X dd_PQ_told_77 (by decide) ?_
    refine z_icmp_gt (tgt := 103) X dd_PQ_told_79 (by decide) (fun q6 => ?_) (fun q6 => ?_)
    · rw [if_pos q6] at h
      refine z_sub [] rfl ?_
      exact t_PQ_told_103 X H h
    · rw [if_neg q6] at h
      refine z_aload_n X dd_PQ_told_82 rfl 0 rfl ?_
      obtain ⟨v7, ev7, h⟩ := zb h
      refine z_get (j := 1) X dd_PQ_told_83 kc_11 ki_11 (by decide) km_690 (zgr_v ev7) ?_
      refine z_iload_n X dd_PQ_told_86 rfl 2 rfl ?_
      obtain ⟨w9, ew9, h⟩ := zb h
      obtain ⟨q8, eq8, h⟩ := zb h
      refine z_callVi X [.int x2] rfl dd_PQ_told_87 (c_Graph_isArc l eq8) (cwV 1 X.1.2.2.2.2 (zg_V km_775 km_776 km_777 km_126 km_778) rfl rfl rfl (by decide +kernel) ⟨Nat.le_of_ble_eq_true rfl, Nat.le_of_ble_eq_true rfl⟩) (zob_s ew9) kc_0 rfl (Nat.le_of_ble_eq_true rfl) ⟨Nat.le_of_ble_eq_true rfl, Nat.le_of_ble_eq_true rfl⟩ ?_
      refine z_if_eq (tgt := 103) X dd_PQ_told_90 (by decide) (fun q10 => ?_) (fun q10 => ?_)
      · rw [if_pos q10] at h
        refine z_sub [] rfl ?_
        exact t_PQ_told_103 X H h
      · rw [if_neg q10] at h
        refine z_aload_n X dd_PQ_told_93 rfl 0 rfl ?_
        obtain ⟨v11, ev11, h⟩ := zb h
        refine z_get (j := 1) X dd_PQ_told_94 kc_11 ki_11 (by decide) km_690 (zgr_v ev11) ?_
        refine z_iload_n X dd_PQ_told_97 rfl 1 rfl ?_
        refine z_iload_n X dd_PQ_told_98 rfl 2 rfl ?_
        obtain ⟨w13, ew13, h⟩ := zb h
        obtain ⟨q12, eq12, h⟩ := zb h
        refine z_callVi X [.int x1, .int x2] rfl dd_PQ_told_99 (c_Graph_ofArc l eq12) (cwV 2 X.1.2.2.2.2 (zg_V km_795 km_796 km_797 km_126 km_798) rfl rfl rfl (by decide +kernel) ⟨Nat.le_of_ble_eq_true rfl, Nat.le_of_ble_eq_true rfl⟩) (zob_s ew13) kc_0 rfl (Nat.le_of_ble_eq_true rfl) ⟨Nat.le_of_ble_eq_true rfl, Nat.le_of_ble_eq_true rfl⟩ ?_
        obtain rfl := Option.some.inj h
        exact z_iret X H.1 H.2.1 H.2.2.1 dd_PQ_told_102
set_option maxRecDepth 100000 in
set_option maxHeartbeats 4000000 in
theorem c_PQ_told (l : Launch) {nf : Nat} {a0 : Nat} {a1 : Int32} {a2 : Int32} {c : Zc} {res : Int32 × Zc} (h : f_PQ_told nf a0 a1 a2 c = some res) : zM l yy_PQ_told ww_PQ_told 1 24 0 0 [.ref a0, .int a1, .int a2] c (fun D cid B => zQi D cid B res.1 res.2 c.length 0) := by
  refine z_met (cc := bb_PQ_told) (maxL := 3) (ret := (some (.int))) (by decide +kernel) rfl (Nat.le_of_ble_eq_true rfl) ?_
  intro p e s m args below meth cd D cid B X h1 h2 h3 h4
  have X : zX p s m args cd D cid B bb_PQ_told 3 rr_PQ zT := X
  have H : zH s meth B c.length (some (.int)) "told" := ⟨h1, h2, h4, h3⟩
  unfold f_PQ_told at h
  show Zz p l e (zRm 1 24 0 0) s m args below meth cd _ D cid B 3 0 0 c 0 [(0, .ref a0), (1, .int a1), (2, .int a2)] []
  refine z_iload_n X dd_PQ_told_0 rfl 1 rfl ?_
  refine z_if_ne (tgt := 12) X dd_PQ_told_1 (by decide) (fun q1 => ?_) (fun q1 => ?_)
  · rw [if_neg q1] at h
    refine z_iload_n X dd_PQ_told_12 rfl 1 rfl ?_
    refine z_iconst (v := 1) X dd_PQ_told_13 (by decide) ?_
    refine z_icmp_ne (tgt := 25) X dd_PQ_told_14 (by decide) (fun q2 => ?_) (fun q2 => ?_)
    · rw [if_neg q2] at h
      refine z_iload_n X dd_PQ_told_25 rfl 1 rfl ?_
      refine z_iconst (v := 2) X dd_PQ_told_26 (by decide) ?_
      refine z_icmp_ne (tgt := 38) X dd_PQ_told_27 (by decide) (fun q3 => ?_) (fun q3 => ?_)
      · rw [if_neg q3] at h
        refine z_iload_n X dd_PQ_told_38 rfl 1 rfl ?_
        refine z_iconst (v := 3) X dd_PQ_told_39 (by decide) ?_
        refine z_icmp_lt (tgt := 70) X dd_PQ_told_40 (by decide) (fun q4 => ?_) (fun q4 => ?_)
        · rw [if_pos q4] at h
          exact t_PQ_told_70 X H h
        · rw [if_neg q4] at h
          refine z_iload_n X dd_PQ_told_43 rfl 1 rfl ?_
          refine z_bipush (v := 9) X dd_PQ_told_44 (by decide) ?_
          refine z_icmp_gt (tgt := 70) X dd_PQ_told_46 (by decide) (fun q14 => ?_) (fun q14 => ?_)
          · rw [if_pos q14] at h
            exact t_PQ_told_70 X H h
          · rw [if_neg q14] at h
            refine z_aload_n X dd_PQ_told_49 rfl 0 rfl ?_
            obtain ⟨v15, ev15, h⟩ := zb h
            refine z_get (j := 1) X dd_PQ_told_50 kc_11 ki_11 (by decide) km_690 (zgr_v ev15) ?_
            refine z_iload_n X dd_PQ_told_53 rfl 2 rfl ?_
            obtain ⟨w17, ew17, h⟩ := zb h
            obtain ⟨q16, eq16, h⟩ := zb h
            refine z_callVi X [.int a2] rfl dd_PQ_told_54 (c_Graph_isNode l eq16) (cwV 1 X.1.2.2.2.2 (zg_V km_747 km_748 km_749 km_126 km_750) rfl rfl rfl (by decide +kernel) ⟨Nat.le_of_ble_eq_true rfl, Nat.le_of_ble_eq_true rfl⟩) (zob_s ew17) kc_0 rfl (Nat.le_of_ble_eq_true rfl) ⟨Nat.le_of_ble_eq_true rfl, Nat.le_of_ble_eq_true rfl⟩ ?_
            refine z_if_eq (tgt := 70) X dd_PQ_told_57 (by decide) (fun q18 => ?_) (fun q18 => ?_)
            · rw [if_pos q18] at h
              exact t_PQ_told_70 X H h
            · rw [if_neg q18] at h
              refine z_aload_n X dd_PQ_told_60 rfl 0 rfl ?_
              obtain ⟨v19, ev19, h⟩ := zb h
              refine z_get (j := 1) X dd_PQ_told_61 kc_11 ki_11 (by decide) km_690 (zgr_v ev19) ?_
              refine z_iload_n X dd_PQ_told_64 rfl 1 rfl ?_
              refine z_iload_n X dd_PQ_told_65 rfl 2 rfl ?_
              obtain ⟨w21, ew21, h⟩ := zb h
              obtain ⟨q20, eq20, h⟩ := zb h
              refine z_callVi X [.int a1, .int a2] rfl dd_PQ_told_66 (c_Graph_ofNode l eq20) (cwV 2 X.1.2.2.2.2 (zg_V km_791 km_792 km_793 km_126 km_794) rfl rfl rfl (by decide +kernel) ⟨Nat.le_of_ble_eq_true rfl, Nat.le_of_ble_eq_true rfl⟩) (zob_s ew21) kc_0 rfl (Nat.le_of_ble_eq_true rfl) ⟨Nat.le_of_ble_eq_true rfl, Nat.le_of_ble_eq_true rfl⟩ ?_
              obtain rfl := Option.some.inj h
              exact z_iret X H.1 H.2.1 H.2.2.1 dd_PQ_told_69
      · rw [if_pos q3] at h
        refine z_aload_n X dd_PQ_told_30 rfl 0 rfl ?_
        obtain ⟨v22, ev22, h⟩ := zb h
        refine z_get (j := 5) X dd_PQ_told_31 kc_11 ki_11 (by decide) km_694 (zgr_v ev22) ?_
        obtain ⟨w24, ew24, h⟩ := zb h
        obtain ⟨q23, eq23, h⟩ := zb h
        refine z_callVi X [] rfl dd_PQ_told_34 (c_RuleBook_standing l eq23) (cwV 0 X.1.2.2.2.2 (zg_V km_787 km_788 km_789 km_135 km_790) rfl rfl rfl (by decide +kernel) ⟨Nat.le_of_ble_eq_true rfl, Nat.le_of_ble_eq_true rfl⟩) (zob_s ew24) kc_8 rfl (Nat.le_of_ble_eq_true rfl) ⟨Nat.le_of_ble_eq_true rfl, Nat.le_of_ble_eq_true rfl⟩ ?_
        obtain rfl := Option.some.inj h
        exact z_iret X H.1 H.2.1 H.2.2.1 dd_PQ_told_37
    · rw [if_pos q2] at h
      refine z_aload_n X dd_PQ_told_17 rfl 0 rfl ?_
      obtain ⟨v25, ev25, h⟩ := zb h
      refine z_get (j := 1) X dd_PQ_told_18 kc_11 ki_11 (by decide) km_690 (zgr_v ev25) ?_
      obtain ⟨v26, ev26, h⟩ := zb h
      refine z_get (j := 8) X dd_PQ_told_21 kc_0 ki_0 (by decide) km_179 (zgi_v ev26) ?_
      obtain rfl := Option.some.inj h
      exact z_iret X H.1 H.2.1 H.2.2.1 dd_PQ_told_24
  · rw [if_pos q1] at h
    refine z_aload_n X dd_PQ_told_4 rfl 0 rfl ?_
    obtain ⟨v27, ev27, h⟩ := zb h
    refine z_get (j := 1) X dd_PQ_told_5 kc_11 ki_11 (by decide) km_690 (zgr_v ev27) ?_
    obtain ⟨v28, ev28, h⟩ := zb h
    refine z_get (j := 7) X dd_PQ_told_8 kc_0 ki_0 (by decide) km_177 (zgi_v ev28) ?_
    obtain rfl := Option.some.inj h
    exact z_iret X H.1 H.2.1 H.2.2.1 dd_PQ_told_11
theorem dd_PQ_bare_0 : decode bb_PQ_bare 0 = .ok (.aload_n 0, 1) := by decide +kernel
theorem dd_PQ_bare_1 : decode bb_PQ_bare 1 = .ok (.getfield 16, 3) := by decide +kernel
theorem dd_PQ_bare_4 : decode bb_PQ_bare 4 = .ok (.iload_n 1, 1) := by decide +kernel
theorem dd_PQ_bare_5 : decode bb_PQ_bare 5 = .ok (.invokevirtual 90, 3) := by decide +kernel
theorem dd_PQ_bare_8 : decode bb_PQ_bare 8 = .ok (.ifCond .ne 5, 3) := by decide +kernel
theorem dd_PQ_bare_11 : decode bb_PQ_bare 11 = .ok (.iconst (-1), 1) := by decide +kernel
theorem dd_PQ_bare_12 : decode bb_PQ_bare 12 = .ok (.ireturn, 1) := by decide +kernel
theorem dd_PQ_bare_13 : decode bb_PQ_bare 13 = .ok (.aload_n 0, 1) := by decide +kernel
theorem dd_PQ_bare_14 : decode bb_PQ_bare 14 = .ok (.getfield 16, 3) := by decide +kernel
theorem dd_PQ_bare_17 : decode bb_PQ_bare 17 = .ok (.iload_n 1, 1) := by decide +kernel
theorem dd_PQ_bare_18 : decode bb_PQ_bare 18 = .ok (.invokevirtual 128, 3) := by decide +kernel
theorem dd_PQ_bare_21 : decode bb_PQ_bare 21 = .ok (.ireturn, 1) := by decide +kernel
set_option maxRecDepth 100000 in
set_option maxHeartbeats 4000000 in
theorem c_PQ_bare (l : Launch) {nf : Nat} {a0 : Nat} {a1 : Int32} {c : Zc} {res : Int32 × Zc} (h : f_PQ_bare nf a0 a1 c = some res) : zM l yy_PQ_bare ww_PQ_bare 2 44 0 0 [.ref a0, .int a1] c (fun D cid B => zQi D cid B res.1 res.2 c.length 0) := by
  refine z_met (cc := bb_PQ_bare) (maxL := 2) (ret := (some (.int))) (by decide +kernel) rfl (Nat.le_of_ble_eq_true rfl) ?_
  intro p e s m args below meth cd D cid B X h1 h2 h3 h4
  have X : zX p s m args cd D cid B bb_PQ_bare 2 rr_PQ zT := X
  have H : zH s meth B c.length (some (.int)) "bare" := ⟨h1, h2, h4, h3⟩
  unfold f_PQ_bare at h
  show Zz p l e (zRm 2 44 0 0) s m args below meth cd _ D cid B 2 0 0 c 0 [(0, .ref a0), (1, .int a1)] []
  refine z_aload_n X dd_PQ_bare_0 rfl 0 rfl ?_
  obtain ⟨v1, ev1, h⟩ := zb h
  refine z_get (j := 1) X dd_PQ_bare_1 kc_11 ki_11 (by decide) km_690 (zgr_v ev1) ?_
  refine z_iload_n X dd_PQ_bare_4 rfl 1 rfl ?_
  obtain ⟨w3, ew3, h⟩ := zb h
  obtain ⟨q2, eq2, h⟩ := zb h
  refine z_callVi X [.int a1] rfl dd_PQ_bare_5 (c_Graph_isNode l eq2) (cwV 1 X.1.2.2.2.2 (zg_V km_747 km_748 km_749 km_126 km_750) rfl rfl rfl (by decide +kernel) ⟨Nat.le_of_ble_eq_true rfl, Nat.le_of_ble_eq_true rfl⟩) (zob_s ew3) kc_0 rfl (Nat.le_of_ble_eq_true rfl) ⟨Nat.le_of_ble_eq_true rfl, Nat.le_of_ble_eq_true rfl⟩ ?_
  refine z_if_ne (tgt := 13) X dd_PQ_bare_8 (by decide) (fun q4 => ?_) (fun q4 => ?_)
  · rw [if_neg q4] at h
    refine z_aload_n X dd_PQ_bare_13 rfl 0 rfl ?_
    obtain ⟨v5, ev5, h⟩ := zb h
    refine z_get (j := 1) X dd_PQ_bare_14 kc_11 ki_11 (by decide) km_690 (zgr_v ev5) ?_
    refine z_iload_n X dd_PQ_bare_17 rfl 1 rfl ?_
    obtain ⟨w7, ew7, h⟩ := zb h
    obtain ⟨q6, eq6, h⟩ := zb h
    refine z_callVi X [.int a1] rfl dd_PQ_bare_18 (c_Graph_strip l eq6) (cwV 1 X.1.2.2.2.2 (zg_V km_803 km_804 km_805 km_126 km_806) rfl rfl rfl (by decide +kernel) ⟨Nat.le_of_ble_eq_true rfl, Nat.le_of_ble_eq_true rfl⟩) (zob_s ew7) kc_0 rfl (Nat.le_of_ble_eq_true rfl) ⟨Nat.le_of_ble_eq_true rfl, Nat.le_of_ble_eq_true rfl⟩ ?_
    obtain rfl := Option.some.inj h
    exact z_iret X H.1 H.2.1 H.2.2.1 dd_PQ_bare_21
  · rw [if_pos q4] at h
    refine z_iconst (v := (-1)) X dd_PQ_bare_11 (by decide) ?_
    obtain rfl := Option.some.inj h
    exact z_iret X H.1 H.2.1 H.2.2.1 dd_PQ_bare_12
theorem dd_PQ_question_0 : decode bb_PQ_question 0 = .ok (.iload_n 1, 1) := by decide +kernel
theorem dd_PQ_question_1 : decode bb_PQ_question 1 = .ok (.ifCond .lt 8, 3) := by decide +kernel
theorem dd_PQ_question_4 : decode bb_PQ_question 4 = .ok (.iload_n 1, 1) := by decide +kernel
theorem dd_PQ_question_5 : decode bb_PQ_question 5 = .ok (.iconst 4, 1) := by decide +kernel
theorem dd_PQ_question_6 : decode bb_PQ_question 6 = .ok (.if_icmp .lt 14, 3) := by decide +kernel
theorem dd_PQ_question_9 : decode bb_PQ_question 9 = .ok (.aload_n 0, 1) := by decide +kernel
theorem dd_PQ_question_10 : decode bb_PQ_question 10 = .ok (.getfield 32, 3) := by decide +kernel
theorem dd_PQ_question_13 : decode bb_PQ_question 13 = .ok (.bipush (-2), 2) := by decide +kernel
theorem dd_PQ_question_15 : decode bb_PQ_question 15 = .ok (.putfield 131, 3) := by decide +kernel
theorem dd_PQ_question_18 : decode bb_PQ_question 18 = .ok (.iconst (-1), 1) := by decide +kernel
theorem dd_PQ_question_19 : decode bb_PQ_question 19 = .ok (.ireturn, 1) := by decide +kernel
theorem dd_PQ_question_20 : decode bb_PQ_question 20 = .ok (.aload_n 0, 1) := by decide +kernel
theorem dd_PQ_question_21 : decode bb_PQ_question 21 = .ok (.getfield 32, 3) := by decide +kernel
theorem dd_PQ_question_24 : decode bb_PQ_question 24 = .ok (.aload_n 0, 1) := by decide +kernel
theorem dd_PQ_question_25 : decode bb_PQ_question 25 = .ok (.getfield 9, 3) := by decide +kernel
theorem dd_PQ_question_28 : decode bb_PQ_question 28 = .ok (.aload_n 0, 1) := by decide +kernel
theorem dd_PQ_question_29 : decode bb_PQ_question 29 = .ok (.getfield 77, 3) := by decide +kernel
theorem dd_PQ_question_32 : decode bb_PQ_question 32 = .ok (.aload_n 0, 1) := by decide +kernel
theorem dd_PQ_question_33 : decode bb_PQ_question 33 = .ok (.getfield 23, 3) := by decide +kernel
theorem dd_PQ_question_36 : decode bb_PQ_question 36 = .ok (.iconst 0, 1) := by decide +kernel
theorem dd_PQ_question_37 : decode bb_PQ_question 37 = .ok (.invokevirtual 134, 3) := by decide +kernel
theorem dd_PQ_question_40 : decode bb_PQ_question 40 = .ok (.istore_n 2, 1) := by decide +kernel
theorem dd_PQ_question_41 : decode bb_PQ_question 41 = .ok (.aload_n 0, 1) := by decide +kernel
theorem dd_PQ_question_42 : decode bb_PQ_question 42 = .ok (.iconst 0, 1) := by decide +kernel
theorem dd_PQ_question_43 : decode bb_PQ_question 43 = .ok (.putfield 77, 3) := by decide +kernel
theorem dd_PQ_question_46 : decode bb_PQ_question 46 = .ok (.iload_n 2, 1) := by decide +kernel
theorem dd_PQ_question_47 : decode bb_PQ_question 47 = .ok (.ifCond .eq 8, 3) := by decide +kernel
theorem dd_PQ_question_50 : decode bb_PQ_question 50 = .ok (.bipush (-10), 2) := by decide +kernel
theorem dd_PQ_question_52 : decode bb_PQ_question 52 = .ok (.iload_n 2, 1) := by decide +kernel
theorem dd_PQ_question_53 : decode bb_PQ_question 53 = .ok (.isub, 1) := by decide +kernel
theorem dd_PQ_question_54 : decode bb_PQ_question 54 = .ok (.ireturn, 1) := by decide +kernel
theorem dd_PQ_question_55 : decode bb_PQ_question 55 = .ok (.aload_n 0, 1) := by decide +kernel
theorem dd_PQ_question_56 : decode bb_PQ_question 56 = .ok (.getfield 63, 3) := by decide +kernel
theorem dd_PQ_question_59 : decode bb_PQ_question 59 = .ok (.iload_n 1, 1) := by decide +kernel
theorem dd_PQ_question_60 : decode bb_PQ_question 60 = .ok (.aaload, 1) := by decide +kernel
theorem dd_PQ_question_61 : decode bb_PQ_question 61 = .ok (.astore_n 3, 1) := by decide +kernel
theorem dd_PQ_question_62 : decode bb_PQ_question 62 = .ok (.aload_n 0, 1) := by decide +kernel
theorem dd_PQ_question_63 : decode bb_PQ_question 63 = .ok (.getfield 63, 3) := by decide +kernel
theorem dd_PQ_question_66 : decode bb_PQ_question 66 = .ok (.iload_n 1, 1) := by decide +kernel
theorem dd_PQ_question_67 : decode bb_PQ_question 67 = .ok (.aload_n 0, 1) := by decide +kernel
theorem dd_PQ_question_68 : decode bb_PQ_question 68 = .ok (.getfield 23, 3) := by decide +kernel
theorem dd_PQ_question_71 : decode bb_PQ_question 71 = .ok (.aastore, 1) := by decide +kernel
theorem dd_PQ_question_72 : decode bb_PQ_question 72 = .ok (.aload_n 0, 1) := by decide +kernel
theorem dd_PQ_question_73 : decode bb_PQ_question 73 = .ok (.aload_n 3, 1) := by decide +kernel
theorem dd_PQ_question_74 : decode bb_PQ_question 74 = .ok (.putfield 23, 3) := by decide +kernel
theorem dd_PQ_question_77 : decode bb_PQ_question 77 = .ok (.aload_n 0, 1) := by decide +kernel
theorem dd_PQ_question_78 : decode bb_PQ_question 78 = .ok (.getfield 73, 3) := by decide +kernel
theorem dd_PQ_question_81 : decode bb_PQ_question 81 = .ok (.iload_n 1, 1) := by decide +kernel
theorem dd_PQ_question_82 : decode bb_PQ_question 82 = .ok (.iconst (-1), 1) := by decide +kernel
theorem dd_PQ_question_83 : decode bb_PQ_question 83 = .ok (.iastore, 1) := by decide +kernel
theorem dd_PQ_question_84 : decode bb_PQ_question 84 = .ok (.aload_n 0, 1) := by decide +kernel
theorem dd_PQ_question_85 : decode bb_PQ_question 85 = .ok (.getfield 63, 3) := by decide +kernel
theorem dd_PQ_question_88 : decode bb_PQ_question 88 = .ok (.iload_n 1, 1) := by decide +kernel
theorem dd_PQ_question_89 : decode bb_PQ_question 89 = .ok (.aaload, 1) := by decide +kernel
theorem dd_PQ_question_90 : decode bb_PQ_question 90 = .ok (.getfield 138, 3) := by decide +kernel
theorem dd_PQ_question_93 : decode bb_PQ_question 93 = .ok (.ireturn, 1) := by decide +kernel
set_option maxRecDepth 100000 in
set_option maxHeartbeats 4000000 in
theorem t_PQ_question_9  (X : zX p s m args cd D cid B bb_PQ_question 4 rr_PQ zT) (H : zH s meth B n0 (some (.int)) "question") {nf : Nat} {x0 : Nat} {c : Zc} {res : Int32 × Zc} (h : f_PQ_question_9 nf x0 c = some res) : Zz p l e (zRm 10 229 0 0) s m args below meth cd (MQ below (zQi D cid B res.1 res.2 n0 0) args s 0 0 (fun q => B ≤ q)) D cid B 4 0 0 c 9 [(0, .ref x0)] [] := by
  unfold f_PQ_question_9 at h
  refine z_aload_n X dd_PQ_question_9 rfl 0 rfl ?_
  obtain ⟨v2, ev2, h⟩ := zb h
  refine z_get (j := 3) X dd_PQ_question_10 kc_11 ki_11 (by decide) km_692 (zgr_v ev2) ?_
  refine z_bipush (v := (-2)) X dd_PQ_question_13 (by decide) ?_
  obtain ⟨c3, ec3, h⟩ := zb h
  refine z_put (j := 0) X dd_PQ_question_15 kc_5 ki_5 tt_Reader tk_Reader nn_Reader (by decide) km_474 rfl (tk_Reader 0 (by decide)) rfl rfl ec3 ?_
  refine z_iconst (v := (-1)) X dd_PQ_question_18 (by decide) ?_
  obtain rfl := Option.some.inj h
  exact z_iret X H.1 H.2.1 H.2.2.1 dd_PQ_question_19
set_option maxRecDepth 100000 in
set_option maxHeartbeats 4000000 in
theorem c_PQ_question (l : Launch) {nf : Nat} {a0 : Nat} {a1 : Int32} {c : Zc} {res : Int32 × Zc} (h : f_PQ_question nf a0 a1 c = some res) : zM l yy_PQ_question ww_PQ_question 10 229 0 0 [.ref a0, .int a1] c (fun D cid B => zQi D cid B res.1 res.2 c.length 0) := by
  refine z_met (cc := bb_PQ_question) (maxL := 4) (ret := (some (.int))) (by decide +kernel) rfl (Nat.le_of_ble_eq_true rfl) ?_
  intro p e s m args below meth cd D cid B X h1 h2 h3 h4
  have X : zX p s m args cd D cid B bb_PQ_question 4 rr_PQ zT := X
  have H : zH s meth B c.length (some (.int)) "question" := ⟨h1, h2, h4, h3⟩
  unfold f_PQ_question at h
  show Zz p l e (zRm 10 229 0 0) s m args below meth cd _ D cid B 4 0 0 c 0 [(0, .ref a0), (1, .int a1)] []
  refine z_iload_n X dd_PQ_question_0 rfl 1 rfl ?_
  refine z_if_lt (tgt := 9) X dd_PQ_question_1 (by decide) (fun q1 => ?_) (fun q1 => ?_)
  · rw [if_pos q1] at h
    refine z_sub [0] rfl ?_
    exact t_PQ_question_9 X H h
  · rw [if_neg q1] at h
    refine z_iload_n X dd_PQ_question_4 rfl 1 rfl ?_
    refine z_iconst (v := 4) X dd_PQ_question_5 (by decide) ?_
    refine z_icmp_lt (tgt := 20) X dd_PQ_question_6 (by decide) (fun q4 => ?_) (fun q4 => ?_)
    · rw [if_pos q4] at h
      refine z_aload_n X dd_PQ_question_20 rfl 0 rfl ?_
      obtain ⟨v5, ev5, h⟩ := zb h
      refine z_get (j := 3) X dd_PQ_question_21 kc_11 ki_11 (by decide) km_692 (zgr_v ev5) ?_
      refine z_aload_n X dd_PQ_question_24 rfl 0 rfl ?_
      obtain ⟨v6, ev6, h⟩ := zb h
      refine z_get (j := 0) X dd_PQ_question_25 kc_11 ki_11 (by decide) km_689 (zgr_v ev6) ?_
      refine z_aload_n X dd_PQ_question_28 rfl 0 rfl ?_
      obtain ⟨v7, ev7, h⟩ := zb h
      refine z_get (j := 10) X dd_PQ_question_29 kc_11 ki_11 (by decide) km_699 (zgi_v ev7) ?_
      refine z_aload_n X dd_PQ_question_32 rfl 0 rfl ?_
      obtain ⟨v8, ev8, h⟩ := zb h
      refine z_get (j := 2) X dd_PQ_question_33 kc_11 ki_11 (by decide) km_691 (zgr_v ev8) ?_
      refine z_iconst (v := 0) X dd_PQ_question_36 (by decide) ?_
      obtain ⟨w10, ew10, h⟩ := zb h
      obtain ⟨q9, eq9, h⟩ := zb h
      refine z_callVi X [.ref v6, .int v7, .ref v8, .int 0] rfl dd_PQ_question_37 (c_Reader_read l eq9) (cwV 4 X.1.2.2.2.2 (zg_V km_812 km_813 km_814 km_130 km_815) rfl rfl rfl (by decide +kernel) ⟨Nat.le_of_ble_eq_true rfl, Nat.le_of_ble_eq_true rfl⟩) (zob_s ew10) kc_5 rfl (Nat.le_of_ble_eq_true rfl) ⟨Nat.le_of_ble_eq_true rfl, Nat.le_of_ble_eq_true rfl⟩ ?_
      refine z_istore_n (lv' := [(2, .int q9.1), (0, .ref a0), (1, .int a1)]) X dd_PQ_question_40 rfl (by decide) rfl ?_
      refine z_aload_n X dd_PQ_question_41 rfl 1 rfl ?_
      refine z_iconst (v := 0) X dd_PQ_question_42 (by decide) ?_
      obtain ⟨c11, ec11, h⟩ := zb h
      refine z_put (j := 10) X dd_PQ_question_43 kc_11 ki_11 tt_PQ tk_PQ nn_PQ (by decide) km_699 rfl (tk_PQ 10 (by decide)) rfl rfl ec11 ?_
      refine z_iload_n X dd_PQ_question_46 rfl 0 rfl ?_
      refine z_if_eq (tgt := 55) X dd_PQ_question_47 (by decide) (fun q12 => ?_) (fun q12 => ?_)
      · rw [if_pos q12] at h
        refine z_aload_n X dd_PQ_question_55 rfl 1 rfl ?_
        obtain ⟨v13, ev13, h⟩ := zb h
        refine z_get (j := 7) X dd_PQ_question_56 kc_11 ki_11 (by decide) km_696 (zgr_v ev13) ?_
        refine z_iload_n X dd_PQ_question_59 rfl 2 rfl ?_
        obtain ⟨v14, ev14, h⟩ := zb h
        refine z_aaload X dd_PQ_question_60 rfl ev14 ?_
        refine z_astore_n (lv' := [(3, .ref v14), (2, .int q9.1), (0, .ref a0), (1, .int a1)]) X dd_PQ_question_61 rfl (by decide) rfl ?_
        refine z_aload_n X dd_PQ_question_62 rfl 2 rfl ?_
        obtain ⟨v15, ev15, h⟩ := zb h
        refine z_get (j := 7) X dd_PQ_question_63 kc_11 ki_11 (by decide) km_696 (zgr_v ev15) ?_
        refine z_iload_n X dd_PQ_question_66 rfl 3 rfl ?_
        refine z_aload_n X dd_PQ_question_67 rfl 2 rfl ?_
        obtain ⟨v16, ev16, h⟩ := zb h
        refine z_get (j := 2) X dd_PQ_question_68 kc_11 ki_11 (by decide) km_691 (zgr_v ev16) ?_
        obtain ⟨c17, ec17, h⟩ := zb h
        refine z_aastore X dd_PQ_question_71 kc_2 rfl ec17 ?_
        refine z_aload_n X dd_PQ_question_72 rfl 2 rfl ?_
        refine z_aload_n X dd_PQ_question_73 rfl 0 rfl ?_
        obtain ⟨c18, ec18, h⟩ := zb h
        refine z_put (j := 2) X dd_PQ_question_74 kc_11 ki_11 tt_PQ tk_PQ nn_PQ (by decide) km_691 rfl (tk_PQ 2 (by decide)) rfl rfl ec18 ?_
        refine z_aload_n X dd_PQ_question_77 rfl 2 rfl ?_
        obtain ⟨v19, ev19, h⟩ := zb h
        refine z_get (j := 9) X dd_PQ_question_78 kc_11 ki_11 (by decide) km_698 (zgr_v ev19) ?_
        refine z_iload_n X dd_PQ_question_81 rfl 3 rfl ?_
        refine z_iconst (v := (-1)) X dd_PQ_question_82 (by decide) ?_
        obtain ⟨c20, ec20, h⟩ := zb h
        refine z_iastore X dd_PQ_question_83 rfl ec20 ?_
        refine z_aload_n X dd_PQ_question_84 rfl 2 rfl ?_
        obtain ⟨v21, ev21, h⟩ := zb h
        refine z_get (j := 7) X dd_PQ_question_85 kc_11 ki_11 (by decide) km_696 (zgr_v ev21) ?_
        refine z_iload_n X dd_PQ_question_88 rfl 3 rfl ?_
        obtain ⟨v22, ev22, h⟩ := zb h
        refine z_aaload X dd_PQ_question_89 rfl ev22 ?_
        obtain ⟨v23, ev23, h⟩ := zb h
        refine z_get (j := 15) X dd_PQ_question_90 kc_2 ki_2 (by decide) km_346 (zgi_v ev23) ?_
        obtain rfl := Option.some.inj h
        exact z_iret X H.1 H.2.1 H.2.2.1 dd_PQ_question_93
      · rw [if_neg q12] at h
        refine z_bipush (v := (-10)) X dd_PQ_question_50 (by decide) ?_
        refine z_iload_n X dd_PQ_question_52 rfl 0 rfl ?_
        refine z_isub X dd_PQ_question_53 ?_
        obtain rfl := Option.some.inj h
        exact z_iret X H.1 H.2.1 H.2.2.1 dd_PQ_question_54
    · rw [if_neg q4] at h
      refine z_sub [0] rfl ?_
      exact t_PQ_question_9 X H h
theorem dd_PQ_rule_0 : decode bb_PQ_rule 0 = .ok (.aload_n 0, 1) := by decide +kernel
theorem dd_PQ_rule_1 : decode bb_PQ_rule 1 = .ok (.getfield 32, 3) := by decide +kernel
theorem dd_PQ_rule_4 : decode bb_PQ_rule 4 = .ok (.aload_n 0, 1) := by decide +kernel
theorem dd_PQ_rule_5 : decode bb_PQ_rule 5 = .ok (.getfield 9, 3) := by decide +kernel
theorem dd_PQ_rule_8 : decode bb_PQ_rule 8 = .ok (.aload_n 0, 1) := by decide +kernel
theorem dd_PQ_rule_9 : decode bb_PQ_rule 9 = .ok (.getfield 77, 3) := by decide +kernel
theorem dd_PQ_rule_12 : decode bb_PQ_rule 12 = .ok (.aload_n 0, 1) := by decide +kernel
theorem dd_PQ_rule_13 : decode bb_PQ_rule 13 = .ok (.getfield 23, 3) := by decide +kernel
theorem dd_PQ_rule_16 : decode bb_PQ_rule 16 = .ok (.iconst 1, 1) := by decide +kernel
theorem dd_PQ_rule_17 : decode bb_PQ_rule 17 = .ok (.invokevirtual 134, 3) := by decide +kernel
theorem dd_PQ_rule_20 : decode bb_PQ_rule 20 = .ok (.istore_n 1, 1) := by decide +kernel
theorem dd_PQ_rule_21 : decode bb_PQ_rule 21 = .ok (.aload_n 0, 1) := by decide +kernel
theorem dd_PQ_rule_22 : decode bb_PQ_rule 22 = .ok (.iconst 0, 1) := by decide +kernel
theorem dd_PQ_rule_23 : decode bb_PQ_rule 23 = .ok (.putfield 77, 3) := by decide +kernel
theorem dd_PQ_rule_26 : decode bb_PQ_rule 26 = .ok (.iload_n 1, 1) := by decide +kernel
theorem dd_PQ_rule_27 : decode bb_PQ_rule 27 = .ok (.ifCond .eq 8, 3) := by decide +kernel
theorem dd_PQ_rule_30 : decode bb_PQ_rule 30 = .ok (.bipush (-10), 2) := by decide +kernel
theorem dd_PQ_rule_32 : decode bb_PQ_rule 32 = .ok (.iload_n 1, 1) := by decide +kernel
theorem dd_PQ_rule_33 : decode bb_PQ_rule 33 = .ok (.isub, 1) := by decide +kernel
theorem dd_PQ_rule_34 : decode bb_PQ_rule 34 = .ok (.ireturn, 1) := by decide +kernel
theorem dd_PQ_rule_35 : decode bb_PQ_rule 35 = .ok (.aload_n 0, 1) := by decide +kernel
theorem dd_PQ_rule_36 : decode bb_PQ_rule 36 = .ok (.getfield 23, 3) := by decide +kernel
theorem dd_PQ_rule_39 : decode bb_PQ_rule 39 = .ok (.getfield 141, 3) := by decide +kernel
theorem dd_PQ_rule_42 : decode bb_PQ_rule 42 = .ok (.istore_n 2, 1) := by decide +kernel
theorem dd_PQ_rule_43 : decode bb_PQ_rule 43 = .ok (.aload_n 0, 1) := by decide +kernel
theorem dd_PQ_rule_44 : decode bb_PQ_rule 44 = .ok (.aload_n 0, 1) := by decide +kernel
theorem dd_PQ_rule_45 : decode bb_PQ_rule 45 = .ok (.getfield 50, 3) := by decide +kernel
theorem dd_PQ_rule_48 : decode bb_PQ_rule 48 = .ok (.aload_n 0, 1) := by decide +kernel
theorem dd_PQ_rule_49 : decode bb_PQ_rule 49 = .ok (.getfield 23, 3) := by decide +kernel
theorem dd_PQ_rule_52 : decode bb_PQ_rule 52 = .ok (.invokevirtual 144, 3) := by decide +kernel
theorem dd_PQ_rule_55 : decode bb_PQ_rule 55 = .ok (.putfield 23, 3) := by decide +kernel
theorem dd_PQ_rule_58 : decode bb_PQ_rule 58 = .ok (.aload_n 0, 1) := by decide +kernel
theorem dd_PQ_rule_59 : decode bb_PQ_rule 59 = .ok (.getfield 16, 3) := by decide +kernel
theorem dd_PQ_rule_62 : decode bb_PQ_rule 62 = .ok (.dup, 1) := by decide +kernel
theorem dd_PQ_rule_63 : decode bb_PQ_rule 63 = .ok (.getfield 148, 3) := by decide +kernel
theorem dd_PQ_rule_66 : decode bb_PQ_rule 66 = .ok (.iconst 1, 1) := by decide +kernel
theorem dd_PQ_rule_67 : decode bb_PQ_rule 67 = .ok (.iadd, 1) := by decide +kernel
theorem dd_PQ_rule_68 : decode bb_PQ_rule 68 = .ok (.putfield 148, 3) := by decide +kernel
theorem dd_PQ_rule_71 : decode bb_PQ_rule 71 = .ok (.iload_n 2, 1) := by decide +kernel
theorem dd_PQ_rule_72 : decode bb_PQ_rule 72 = .ok (.ireturn, 1) := by decide +kernel
set_option maxRecDepth 100000 in
set_option maxHeartbeats 4000000 in
theorem c_PQ_rule (l : Launch) {nf : Nat} {a0 : Nat} {c : Zc} {res : Int32 × Zc} (h : f_PQ_rule nf a0 c = some res) : zM l yy_PQ_rule ww_PQ_rule 10 229 0 0 [.ref a0] c (fun D cid B => zQi D cid B res.1 res.2 c.length 0) := by
  refine z_met (cc := bb_PQ_rule) (maxL := 3) (ret := (some (.int))) (by decide +kernel) rfl (Nat.le_of_ble_eq_true rfl) ?_
  intro p e s m args below meth cd D cid B X h1 h2 h3 h4
  have X : zX p s m args cd D cid B bb_PQ_rule 3 rr_PQ zT := X
  have H : zH s meth B c.length (some (.int)) "rule" := ⟨h1, h2, h4, h3⟩
  unfold f_PQ_rule at h
  show Zz p l e (zRm 10 229 0 0) s m args below meth cd _ D cid B 3 0 0 c 0 [(0, .ref a0)] []
  refine z_aload_n X dd_PQ_rule_0 rfl 0 rfl ?_
  obtain ⟨v1, ev1, h⟩ := zb h
  refine z_get (j := 3) X dd_PQ_rule_1 kc_11 ki_11 (by decide) km_692 (zgr_v ev1) ?_
  refine z_aload_n X dd_PQ_rule_4 rfl 0 rfl ?_
  obtain ⟨v2, ev2, h⟩ := zb h
  refine z_get (j := 0) X dd_PQ_rule_5 kc_11 ki_11 (by decide) km_689 (zgr_v ev2) ?_
  refine z_aload_n X dd_PQ_rule_8 rfl 0 rfl ?_
  obtain ⟨v3, ev3, h⟩ := zb h
  refine z_get (j := 10) X dd_PQ_rule_9 kc_11 ki_11 (by decide) km_699 (zgi_v ev3) ?_
  refine z_aload_n X dd_PQ_rule_12 rfl 0 rfl ?_
  obtain ⟨v4, ev4, h⟩ := zb h
  refine z_get (j := 2) X dd_PQ_rule_13 kc_11 ki_11 (by decide) km_691 (zgr_v ev4) ?_
  refine z_iconst (v := 1) X dd_PQ_rule_16 (by decide) ?_
  obtain ⟨w6, ew6, h⟩ := zb h
  obtain ⟨q5, eq5, h⟩ := zb h
  refine z_callVi X [.ref v2, .int v3, .ref v4, .int 1] rfl dd_PQ_rule_17 (c_Reader_read l eq5) (cwV 4 X.1.2.2.2.2 (zg_V km_812 km_813 km_814 km_130 km_815) rfl rfl rfl (by decide +kernel) ⟨Nat.le_of_ble_eq_true rfl, Nat.le_of_ble_eq_true rfl⟩) (zob_s ew6) kc_5 rfl (Nat.le_of_ble_eq_true rfl) ⟨Nat.le_of_ble_eq_true rfl, Nat.le_of_ble_eq_true rfl⟩ ?_
  refine z_istore_n (lv' := [(1, .int q5.1), (0, .ref a0)]) X dd_PQ_rule_20 rfl (by decide) rfl ?_
  refine z_aload_n X dd_PQ_rule_21 rfl 1 rfl ?_
  refine z_iconst (v := 0) X dd_PQ_rule_22 (by decide) ?_
  obtain ⟨c7, ec7, h⟩ := zb h
  refine z_put (j := 10) X dd_PQ_rule_23 kc_11 ki_11 tt_PQ tk_PQ nn_PQ (by decide) km_699 rfl (tk_PQ 10 (by decide)) rfl rfl ec7 ?_
  refine z_iload_n X dd_PQ_rule_26 rfl 0 rfl ?_
  refine z_if_eq (tgt := 35) X dd_PQ_rule_27 (by decide) (fun q8 => ?_) (fun q8 => ?_)
  · rw [if_pos q8] at h
    refine z_aload_n X dd_PQ_rule_35 rfl 1 rfl ?_
    obtain ⟨v9, ev9, h⟩ := zb h
    refine z_get (j := 2) X dd_PQ_rule_36 kc_11 ki_11 (by decide) km_691 (zgr_v ev9) ?_
    obtain ⟨v10, ev10, h⟩ := zb h
    refine z_get (j := 1) X dd_PQ_rule_39 kc_2 ki_2 (by decide) km_305 (zgi_v ev10) ?_
    refine z_istore_n (lv' := [(2, .int v10), (1, .int q5.1), (0, .ref a0)]) X dd_PQ_rule_42 rfl (by decide) rfl ?_
    refine z_aload_n X dd_PQ_rule_43 rfl 2 rfl ?_
    refine z_aload_n X dd_PQ_rule_44 rfl 2 rfl ?_
    obtain ⟨v11, ev11, h⟩ := zb h
    refine z_get (j := 5) X dd_PQ_rule_45 kc_11 ki_11 (by decide) km_694 (zgr_v ev11) ?_
    refine z_aload_n X dd_PQ_rule_48 rfl 2 rfl ?_
    obtain ⟨v12, ev12, h⟩ := zb h
    refine z_get (j := 2) X dd_PQ_rule_49 kc_11 ki_11 (by decide) km_691 (zgr_v ev12) ?_
    obtain ⟨w14, ew14, h⟩ := zb h
    obtain ⟨q13, eq13, h⟩ := zb h
    refine z_callVr X [.ref v12] rfl dd_PQ_rule_52 (c_RuleBook_replace l eq13) (cwV 1 X.1.2.2.2.2 (zg_V km_1234 km_1235 km_1236 km_135 km_1237) rfl rfl rfl (by decide +kernel) ⟨Nat.le_of_ble_eq_true rfl, Nat.le_of_ble_eq_true rfl⟩) (zob_s ew14) kc_8 rfl (Nat.le_of_ble_eq_true rfl) ⟨Nat.le_of_ble_eq_true rfl, Nat.le_of_ble_eq_true rfl⟩ ?_
    obtain ⟨c15, ec15, h⟩ := zb h
    refine z_put (j := 2) X dd_PQ_rule_55 kc_11 ki_11 tt_PQ tk_PQ nn_PQ (by decide) km_691 rfl (tk_PQ 2 (by decide)) rfl rfl ec15 ?_
    refine z_aload_n X dd_PQ_rule_58 rfl 2 rfl ?_
    obtain ⟨v16, ev16, h⟩ := zb h
    refine z_get (j := 1) X dd_PQ_rule_59 kc_11 ki_11 (by decide) km_690 (zgr_v ev16) ?_
    refine z_dup X dd_PQ_rule_62 rfl ?_
    obtain ⟨v17, ev17, h⟩ := zb h
    refine z_get (j := 9) X dd_PQ_rule_63 kc_0 ki_0 (by decide) km_183 (zgi_v ev17) ?_
    refine z_iconst (v := 1) X dd_PQ_rule_66 (by decide) ?_
    refine z_iadd X dd_PQ_rule_67 ?_
    obtain ⟨c18, ec18, h⟩ := zb h
    refine z_put (j := 9) X dd_PQ_rule_68 kc_0 ki_0 tt_Graph tk_Graph nn_Graph (by decide) km_183 rfl (tk_Graph 9 (by decide)) rfl rfl ec18 ?_
    refine z_iload_n X dd_PQ_rule_71 rfl 0 rfl ?_
    obtain rfl := Option.some.inj h
    exact z_iret X H.1 H.2.1 H.2.2.1 dd_PQ_rule_72
  · rw [if_neg q8] at h
    refine z_bipush (v := (-10)) X dd_PQ_rule_30 (by decide) ?_
    refine z_iload_n X dd_PQ_rule_32 rfl 0 rfl ?_
    refine z_isub X dd_PQ_rule_33 ?_
    obtain rfl := Option.some.inj h
    exact z_iret X H.1 H.2.1 H.2.2.1 dd_PQ_rule_34
theorem dd_PQ_forget_0 : decode bb_PQ_forget 0 = .ok (.iload_n 1, 1) := by decide +kernel
theorem dd_PQ_forget_1 : decode bb_PQ_forget 1 = .ok (.ifCond .lt 8, 3) := by decide +kernel
theorem dd_PQ_forget_4 : decode bb_PQ_forget 4 = .ok (.iload_n 1, 1) := by decide +kernel
theorem dd_PQ_forget_5 : decode bb_PQ_forget 5 = .ok (.iconst 4, 1) := by decide +kernel
theorem dd_PQ_forget_6 : decode bb_PQ_forget 6 = .ok (.if_icmp .lt 5, 3) := by decide +kernel
theorem dd_PQ_forget_9 : decode bb_PQ_forget 9 = .ok (.iconst (-1), 1) := by decide +kernel
theorem dd_PQ_forget_10 : decode bb_PQ_forget 10 = .ok (.ireturn, 1) := by decide +kernel
theorem dd_PQ_forget_11 : decode bb_PQ_forget 11 = .ok (.aload_n 0, 1) := by decide +kernel
theorem dd_PQ_forget_12 : decode bb_PQ_forget 12 = .ok (.getfield 50, 3) := by decide +kernel
theorem dd_PQ_forget_15 : decode bb_PQ_forget 15 = .ok (.iload_n 1, 1) := by decide +kernel
theorem dd_PQ_forget_16 : decode bb_PQ_forget 16 = .ok (.invokevirtual 151, 3) := by decide +kernel
theorem dd_PQ_forget_19 : decode bb_PQ_forget 19 = .ok (.ifCond .ne 6, 3) := by decide +kernel
theorem dd_PQ_forget_22 : decode bb_PQ_forget 22 = .ok (.bipush (-2), 2) := by decide +kernel
theorem dd_PQ_forget_24 : decode bb_PQ_forget 24 = .ok (.ireturn, 1) := by decide +kernel
theorem dd_PQ_forget_25 : decode bb_PQ_forget 25 = .ok (.aload_n 0, 1) := by decide +kernel
theorem dd_PQ_forget_26 : decode bb_PQ_forget 26 = .ok (.getfield 50, 3) := by decide +kernel
theorem dd_PQ_forget_29 : decode bb_PQ_forget 29 = .ok (.getfield 154, 3) := by decide +kernel
theorem dd_PQ_forget_32 : decode bb_PQ_forget 32 = .ok (.iload_n 1, 1) := by decide +kernel
theorem dd_PQ_forget_33 : decode bb_PQ_forget 33 = .ok (.aaload, 1) := by decide +kernel
theorem dd_PQ_forget_34 : decode bb_PQ_forget 34 = .ok (.iconst 0, 1) := by decide +kernel
theorem dd_PQ_forget_35 : decode bb_PQ_forget 35 = .ok (.putfield 157, 3) := by decide +kernel
theorem dd_PQ_forget_38 : decode bb_PQ_forget 38 = .ok (.aload_n 0, 1) := by decide +kernel
theorem dd_PQ_forget_39 : decode bb_PQ_forget 39 = .ok (.getfield 16, 3) := by decide +kernel
theorem dd_PQ_forget_42 : decode bb_PQ_forget 42 = .ok (.dup, 1) := by decide +kernel
theorem dd_PQ_forget_43 : decode bb_PQ_forget 43 = .ok (.getfield 148, 3) := by decide +kernel
theorem dd_PQ_forget_46 : decode bb_PQ_forget 46 = .ok (.iconst 1, 1) := by decide +kernel
theorem dd_PQ_forget_47 : decode bb_PQ_forget 47 = .ok (.iadd, 1) := by decide +kernel
theorem dd_PQ_forget_48 : decode bb_PQ_forget 48 = .ok (.putfield 148, 3) := by decide +kernel
theorem dd_PQ_forget_51 : decode bb_PQ_forget 51 = .ok (.iconst 1, 1) := by decide +kernel
theorem dd_PQ_forget_52 : decode bb_PQ_forget 52 = .ok (.ireturn, 1) := by decide +kernel
set_option maxRecDepth 100000 in
set_option maxHeartbeats 4000000 in
theorem t_PQ_forget_9  (X : zX p s m args cd D cid B bb_PQ_forget 2 rr_PQ zT) (H : zH s meth B n0 (some (.int)) "forget") {nf : Nat}  {c : Zc} {res : Int32 × Zc} (h : f_PQ_forget_9 nf  c = some res) : Zz p l e (zRm 1 21 0 0) s m args below meth cd (MQ below (zQi D cid B res.1 res.2 n0 0) args s 0 0 (fun q => B ≤ q)) D cid B 2 0 0 c 9 [] [] := by
  unfold f_PQ_forget_9 at h
  refine z_iconst (v := (-1)) X dd_PQ_forget_9 (by decide) ?_
  obtain rfl := Option.some.inj h
  exact z_iret X H.1 H.2.1 H.2.2.1 dd_PQ_forget_10
set_option maxRecDepth 100000 in
set_option maxHeartbeats 4000000 in
theorem c_PQ_forget (l : Launch) {nf : Nat} {a0 : Nat} {a1 : Int32} {c : Zc} {res : Int32 × Zc} (h : f_PQ_forget nf a0 a1 c = some res) : zM l yy_PQ_forget ww_PQ_forget 1 21 0 0 [.ref a0, .int a1] c (fun D cid B => zQi D cid B res.1 res.2 c.length 0) := by
  refine z_met (cc := bb_PQ_forget) (maxL := 2) (ret := (some (.int))) (by decide +kernel) rfl (Nat.le_of_ble_eq_true rfl) ?_
  intro p e s m args below meth cd D cid B X h1 h2 h3 h4
  have X : zX p s m args cd D cid B bb_PQ_forget 2 rr_PQ zT := X
  have H : zH s meth B c.length (some (.int)) "forget" := ⟨h1, h2, h4, h3⟩
  unfold f_PQ_forget at h
  show Zz p l e (zRm 1 21 0 0) s m args below meth cd _ D cid B 2 0 0 c 0 [(0, .ref a0), (1, .int a1)] []
  refine z_iload_n X dd_PQ_forget_0 rfl 1 rfl ?_
  refine z_if_lt (tgt := 9) X dd_PQ_forget_1 (by decide) (fun q1 => ?_) (fun q1 => ?_)
  · rw [if_pos q1] at h
    refine z_sub [] rfl ?_
    exact t_PQ_forget_9 X H h
  · rw [if_neg q1] at h
    refine z_iload_n X dd_PQ_forget_4 rfl 1 rfl ?_
    refine z_iconst (v := 4) X dd_PQ_forget_5 (by decide) ?_
    refine z_icmp_lt (tgt := 11) X dd_PQ_forget_6 (by decide) (fun q2 => ?_) (fun q2 => ?_)
    · rw [if_pos q2] at h
      refine z_aload_n X dd_PQ_forget_11 rfl 0 rfl ?_
      obtain ⟨v3, ev3, h⟩ := zb h
      refine z_get (j := 5) X dd_PQ_forget_12 kc_11 ki_11 (by decide) km_694 (zgr_v ev3) ?_
      refine z_iload_n X dd_PQ_forget_15 rfl 1 rfl ?_
      obtain ⟨w5, ew5, h⟩ := zb h
      obtain ⟨q4, eq4, h⟩ := zb h
      refine z_callVi X [.int a1] rfl dd_PQ_forget_16 (c_RuleBook_has l eq4) (cwV 1 X.1.2.2.2.2 (zg_V km_1242 km_1243 km_1244 km_135 km_1245) rfl rfl rfl (by decide +kernel) ⟨Nat.le_of_ble_eq_true rfl, Nat.le_of_ble_eq_true rfl⟩) (zob_s ew5) kc_8 rfl (Nat.le_of_ble_eq_true rfl) ⟨Nat.le_of_ble_eq_true rfl, Nat.le_of_ble_eq_true rfl⟩ ?_
      refine z_if_ne (tgt := 25) X dd_PQ_forget_19 (by decide) (fun q6 => ?_) (fun q6 => ?_)
      · rw [if_neg q6] at h
        refine z_aload_n X dd_PQ_forget_25 rfl 0 rfl ?_
        obtain ⟨v7, ev7, h⟩ := zb h
        refine z_get (j := 5) X dd_PQ_forget_26 kc_11 ki_11 (by decide) km_694 (zgr_v ev7) ?_
        obtain ⟨v8, ev8, h⟩ := zb h
        refine z_get (j := 0) X dd_PQ_forget_29 kc_8 ki_8 (by decide) km_623 (zgr_v ev8) ?_
        refine z_iload_n X dd_PQ_forget_32 rfl 1 rfl ?_
        obtain ⟨v9, ev9, h⟩ := zb h
        refine z_aaload X dd_PQ_forget_33 rfl ev9 ?_
        refine z_iconst (v := 0) X dd_PQ_forget_34 (by decide) ?_
        obtain ⟨c10, ec10, h⟩ := zb h
        refine z_put (j := 0) X dd_PQ_forget_35 kc_2 ki_2 tt_Text tk_Text nn_Text (by decide) km_301 rfl (tk_Text 0 (by decide)) rfl rfl ec10 ?_
        refine z_aload_n X dd_PQ_forget_38 rfl 0 rfl ?_
        obtain ⟨v11, ev11, h⟩ := zb h
        refine z_get (j := 1) X dd_PQ_forget_39 kc_11 ki_11 (by decide) km_690 (zgr_v ev11) ?_
        refine z_dup X dd_PQ_forget_42 rfl ?_
        obtain ⟨v12, ev12, h⟩ := zb h
        refine z_get (j := 9) X dd_PQ_forget_43 kc_0 ki_0 (by decide) km_183 (zgi_v ev12) ?_
        refine z_iconst (v := 1) X dd_PQ_forget_46 (by decide) ?_
        refine z_iadd X dd_PQ_forget_47 ?_
        obtain ⟨c13, ec13, h⟩ := zb h
        refine z_put (j := 9) X dd_PQ_forget_48 kc_0 ki_0 tt_Graph tk_Graph nn_Graph (by decide) km_183 rfl (tk_Graph 9 (by decide)) rfl rfl ec13 ?_
        refine z_iconst (v := 1) X dd_PQ_forget_51 (by decide) ?_
        obtain rfl := Option.some.inj h
        exact z_iret X H.1 H.2.1 H.2.2.1 dd_PQ_forget_52
      · rw [if_pos q6] at h
        refine z_bipush (v := (-2)) X dd_PQ_forget_22 (by decide) ?_
        obtain rfl := Option.some.inj h
        exact z_iret X H.1 H.2.1 H.2.2.1 dd_PQ_forget_24
    · rw [if_neg q2] at h
      refine z_sub [] rfl ?_
      exact t_PQ_forget_9 X H h
theorem dd_PQ_place_0 : decode bb_PQ_place 0 = .ok (.aload_n 0, 1) := by decide +kernel
theorem dd_PQ_place_1 : decode bb_PQ_place 1 = .ok (.getfield 32, 3) := by decide +kernel
theorem dd_PQ_place_4 : decode bb_PQ_place 4 = .ok (.getfield 131, 3) := by decide +kernel
theorem dd_PQ_place_7 : decode bb_PQ_place 7 = .ok (.ireturn, 1) := by decide +kernel
set_option maxRecDepth 100000 in
set_option maxHeartbeats 4000000 in
theorem c_PQ_place (l : Launch) {nf : Nat} {a0 : Nat} {c : Zc} {res : Int32 × Zc} (h : f_PQ_place nf a0 c = some res) : zM l yy_PQ_place ww_PQ_place 0 0 0 0 [.ref a0] c (fun D cid B => zQi D cid B res.1 res.2 c.length 0) := by
  refine z_met (cc := bb_PQ_place) (maxL := 1) (ret := (some (.int))) (by decide +kernel) rfl (Nat.le_of_ble_eq_true rfl) ?_
  intro p e s m args below meth cd D cid B X h1 h2 h3 h4
  have X : zX p s m args cd D cid B bb_PQ_place 1 rr_PQ zT := X
  have H : zH s meth B c.length (some (.int)) "place" := ⟨h1, h2, h4, h3⟩
  unfold f_PQ_place at h
  show Zz p l e (zRm 0 0 0 0) s m args below meth cd _ D cid B 1 0 0 c 0 [(0, .ref a0)] []
  refine z_aload_n X dd_PQ_place_0 rfl 0 rfl ?_
  obtain ⟨v1, ev1, h⟩ := zb h
  refine z_get (j := 3) X dd_PQ_place_1 kc_11 ki_11 (by decide) km_692 (zgr_v ev1) ?_
  obtain ⟨v2, ev2, h⟩ := zb h
  refine z_get (j := 0) X dd_PQ_place_4 kc_5 ki_5 (by decide) km_474 (zgi_v ev2) ?_
  obtain rfl := Option.some.inj h
  exact z_iret X H.1 H.2.1 H.2.2.1 dd_PQ_place_7
theorem dd_PQ_ask_0 : decode bb_PQ_ask 0 = .ok (.iload_n 1, 1) := by decide +kernel
theorem dd_PQ_ask_1 : decode bb_PQ_ask 1 = .ok (.ifCond .lt 8, 3) := by decide +kernel
theorem dd_PQ_ask_4 : decode bb_PQ_ask 4 = .ok (.iload_n 1, 1) := by decide +kernel
theorem dd_PQ_ask_5 : decode bb_PQ_ask 5 = .ok (.iconst 4, 1) := by decide +kernel
theorem dd_PQ_ask_6 : decode bb_PQ_ask 6 = .ok (.if_icmp .lt 5, 3) := by decide +kernel
theorem dd_PQ_ask_9 : decode bb_PQ_ask 9 = .ok (.iconst (-1), 1) := by decide +kernel
theorem dd_PQ_ask_10 : decode bb_PQ_ask 10 = .ok (.ireturn, 1) := by decide +kernel
theorem dd_PQ_ask_11 : decode bb_PQ_ask 11 = .ok (.aload_n 0, 1) := by decide +kernel
theorem dd_PQ_ask_12 : decode bb_PQ_ask 12 = .ok (.getfield 63, 3) := by decide +kernel
theorem dd_PQ_ask_15 : decode bb_PQ_ask 15 = .ok (.iload_n 1, 1) := by decide +kernel
theorem dd_PQ_ask_16 : decode bb_PQ_ask 16 = .ok (.aaload, 1) := by decide +kernel
theorem dd_PQ_ask_17 : decode bb_PQ_ask 17 = .ok (.astore_n 2, 1) := by decide +kernel
theorem dd_PQ_ask_18 : decode bb_PQ_ask 18 = .ok (.aload_n 2, 1) := by decide +kernel
theorem dd_PQ_ask_19 : decode bb_PQ_ask 19 = .ok (.getfield 157, 3) := by decide +kernel
theorem dd_PQ_ask_22 : decode bb_PQ_ask 22 = .ok (.ifCond .ne 6, 3) := by decide +kernel
theorem dd_PQ_ask_25 : decode bb_PQ_ask 25 = .ok (.bipush (-2), 2) := by decide +kernel
theorem dd_PQ_ask_27 : decode bb_PQ_ask 27 = .ok (.ireturn, 1) := by decide +kernel
theorem dd_PQ_ask_28 : decode bb_PQ_ask 28 = .ok (.aload_n 0, 1) := by decide +kernel
theorem dd_PQ_ask_29 : decode bb_PQ_ask 29 = .ok (.getfield 50, 3) := by decide +kernel
theorem dd_PQ_ask_32 : decode bb_PQ_ask 32 = .ok (.invokevirtual 161, 3) := by decide +kernel
theorem dd_PQ_ask_35 : decode bb_PQ_ask 35 = .ok (.ifCond .ne 21, 3) := by decide +kernel
theorem dd_PQ_ask_38 : decode bb_PQ_ask 38 = .ok (.aload_n 2, 1) := by decide +kernel
theorem dd_PQ_ask_39 : decode bb_PQ_ask 39 = .ok (.aload_n 0, 1) := by decide +kernel
theorem dd_PQ_ask_40 : decode bb_PQ_ask 40 = .ok (.getfield 16, 3) := by decide +kernel
theorem dd_PQ_ask_43 : decode bb_PQ_ask 43 = .ok (.getfield 115, 3) := by decide +kernel
theorem dd_PQ_ask_46 : decode bb_PQ_ask 46 = .ok (.invokevirtual 165, 3) := by decide +kernel
theorem dd_PQ_ask_49 : decode bb_PQ_ask 49 = .ok (.ldc2_w 169, 3) := by decide +kernel
theorem dd_PQ_ask_52 : decode bb_PQ_ask 52 = .ok (.lcmp, 1) := by decide +kernel
theorem dd_PQ_ask_53 : decode bb_PQ_ask 53 = .ok (.ifCond .le 6, 3) := by decide +kernel
theorem dd_PQ_ask_56 : decode bb_PQ_ask 56 = .ok (.bipush (-4), 2) := by decide +kernel
theorem dd_PQ_ask_58 : decode bb_PQ_ask 58 = .ok (.ireturn, 1) := by decide +kernel
theorem dd_PQ_ask_59 : decode bb_PQ_ask 59 = .ok (.aload_n 0, 1) := by decide +kernel
theorem dd_PQ_ask_60 : decode bb_PQ_ask 60 = .ok (.getfield 73, 3) := by decide +kernel
theorem dd_PQ_ask_63 : decode bb_PQ_ask 63 = .ok (.iload_n 1, 1) := by decide +kernel
theorem dd_PQ_ask_64 : decode bb_PQ_ask 64 = .ok (.iaload, 1) := by decide +kernel
theorem dd_PQ_ask_65 : decode bb_PQ_ask 65 = .ok (.aload_n 0, 1) := by decide +kernel
theorem dd_PQ_ask_66 : decode bb_PQ_ask 66 = .ok (.getfield 16, 3) := by decide +kernel
theorem dd_PQ_ask_69 : decode bb_PQ_ask 69 = .ok (.getfield 148, 3) := by decide +kernel
theorem dd_PQ_ask_72 : decode bb_PQ_ask 72 = .ok (.if_icmp .eq 30, 3) := by decide +kernel
theorem dd_PQ_ask_75 : decode bb_PQ_ask 75 = .ok (.aload_n 0, 1) := by decide +kernel
theorem dd_PQ_ask_76 : decode bb_PQ_ask 76 = .ok (.getfield 59, 3) := by decide +kernel
theorem dd_PQ_ask_79 : decode bb_PQ_ask 79 = .ok (.aload_n 2, 1) := by decide +kernel
theorem dd_PQ_ask_80 : decode bb_PQ_ask 80 = .ok (.aload_n 0, 1) := by decide +kernel
theorem dd_PQ_ask_81 : decode bb_PQ_ask 81 = .ok (.getfield 69, 3) := by decide +kernel
theorem dd_PQ_ask_84 : decode bb_PQ_ask 84 = .ok (.iload_n 1, 1) := by decide +kernel
theorem dd_PQ_ask_85 : decode bb_PQ_ask 85 = .ok (.aaload, 1) := by decide +kernel
theorem dd_PQ_ask_86 : decode bb_PQ_ask 86 = .ok (.invokevirtual 171, 3) := by decide +kernel
theorem dd_PQ_ask_89 : decode bb_PQ_ask 89 = .ok (.aload_n 0, 1) := by decide +kernel
theorem dd_PQ_ask_90 : decode bb_PQ_ask 90 = .ok (.getfield 73, 3) := by decide +kernel
theorem dd_PQ_ask_93 : decode bb_PQ_ask 93 = .ok (.iload_n 1, 1) := by decide +kernel
theorem dd_PQ_ask_94 : decode bb_PQ_ask 94 = .ok (.aload_n 0, 1) := by decide +kernel
theorem dd_PQ_ask_95 : decode bb_PQ_ask 95 = .ok (.getfield 16, 3) := by decide +kernel
theorem dd_PQ_ask_98 : decode bb_PQ_ask 98 = .ok (.getfield 148, 3) := by decide +kernel
theorem dd_PQ_ask_101 : decode bb_PQ_ask 101 = .ok (.iastore, 1) := by decide +kernel
theorem dd_PQ_ask_102 : decode bb_PQ_ask 102 = .ok (.aload_n 0, 1) := by decide +kernel
theorem dd_PQ_ask_103 : decode bb_PQ_ask 103 = .ok (.getfield 69, 3) := by decide +kernel
theorem dd_PQ_ask_106 : decode bb_PQ_ask 106 = .ok (.iload_n 1, 1) := by decide +kernel
theorem dd_PQ_ask_107 : decode bb_PQ_ask 107 = .ok (.aaload, 1) := by decide +kernel
theorem dd_PQ_ask_108 : decode bb_PQ_ask 108 = .ok (.getfield 175, 3) := by decide +kernel
theorem dd_PQ_ask_111 : decode bb_PQ_ask 111 = .ok (.ireturn, 1) := by decide +kernel
set_option maxRecDepth 100000 in
set_option maxHeartbeats 4000000 in
theorem t_PQ_ask_9  (X : zX p s m args cd D cid B bb_PQ_ask 3 rr_PQ zT) (H : zH s meth B n0 (some (.int)) "ask") {nf : Nat} {kk : Nat} {nn : Nat} {c : Zc} {res : Nat × Nat × Int32 × Zc} (h : f_PQ_ask_9 nf kk nn c = some res) : ((kk ≤ res.1 ∧ nn ≤ res.2.1) ∧ Zz p l e (zRm 7 174 res.1 res.2.1) s m args below meth cd (MQ below (zQi D cid B res.2.2.1 res.2.2.2 n0 res.1) args s res.1 res.2.1 (fun q => B ≤ q)) D cid B 3 kk nn c 9 [] []) := by
  unfold f_PQ_ask_9 at h
  refine zpr (z_iconst (v := (-1)) X dd_PQ_ask_9 (by decide)) ?_
  obtain rfl := Option.some.inj h
  exact ⟨⟨Nat.le_refl _, Nat.le_refl _⟩, z_iret X H.1 H.2.1 H.2.2.1 dd_PQ_ask_10⟩
set_option maxRecDepth 100000 in
set_option maxHeartbeats 4000000 in
theorem t_PQ_ask_56  (X : zX p s m args cd D cid B bb_PQ_ask 3 rr_PQ zT) (H : zH s meth B n0 (some (.int)) "ask") {nf : Nat} {kk : Nat} {nn : Nat} {c : Zc} {res : Nat × Nat × Int32 × Zc} (h : f_PQ_ask_56 nf kk nn c = some res) : ((kk ≤ res.1 ∧ nn ≤ res.2.1) ∧ Zz p l e (zRm 7 174 res.1 res.2.1) s m args below meth cd (MQ below (zQi D cid B res.2.2.1 res.2.2.2 n0 res.1) args s res.1 res.2.1 (fun q => B ≤ q)) D cid B 3 kk nn c 56 [] []) := by
  unfold f_PQ_ask_56 at h
  refine zpr (z_bipush (v := (-4)) X dd_PQ_ask_56 (by decide)) ?_
  obtain rfl := Option.some.inj h
  exact ⟨⟨Nat.le_refl _, Nat.le_refl _⟩, z_iret X H.1 H.2.1 H.2.2.1 dd_PQ_ask_58⟩
set_option maxRecDepth 100000 in
set_option maxHeartbeats 4000000 in
theorem t_PQ_ask_102  (X : zX p s m args cd D cid B bb_PQ_ask 3 rr_PQ zT) (H : zH s meth B n0 (some (.int)) "ask") {nf : Nat} {x0 : Nat} {x1 : Int32} {kk : Nat} {nn : Nat} {c : Zc} {res : Nat × Nat × Int32 × Zc} (h : f_PQ_ask_102 nf x0 x1 kk nn c = some res) : ((kk ≤ res.1 ∧ nn ≤ res.2.1) ∧ Zz p l e (zRm 7 174 res.1 res.2.1) s m args below meth cd (MQ below (zQi D cid B res.2.2.1 res.2.2.2 n0 res.1) args s res.1 res.2.1 (fun q => B ≤ q)) D cid B 3 kk nn c 102 [(0, .ref x0), (1, .int x1)] []) := by
  unfold f_PQ_ask_102 at h
  refine zpr (z_aload_n X dd_PQ_ask_102 rfl 0 rfl) ?_
  obtain ⟨v21, ev21, h⟩ := zb h
  refine zpr (z_get (j := 8) X dd_PQ_ask_103 kc_11 ki_11 (by decide) km_697 (zgr_v ev21)) ?_
  refine zpr (z_iload_n X dd_PQ_ask_106 rfl 1 rfl) ?_
  obtain ⟨v22, ev22, h⟩ := zb h
  refine zpr (z_aaload X dd_PQ_ask_107 rfl ev22) ?_
  obtain ⟨v23, ev23, h⟩ := zb h
  refine zpr (z_get (j := 0) X dd_PQ_ask_108 kc_9 ki_9 (by decide) km_656 (zgi_v ev23)) ?_
  obtain rfl := Option.some.inj h
  exact ⟨⟨Nat.le_refl _, Nat.le_refl _⟩, z_iret X H.1 H.2.1 H.2.2.1 dd_PQ_ask_111⟩
set_option maxRecDepth 100000 in
set_option maxHeartbeats 4000000 in
theorem t_PQ_ask_89  (X : zX p s m args cd D cid B bb_PQ_ask 3 rr_PQ zT) (H : zH s meth B n0 (some (.int)) "ask") {nf : Nat} {x0 : Nat} {x1 : Int32} {kk : Nat} {nn : Nat} {c : Zc} {res : Nat × Nat × Int32 × Zc} (h : f_PQ_ask_89 nf x0 x1 kk nn c = some res) : ((kk ≤ res.1 ∧ nn ≤ res.2.1) ∧ Zz p l e (zRm 7 174 res.1 res.2.1) s m args below meth cd (MQ below (zQi D cid B res.2.2.1 res.2.2.2 n0 res.1) args s res.1 res.2.1 (fun q => B ≤ q)) D cid B 3 kk nn c 89 [(0, .ref x0), (1, .int x1)] []) := by
  unfold f_PQ_ask_89 at h
  refine zpr (z_aload_n X dd_PQ_ask_89 rfl 0 rfl) ?_
  obtain ⟨v29, ev29, h⟩ := zb h
  refine zpr (z_get (j := 9) X dd_PQ_ask_90 kc_11 ki_11 (by decide) km_698 (zgr_v ev29)) ?_
  refine zpr (z_iload_n X dd_PQ_ask_93 rfl 1 rfl) ?_
  refine zpr (z_aload_n X dd_PQ_ask_94 rfl 0 rfl) ?_
  obtain ⟨v30, ev30, h⟩ := zb h
  refine zpr (z_get (j := 1) X dd_PQ_ask_95 kc_11 ki_11 (by decide) km_690 (zgr_v ev30)) ?_
  obtain ⟨v31, ev31, h⟩ := zb h
  refine zpr (z_get (j := 9) X dd_PQ_ask_98 kc_0 ki_0 (by decide) km_183 (zgi_v ev31)) ?_
  obtain ⟨c32, ec32, h⟩ := zb h
  refine zpr (z_iastore X dd_PQ_ask_101 rfl ec32) ?_
  exact t_PQ_ask_102 X H h
set_option maxRecDepth 100000 in
set_option maxHeartbeats 4000000 in
theorem c_PQ_ask (l : Launch) {nf : Nat} {a0 : Nat} {a1 : Int32} {c : Zc} {res : Nat × Nat × Int32 × Zc} (h : f_PQ_ask nf a0 a1 c = some res) : zM l yy_PQ_ask ww_PQ_ask 7 174 res.1 res.2.1 [.ref a0, .int a1] c (fun D cid B => zQi D cid B res.2.2.1 res.2.2.2 c.length res.1) := by
  refine z_met (cc := bb_PQ_ask) (maxL := 3) (ret := (some (.int))) (by decide +kernel) rfl (Nat.le_of_ble_eq_true rfl) ?_
  intro p e s m args below meth cd D cid B X h1 h2 h3 h4
  have X : zX p s m args cd D cid B bb_PQ_ask 3 rr_PQ zT := X
  have H : zH s meth B c.length (some (.int)) "ask" := ⟨h1, h2, h4, h3⟩
  unfold f_PQ_ask at h
  show Zz p l e (zRm 7 174 res.1 res.2.1) s m args below meth cd _ D cid B 3 0 0 c 0 [(0, .ref a0), (1, .int a1)] []
  refine And.right (a := (0 ≤ res.1 ∧ 0 ≤ res.2.1)) ?_
  refine zpr (z_iload_n X dd_PQ_ask_0 rfl 1 rfl) ?_
  refine zpr2 (z_if_lt (tgt := 9) X dd_PQ_ask_1 (by decide)) (fun q1 => ?_) (fun q1 => ?_)
  · rw [if_pos q1] at h
    refine zpr (z_sub [] rfl) ?_
    exact t_PQ_ask_9 X H h
  · rw [if_neg q1] at h
    refine zpr (z_iload_n X dd_PQ_ask_4 rfl 1 rfl) ?_
    refine zpr (z_iconst (v := 4) X dd_PQ_ask_5 (by decide)) ?_
    refine zpr2 (z_icmp_lt (tgt := 11) X dd_PQ_ask_6 (by decide)) (fun q2 => ?_) (fun q2 => ?_)
    · rw [if_pos q2] at h
      refine zpr (z_aload_n X dd_PQ_ask_11 rfl 0 rfl) ?_
      obtain ⟨v3, ev3, h⟩ := zb h
      refine zpr (z_get (j := 7) X dd_PQ_ask_12 kc_11 ki_11 (by decide) km_696 (zgr_v ev3)) ?_
      refine zpr (z_iload_n X dd_PQ_ask_15 rfl 1 rfl) ?_
      obtain ⟨v4, ev4, h⟩ := zb h
      refine zpr (z_aaload X dd_PQ_ask_16 rfl ev4) ?_
      refine zpr (z_astore_n (lv' := [(2, .ref v4), (0, .ref a0), (1, .int a1)]) X dd_PQ_ask_17 rfl (by decide) rfl) ?_
      refine zpr (z_aload_n X dd_PQ_ask_18 rfl 0 rfl) ?_
      obtain ⟨v5, ev5, h⟩ := zb h
      refine zpr (z_get (j := 0) X dd_PQ_ask_19 kc_2 ki_2 (by decide) km_301 (zgi_v ev5)) ?_
      refine zprN (z_if_ne (tgt := 28) X dd_PQ_ask_22 (by decide)) (fun q6 => ?_) (fun q6 => ?_)
      · rw [if_neg q6] at h
        refine zpr (z_aload_n X dd_PQ_ask_28 rfl 1 rfl) ?_
        obtain ⟨v7, ev7, h⟩ := zb h
        refine zpr (z_get (j := 5) X dd_PQ_ask_29 kc_11 ki_11 (by decide) km_694 (zgr_v ev7)) ?_
        obtain ⟨w9, ew9, h⟩ := zb h
        obtain ⟨q8, eq8, h⟩ := zb h
        refine zpc (fun hm => z_callVi X [] rfl dd_PQ_ask_32 (c_RuleBook_settle l eq8) (cwV 0 X.1.2.2.2.2 (zg_V km_1254 km_1255 km_1256 km_135 km_1257) rfl rfl rfl (by decide +kernel) ⟨Nat.le_of_ble_eq_true rfl, Nat.le_of_ble_eq_true rfl⟩) (zob_s ew9) kc_8 rfl (Nat.le_of_ble_eq_true rfl) hm) ?_
        refine zprN (z_if_ne (tgt := 56) X dd_PQ_ask_35 (by decide)) (fun q10 => ?_) (fun q10 => ?_)
        · rw [if_neg q10] at h
          refine zpr (z_sub [] rfl) ?_
          exact t_PQ_ask_56 X H h
        · rw [if_pos q10] at h
          refine zpr (z_aload_n X dd_PQ_ask_38 rfl 0 rfl) ?_
          refine zpr (z_aload_n X dd_PQ_ask_39 rfl 1 rfl) ?_
          obtain ⟨v11, ev11, h⟩ := zb h
          refine zpr (z_get (j := 1) X dd_PQ_ask_40 kc_11 ki_11 (by decide) km_690 (zgr_v ev11)) ?_
          obtain ⟨v12, ev12, h⟩ := zb h
          refine zpr (z_get (j := 7) X dd_PQ_ask_43 kc_0 ki_0 (by decide) km_177 (zgi_v ev12)) ?_
          obtain ⟨w14, ew14, h⟩ := zb h
          obtain ⟨q13, eq13, h⟩ := zb h
          refine zpc (fun hm => z_callVl X [.int v12] rfl dd_PQ_ask_46 (c_Text_work l eq13) (cwV 1 X.1.2.2.2.2 (zg_V km_1392 km_1271 km_1272 km_128 km_1273) rfl rfl rfl (by decide +kernel) ⟨Nat.le_of_ble_eq_true rfl, Nat.le_of_ble_eq_true rfl⟩) (zob_s ew14) kc_2 rfl (Nat.le_of_ble_eq_true rfl) hm) ?_
          refine zpr (z_ldc2 (v := 20000) X dd_PQ_ask_49 km_1393) ?_
          refine zpr (z_lcmp X dd_PQ_ask_52) ?_
          refine zpr2 (z_if_le (tgt := 59) X dd_PQ_ask_53 (by decide)) (fun q15 => ?_) (fun q15 => ?_)
          · rw [if_pos q15] at h
            refine zpr (z_aload_n X dd_PQ_ask_59 rfl 1 rfl) ?_
            obtain ⟨v16, ev16, h⟩ := zb h
            refine zpr (z_get (j := 9) X dd_PQ_ask_60 kc_11 ki_11 (by decide) km_698 (zgr_v ev16)) ?_
            refine zpr (z_iload_n X dd_PQ_ask_63 rfl 2 rfl) ?_
            obtain ⟨v17, ev17, h⟩ := zb h
            refine zpr (z_iaload X dd_PQ_ask_64 rfl ev17) ?_
            refine zpr (z_aload_n X dd_PQ_ask_65 rfl 1 rfl) ?_
            obtain ⟨v18, ev18, h⟩ := zb h
            refine zpr (z_get (j := 1) X dd_PQ_ask_66 kc_11 ki_11 (by decide) km_690 (zgr_v ev18)) ?_
            obtain ⟨v19, ev19, h⟩ := zb h
            refine zpr (z_get (j := 9) X dd_PQ_ask_69 kc_0 ki_0 (by decide) km_183 (zgi_v ev19)) ?_
            refine zpr2 (z_icmp_eq (tgt := 102) X dd_PQ_ask_72 (by decide)) (fun q20 => ?_) (fun q20 => ?_)
            · rw [if_pos q20] at h
              refine zpr (z_sub [1, 2] rfl) ?_
              exact t_PQ_ask_102 X H h
            · rw [if_neg q20] at h
              refine zpr (z_aload_n X dd_PQ_ask_75 rfl 1 rfl) ?_
              obtain ⟨v24, ev24, h⟩ := zb h
              refine zpr (z_get (j := 6) X dd_PQ_ask_76 kc_11 ki_11 (by decide) km_695 (zgr_v ev24)) ?_
              refine zpr (z_aload_n X dd_PQ_ask_79 rfl 0 rfl) ?_
              refine zpr (z_aload_n X dd_PQ_ask_80 rfl 1 rfl) ?_
              obtain ⟨v25, ev25, h⟩ := zb h
              refine zpr (z_get (j := 8) X dd_PQ_ask_81 kc_11 ki_11 (by decide) km_697 (zgr_v ev25)) ?_
              refine zpr (z_iload_n X dd_PQ_ask_84 rfl 2 rfl) ?_
              obtain ⟨v26, ev26, h⟩ := zb h
              refine zpr (z_aaload X dd_PQ_ask_85 rfl ev26) ?_
              obtain ⟨w28, ew28, h⟩ := zb h
              obtain ⟨q27, eq27, h⟩ := zb h
              obtain ⟨hl9, hz9⟩ := t_PQ_ask_89 X H h
              exact ⟨⟨by have := hl9.1; omega, by have := hl9.2; omega⟩, z_callVv X [.ref v4, .ref v26] rfl dd_PQ_ask_86 (c_Collector_collect l eq27) (cwV 2 X.1.2.2.2.2 (zg_V km_1394 km_1395 km_1396 km_136 km_1397) rfl rfl rfl (by decide +kernel) ⟨Nat.le_of_ble_eq_true rfl, Nat.le_of_ble_eq_true rfl⟩) (zob_s ew28) kc_10 rfl (Nat.le_of_ble_eq_true rfl) hl9 (z_sub [1, 2] rfl hz9)⟩
          · rw [if_neg q15] at h
            refine zpr (z_sub [] rfl) ?_
            exact t_PQ_ask_56 X H h
      · rw [if_pos q6] at h
        refine zpr (z_bipush (v := (-2)) X dd_PQ_ask_25 (by decide)) ?_
        obtain rfl := Option.some.inj h
        exact ⟨⟨Nat.le_refl _, Nat.le_refl _⟩, z_iret X H.1 H.2.1 H.2.2.1 dd_PQ_ask_27⟩
    · rw [if_neg q2] at h
      refine zpr (z_sub [] rfl) ?_
      exact t_PQ_ask_9 X H h
theorem dd_PQ_answer_0 : decode bb_PQ_answer 0 = .ok (.iload_n 1, 1) := by decide +kernel
theorem dd_PQ_answer_1 : decode bb_PQ_answer 1 = .ok (.ifCond .lt 24, 3) := by decide +kernel
theorem dd_PQ_answer_4 : decode bb_PQ_answer 4 = .ok (.iload_n 1, 1) := by decide +kernel
theorem dd_PQ_answer_5 : decode bb_PQ_answer 5 = .ok (.iconst 4, 1) := by decide +kernel
theorem dd_PQ_answer_6 : decode bb_PQ_answer 6 = .ok (.if_icmp .ge 19, 3) := by decide +kernel
theorem dd_PQ_answer_9 : decode bb_PQ_answer 9 = .ok (.aload_n 0, 1) := by decide +kernel
theorem dd_PQ_answer_10 : decode bb_PQ_answer 10 = .ok (.getfield 73, 3) := by decide +kernel
theorem dd_PQ_answer_13 : decode bb_PQ_answer 13 = .ok (.iload_n 1, 1) := by decide +kernel
theorem dd_PQ_answer_14 : decode bb_PQ_answer 14 = .ok (.iaload, 1) := by decide +kernel
theorem dd_PQ_answer_15 : decode bb_PQ_answer 15 = .ok (.aload_n 0, 1) := by decide +kernel
theorem dd_PQ_answer_16 : decode bb_PQ_answer 16 = .ok (.getfield 16, 3) := by decide +kernel
theorem dd_PQ_answer_19 : decode bb_PQ_answer 19 = .ok (.getfield 148, 3) := by decide +kernel
theorem dd_PQ_answer_22 : decode bb_PQ_answer 22 = .ok (.if_icmp .eq 6, 3) := by decide +kernel
theorem dd_PQ_answer_25 : decode bb_PQ_answer 25 = .ok (.ldc 178, 2) := by decide +kernel
theorem dd_PQ_answer_27 : decode bb_PQ_answer 27 = .ok (.ireturn, 1) := by decide +kernel
theorem dd_PQ_answer_28 : decode bb_PQ_answer 28 = .ok (.aload_n 0, 1) := by decide +kernel
theorem dd_PQ_answer_29 : decode bb_PQ_answer 29 = .ok (.getfield 69, 3) := by decide +kernel
theorem dd_PQ_answer_32 : decode bb_PQ_answer 32 = .ok (.iload_n 1, 1) := by decide +kernel
theorem dd_PQ_answer_33 : decode bb_PQ_answer 33 = .ok (.aaload, 1) := by decide +kernel
theorem dd_PQ_answer_34 : decode bb_PQ_answer 34 = .ok (.astore 4, 2) := by decide +kernel
theorem dd_PQ_answer_36 : decode bb_PQ_answer 36 = .ok (.iload_n 2, 1) := by decide +kernel
theorem dd_PQ_answer_37 : decode bb_PQ_answer 37 = .ok (.ifCond .lt 25, 3) := by decide +kernel
theorem dd_PQ_answer_40 : decode bb_PQ_answer 40 = .ok (.iload_n 2, 1) := by decide +kernel
theorem dd_PQ_answer_41 : decode bb_PQ_answer 41 = .ok (.aload 4, 2) := by decide +kernel
theorem dd_PQ_answer_43 : decode bb_PQ_answer 43 = .ok (.getfield 175, 3) := by decide +kernel
theorem dd_PQ_answer_46 : decode bb_PQ_answer 46 = .ok (.if_icmp .ge 16, 3) := by decide +kernel
theorem dd_PQ_answer_49 : decode bb_PQ_answer 49 = .ok (.iload_n 3, 1) := by decide +kernel
theorem dd_PQ_answer_50 : decode bb_PQ_answer 50 = .ok (.ifCond .lt 12, 3) := by decide +kernel
theorem dd_PQ_answer_53 : decode bb_PQ_answer 53 = .ok (.iload_n 3, 1) := by decide +kernel
theorem dd_PQ_answer_54 : decode bb_PQ_answer 54 = .ok (.aload 4, 2) := by decide +kernel
theorem dd_PQ_answer_56 : decode bb_PQ_answer 56 = .ok (.getfield 179, 3) := by decide +kernel
theorem dd_PQ_answer_59 : decode bb_PQ_answer 59 = .ok (.if_icmp .lt 6, 3) := by decide +kernel
theorem dd_PQ_answer_62 : decode bb_PQ_answer 62 = .ok (.ldc 178, 2) := by decide +kernel
theorem dd_PQ_answer_64 : decode bb_PQ_answer 64 = .ok (.ireturn, 1) := by decide +kernel
theorem dd_PQ_answer_65 : decode bb_PQ_answer 65 = .ok (.aload 4, 2) := by decide +kernel
theorem dd_PQ_answer_67 : decode bb_PQ_answer 67 = .ok (.iload_n 2, 1) := by decide +kernel
theorem dd_PQ_answer_68 : decode bb_PQ_answer 68 = .ok (.iload_n 3, 1) := by decide +kernel
theorem dd_PQ_answer_69 : decode bb_PQ_answer 69 = .ok (.invokevirtual 182, 3) := by decide +kernel
theorem dd_PQ_answer_72 : decode bb_PQ_answer 72 = .ok (.ireturn, 1) := by decide +kernel
set_option maxRecDepth 100000 in
set_option maxHeartbeats 4000000 in
theorem t_PQ_answer_25  (X : zX p s m args cd D cid B bb_PQ_answer 5 rr_PQ zT) (H : zH s meth B n0 (some (.int)) "answer") {nf : Nat}  {c : Zc} {res : Int32 × Zc} (h : f_PQ_answer_25 nf  c = some res) : Zz p l e (zRm 1 22 0 0) s m args below meth cd (MQ below (zQi D cid B res.1 res.2 n0 0) args s 0 0 (fun q => B ≤ q)) D cid B 5 0 0 c 25 [] [] := by
  unfold f_PQ_answer_25 at h
  refine z_ldc (v := 2000000000) X dd_PQ_answer_25 km_1486 ?_
  obtain rfl := Option.some.inj h
  exact z_iret X H.1 H.2.1 H.2.2.1 dd_PQ_answer_27
set_option maxRecDepth 100000 in
set_option maxHeartbeats 4000000 in
theorem t_PQ_answer_62  (X : zX p s m args cd D cid B bb_PQ_answer 5 rr_PQ zT) (H : zH s meth B n0 (some (.int)) "answer") {nf : Nat}  {c : Zc} {res : Int32 × Zc} (h : f_PQ_answer_62 nf  c = some res) : Zz p l e (zRm 1 22 0 0) s m args below meth cd (MQ below (zQi D cid B res.1 res.2 n0 0) args s 0 0 (fun q => B ≤ q)) D cid B 5 0 0 c 62 [] [] := by
  unfold f_PQ_answer_62 at h
  refine z_ldc (v := 2000000000) X dd_PQ_answer_62 km_1486 ?_
  obtain rfl := Option.some.inj h
  exact z_iret X H.1 H.2.1 H.2.2.1 dd_PQ_answer_64
set_option maxRecDepth 100000 in
set_option maxHeartbeats 4000000 in
theorem c_PQ_answer (l : Launch) {nf : Nat} {a0 : Nat} {a1 : Int32} {a2 : Int32} {a3 : Int32} {c : Zc} {res : Int32 × Zc} (h : f_PQ_answer nf a0 a1 a2 a3 c = some res) : zM l yy_PQ_answer ww_PQ_answer 1 22 0 0 [.ref a0, .int a1, .int a2, .int a3] c (fun D cid B => zQi D cid B res.1 res.2 c.length 0) := by
  refine z_met (cc := bb_PQ_answer) (maxL := 5) (ret := (some (.int))) (by decide +kernel) rfl (Nat.le_of_ble_eq_true rfl) ?_
  intro p e s m args below meth cd D cid B X h1 h2 h3 h4
  have X : zX p s m args cd D cid B bb_PQ_answer 5 rr_PQ zT := X
  have H : zH s meth B c.length (some (.int)) "answer" := ⟨h1, h2, h4, h3⟩
  unfold f_PQ_answer at h
  show Zz p l e (zRm 1 22 0 0) s m args below meth cd _ D cid B 5 0 0 c 0 [(0, .ref a0), (1, .int a1), (2, .int a2), (3, .int a3)] []
  refine z_iload_n X dd_PQ_answer_0 rfl 1 rfl ?_
  refine z_if_lt (tgt := 25) X dd_PQ_answer_1 (by decide) (fun q1 => ?_) (fun q1 => ?_)
  · rw [if_pos q1] at h
    refine z_sub [] rfl ?_
    exact t_PQ_answer_25 X H h
  · rw [if_neg q1] at h
    refine z_iload_n X dd_PQ_answer_4 rfl 1 rfl ?_
    refine z_iconst (v := 4) X dd_PQ_answer_5 (by decide) ?_
    refine z_icmp_ge (tgt := 25) X dd_PQ_answer_6 (by decide) (fun q2 => ?_) (fun q2 => ?_)
    · rw [if_pos q2] at h
      refine z_sub [] rfl ?_
      exact t_PQ_answer_25 X H h
    · rw [if_neg q2] at h
      refine z_aload_n X dd_PQ_answer_9 rfl 0 rfl ?_
      obtain ⟨v3, ev3, h⟩ := zb h
      refine z_get (j := 9) X dd_PQ_answer_10 kc_11 ki_11 (by decide) km_698 (zgr_v ev3) ?_
      refine z_iload_n X dd_PQ_answer_13 rfl 1 rfl ?_
      obtain ⟨v4, ev4, h⟩ := zb h
      refine z_iaload X dd_PQ_answer_14 rfl ev4 ?_
      refine z_aload_n X dd_PQ_answer_15 rfl 0 rfl ?_
      obtain ⟨v5, ev5, h⟩ := zb h
      refine z_get (j := 1) X dd_PQ_answer_16 kc_11 ki_11 (by decide) km_690 (zgr_v ev5) ?_
      obtain ⟨v6, ev6, h⟩ := zb h
      refine z_get (j := 9) X dd_PQ_answer_19 kc_0 ki_0 (by decide) km_183 (zgi_v ev6) ?_
      refine z_icmp_eq (tgt := 28) X dd_PQ_answer_22 (by decide) (fun q7 => ?_) (fun q7 => ?_)
      · rw [if_pos q7] at h
        refine z_aload_n X dd_PQ_answer_28 rfl 0 rfl ?_
        obtain ⟨v8, ev8, h⟩ := zb h
        refine z_get (j := 8) X dd_PQ_answer_29 kc_11 ki_11 (by decide) km_697 (zgr_v ev8) ?_
        refine z_iload_n X dd_PQ_answer_32 rfl 1 rfl ?_
        obtain ⟨v9, ev9, h⟩ := zb h
        refine z_aaload X dd_PQ_answer_33 rfl ev9 ?_
        refine z_astore (lv' := [(4, .ref v9), (0, .ref a0), (1, .int a1), (2, .int a2), (3, .int a3)]) X dd_PQ_answer_34 (by decide) rfl ?_
        refine z_iload_n X dd_PQ_answer_36 rfl 3 rfl ?_
        refine z_if_lt (tgt := 62) X dd_PQ_answer_37 (by decide) (fun q10 => ?_) (fun q10 => ?_)
        · rw [if_pos q10] at h
          refine z_sub [] rfl ?_
          exact t_PQ_answer_62 X H h
        · rw [if_neg q10] at h
          refine z_iload_n X dd_PQ_answer_40 rfl 3 rfl ?_
          refine z_aload X dd_PQ_answer_41 0 rfl ?_
          obtain ⟨v11, ev11, h⟩ := zb h
          refine z_get (j := 0) X dd_PQ_answer_43 kc_9 ki_9 (by decide) km_656 (zgi_v ev11) ?_
          refine z_icmp_ge (tgt := 62) X dd_PQ_answer_46 (by decide) (fun q12 => ?_) (fun q12 => ?_)
          · rw [if_pos q12] at h
            refine z_sub [] rfl ?_
            exact t_PQ_answer_62 X H h
          · rw [if_neg q12] at h
            refine z_iload_n X dd_PQ_answer_49 rfl 4 rfl ?_
            refine z_if_lt (tgt := 62) X dd_PQ_answer_50 (by decide) (fun q13 => ?_) (fun q13 => ?_)
            · rw [if_pos q13] at h
              refine z_sub [] rfl ?_
              exact t_PQ_answer_62 X H h
            · rw [if_neg q13] at h
              refine z_iload_n X dd_PQ_answer_53 rfl 4 rfl ?_
              refine z_aload X dd_PQ_answer_54 0 rfl ?_
              obtain ⟨v14, ev14, h⟩ := zb h
              refine z_get (j := 1) X dd_PQ_answer_56 kc_9 ki_9 (by decide) km_658 (zgi_v ev14) ?_
              refine z_icmp_lt (tgt := 65) X dd_PQ_answer_59 (by decide) (fun q15 => ?_) (fun q15 => ?_)
              · rw [if_pos q15] at h
                refine z_aload X dd_PQ_answer_65 0 rfl ?_
                refine z_iload_n X dd_PQ_answer_67 rfl 3 rfl ?_
                refine z_iload_n X dd_PQ_answer_68 rfl 4 rfl ?_
                obtain ⟨w17, ew17, h⟩ := zb h
                obtain ⟨q16, eq16, h⟩ := zb h
                refine z_callVi X [.int a2, .int a3] rfl dd_PQ_answer_69 (c_Rows_cell l eq16) (cwV 2 X.1.2.2.2.2 (zg_V km_1487 km_1466 km_1467 km_137 km_1468) rfl rfl rfl (by decide +kernel) ⟨Nat.le_of_ble_eq_true rfl, Nat.le_of_ble_eq_true rfl⟩) (zob_s ew17) kc_9 rfl (Nat.le_of_ble_eq_true rfl) ⟨Nat.le_of_ble_eq_true rfl, Nat.le_of_ble_eq_true rfl⟩ ?_
                obtain rfl := Option.some.inj h
                exact z_iret X H.1 H.2.1 H.2.2.1 dd_PQ_answer_72
              · rw [if_neg q15] at h
                refine z_sub [] rfl ?_
                exact t_PQ_answer_62 X H h
      · rw [if_neg q7] at h
        refine z_sub [] rfl ?_
        exact t_PQ_answer_25 X H h
theorem dd_PQ_leads_0 : decode bb_PQ_leads 0 = .ok (.aload_n 0, 1) := by decide +kernel
theorem dd_PQ_leads_1 : decode bb_PQ_leads 1 = .ok (.getfield 16, 3) := by decide +kernel
theorem dd_PQ_leads_4 : decode bb_PQ_leads 4 = .ok (.iload_n 1, 1) := by decide +kernel
theorem dd_PQ_leads_5 : decode bb_PQ_leads 5 = .ok (.invokevirtual 90, 3) := by decide +kernel
theorem dd_PQ_leads_8 : decode bb_PQ_leads 8 = .ok (.ifCond .eq 24, 3) := by decide +kernel
theorem dd_PQ_leads_11 : decode bb_PQ_leads 11 = .ok (.aload_n 0, 1) := by decide +kernel
theorem dd_PQ_leads_12 : decode bb_PQ_leads 12 = .ok (.getfield 16, 3) := by decide +kernel
theorem dd_PQ_leads_15 : decode bb_PQ_leads 15 = .ok (.iload_n 2, 1) := by decide +kernel
theorem dd_PQ_leads_16 : decode bb_PQ_leads 16 = .ok (.invokevirtual 90, 3) := by decide +kernel
theorem dd_PQ_leads_19 : decode bb_PQ_leads 19 = .ok (.ifCond .eq 13, 3) := by decide +kernel
theorem dd_PQ_leads_22 : decode bb_PQ_leads 22 = .ok (.iload_n 3, 1) := by decide +kernel
theorem dd_PQ_leads_23 : decode bb_PQ_leads 23 = .ok (.ifCond .lt 9, 3) := by decide +kernel
theorem dd_PQ_leads_26 : decode bb_PQ_leads 26 = .ok (.iload_n 3, 1) := by decide +kernel
theorem dd_PQ_leads_27 : decode bb_PQ_leads 27 = .ok (.bipush 12, 2) := by decide +kernel
theorem dd_PQ_leads_29 : decode bb_PQ_leads 29 = .ok (.if_icmp .lt 5, 3) := by decide +kernel
theorem dd_PQ_leads_32 : decode bb_PQ_leads 32 = .ok (.iconst (-1), 1) := by decide +kernel
theorem dd_PQ_leads_33 : decode bb_PQ_leads 33 = .ok (.ireturn, 1) := by decide +kernel
theorem dd_PQ_leads_34 : decode bb_PQ_leads 34 = .ok (.iload_n 3, 1) := by decide +kernel
theorem dd_PQ_leads_35 : decode bb_PQ_leads 35 = .ok (.bipush 8, 2) := by decide +kernel
theorem dd_PQ_leads_37 : decode bb_PQ_leads 37 = .ok (.if_icmp .ge 14, 3) := by decide +kernel
theorem dd_PQ_leads_40 : decode bb_PQ_leads 40 = .ok (.aload_n 0, 1) := by decide +kernel
theorem dd_PQ_leads_41 : decode bb_PQ_leads 41 = .ok (.getfield 16, 3) := by decide +kernel
theorem dd_PQ_leads_44 : decode bb_PQ_leads 44 = .ok (.iload_n 1, 1) := by decide +kernel
theorem dd_PQ_leads_45 : decode bb_PQ_leads 45 = .ok (.iload_n 2, 1) := by decide +kernel
theorem dd_PQ_leads_46 : decode bb_PQ_leads 46 = .ok (.iload_n 3, 1) := by decide +kernel
theorem dd_PQ_leads_47 : decode bb_PQ_leads 47 = .ok (.invokevirtual 185, 3) := by decide +kernel
theorem dd_PQ_leads_50 : decode bb_PQ_leads 50 = .ok (.ireturn, 1) := by decide +kernel
theorem dd_PQ_leads_51 : decode bb_PQ_leads 51 = .ok (.aload_n 0, 1) := by decide +kernel
theorem dd_PQ_leads_52 : decode bb_PQ_leads 52 = .ok (.getfield 50, 3) := by decide +kernel
theorem dd_PQ_leads_55 : decode bb_PQ_leads 55 = .ok (.invokevirtual 161, 3) := by decide +kernel
theorem dd_PQ_leads_58 : decode bb_PQ_leads 58 = .ok (.ifCond .eq 6, 3) := by decide +kernel
theorem dd_PQ_leads_61 : decode bb_PQ_leads 61 = .ok (.bipush (-4), 2) := by decide +kernel
theorem dd_PQ_leads_63 : decode bb_PQ_leads 63 = .ok (.ireturn, 1) := by decide +kernel
theorem dd_PQ_leads_64 : decode bb_PQ_leads 64 = .ok (.aload_n 0, 1) := by decide +kernel
theorem dd_PQ_leads_65 : decode bb_PQ_leads 65 = .ok (.getfield 16, 3) := by decide +kernel
theorem dd_PQ_leads_68 : decode bb_PQ_leads 68 = .ok (.iload_n 3, 1) := by decide +kernel
theorem dd_PQ_leads_69 : decode bb_PQ_leads 69 = .ok (.iload_n 1, 1) := by decide +kernel
theorem dd_PQ_leads_70 : decode bb_PQ_leads 70 = .ok (.invokevirtual 188, 3) := by decide +kernel
theorem dd_PQ_leads_73 : decode bb_PQ_leads 73 = .ok (.iload_n 2, 1) := by decide +kernel
theorem dd_PQ_leads_74 : decode bb_PQ_leads 74 = .ok (.ishr, 1) := by decide +kernel
theorem dd_PQ_leads_75 : decode bb_PQ_leads 75 = .ok (.iconst 1, 1) := by decide +kernel
theorem dd_PQ_leads_76 : decode bb_PQ_leads 76 = .ok (.iand, 1) := by decide +kernel
theorem dd_PQ_leads_77 : decode bb_PQ_leads 77 = .ok (.ireturn, 1) := by decide +kernel
set_option maxRecDepth 100000 in
set_option maxHeartbeats 4000000 in
theorem t_PQ_leads_32  (X : zX p s m args cd D cid B bb_PQ_leads 4 rr_PQ zT) (H : zH s meth B n0 (some (.int)) "leads") {nf : Nat}  {c : Zc} {res : Int32 × Zc} (h : f_PQ_leads_32 nf  c = some res) : Zz p l e (zRm 7 170 0 0) s m args below meth cd (MQ below (zQi D cid B res.1 res.2 n0 0) args s 0 0 (fun q => B ≤ q)) D cid B 4 0 0 c 32 [] [] := by
  unfold f_PQ_leads_32 at h
  refine z_iconst (v := (-1)) X dd_PQ_leads_32 (by decide) ?_
  obtain rfl := Option.some.inj h
  exact z_iret X H.1 H.2.1 H.2.2.1 dd_PQ_leads_33
set_option maxRecDepth 100000 in
set_option maxHeartbeats 4000000 in
theorem c_PQ_leads (l : Launch) {nf : Nat} {a0 : Nat} {a1 : Int32} {a2 : Int32} {a3 : Int32} {c : Zc} {res : Int32 × Zc} (h : f_PQ_leads nf a0 a1 a2 a3 c = some res) : zM l yy_PQ_leads ww_PQ_leads 7 170 0 0 [.ref a0, .int a1, .int a2, .int a3] c (fun D cid B => zQi D cid B res.1 res.2 c.length 0) := by
  refine z_met (cc := bb_PQ_leads) (maxL := 4) (ret := (some (.int))) (by decide +kernel) rfl (Nat.le_of_ble_eq_true rfl) ?_
  intro p e s m args below meth cd D cid B X h1 h2 h3 h4
  have X : zX p s m args cd D cid B bb_PQ_leads 4 rr_PQ zT := X
  have H : zH s meth B c.length (some (.int)) "leads" := ⟨h1, h2, h4, h3⟩
  unfold f_PQ_leads at h
  show Zz p l e (zRm 7 170 0 0) s m args below meth cd _ D cid B 4 0 0 c 0 [(0, .ref a0), (1, .int a1), (2, .int a2), (3, .int a3)] []
  refine z_aload_n X dd_PQ_leads_0 rfl 0 rfl ?_
  obtain ⟨v1, ev1, h⟩ := zb h
  refine z_get (j := 1) X dd_PQ_leads_1 kc_11 ki_11 (by decide) km_690 (zgr_v ev1) ?_
  refine z_iload_n X dd_PQ_leads_4 rfl 1 rfl ?_
  obtain ⟨w3, ew3, h⟩ := zb h
  obtain ⟨q2, eq2, h⟩ := zb h
  refine z_callVi X [.int a1] rfl dd_PQ_leads_5 (c_Graph_isNode l eq2) (cwV 1 X.1.2.2.2.2 (zg_V km_747 km_748 km_749 km_126 km_750) rfl rfl rfl (by decide +kernel) ⟨Nat.le_of_ble_eq_true rfl, Nat.le_of_ble_eq_true rfl⟩) (zob_s ew3) kc_0 rfl (Nat.le_of_ble_eq_true rfl) ⟨Nat.le_of_ble_eq_true rfl, Nat.le_of_ble_eq_true rfl⟩ ?_
  refine z_if_eq (tgt := 32) X dd_PQ_leads_8 (by decide) (fun q4 => ?_) (fun q4 => ?_)
  · rw [if_pos q4] at h
    refine z_sub [] rfl ?_
    exact t_PQ_leads_32 X H h
  · rw [if_neg q4] at h
    refine z_aload_n X dd_PQ_leads_11 rfl 0 rfl ?_
    obtain ⟨v5, ev5, h⟩ := zb h
    refine z_get (j := 1) X dd_PQ_leads_12 kc_11 ki_11 (by decide) km_690 (zgr_v ev5) ?_
    refine z_iload_n X dd_PQ_leads_15 rfl 2 rfl ?_
    obtain ⟨w7, ew7, h⟩ := zb h
    obtain ⟨q6, eq6, h⟩ := zb h
    refine z_callVi X [.int a2] rfl dd_PQ_leads_16 (c_Graph_isNode l eq6) (cwV 1 X.1.2.2.2.2 (zg_V km_747 km_748 km_749 km_126 km_750) rfl rfl rfl (by decide +kernel) ⟨Nat.le_of_ble_eq_true rfl, Nat.le_of_ble_eq_true rfl⟩) (zob_s ew7) kc_0 rfl (Nat.le_of_ble_eq_true rfl) ⟨Nat.le_of_ble_eq_true rfl, Nat.le_of_ble_eq_true rfl⟩ ?_
    refine z_if_eq (tgt := 32) X dd_PQ_leads_19 (by decide) (fun q8 => ?_) (fun q8 => ?_)
    · rw [if_pos q8] at h
      refine z_sub [] rfl ?_
      exact t_PQ_leads_32 X H h
    · rw [if_neg q8] at h
      refine z_iload_n X dd_PQ_leads_22 rfl 3 rfl ?_
      refine z_if_lt (tgt := 32) X dd_PQ_leads_23 (by decide) (fun q9 => ?_) (fun q9 => ?_)
      · rw [if_pos q9] at h
        refine z_sub [] rfl ?_
        exact t_PQ_leads_32 X H h
      · rw [if_neg q9] at h
        refine z_iload_n X dd_PQ_leads_26 rfl 3 rfl ?_
        refine z_bipush (v := 12) X dd_PQ_leads_27 (by decide) ?_
        refine z_icmp_lt (tgt := 34) X dd_PQ_leads_29 (by decide) (fun q10 => ?_) (fun q10 => ?_)
        · rw [if_pos q10] at h
          refine z_iload_n X dd_PQ_leads_34 rfl 3 rfl ?_
          refine z_bipush (v := 8) X dd_PQ_leads_35 (by decide) ?_
          refine z_icmp_ge (tgt := 51) X dd_PQ_leads_37 (by decide) (fun q11 => ?_) (fun q11 => ?_)
          · rw [if_pos q11] at h
            refine z_aload_n X dd_PQ_leads_51 rfl 0 rfl ?_
            obtain ⟨v12, ev12, h⟩ := zb h
            refine z_get (j := 5) X dd_PQ_leads_52 kc_11 ki_11 (by decide) km_694 (zgr_v ev12) ?_
            obtain ⟨w14, ew14, h⟩ := zb h
            obtain ⟨q13, eq13, h⟩ := zb h
            refine z_callVi X [] rfl dd_PQ_leads_55 (c_RuleBook_settle l eq13) (cwV 0 X.1.2.2.2.2 (zg_V km_1254 km_1255 km_1256 km_135 km_1257) rfl rfl rfl (by decide +kernel) ⟨Nat.le_of_ble_eq_true rfl, Nat.le_of_ble_eq_true rfl⟩) (zob_s ew14) kc_8 rfl (Nat.le_of_ble_eq_true rfl) ⟨Nat.le_of_ble_eq_true rfl, Nat.le_of_ble_eq_true rfl⟩ ?_
            refine z_if_eq (tgt := 64) X dd_PQ_leads_58 (by decide) (fun q15 => ?_) (fun q15 => ?_)
            · rw [if_pos q15] at h
              refine z_aload_n X dd_PQ_leads_64 rfl 0 rfl ?_
              obtain ⟨v16, ev16, h⟩ := zb h
              refine z_get (j := 1) X dd_PQ_leads_65 kc_11 ki_11 (by decide) km_690 (zgr_v ev16) ?_
              refine z_iload_n X dd_PQ_leads_68 rfl 3 rfl ?_
              refine z_iload_n X dd_PQ_leads_69 rfl 1 rfl ?_
              obtain ⟨w18, ew18, h⟩ := zb h
              obtain ⟨q17, eq17, h⟩ := zb h
              refine z_callVi X [.int a3, .int a1] rfl dd_PQ_leads_70 (c_Graph_reached l eq17) (cwV 2 X.1.2.2.2.2 (zg_V km_1496 km_1384 km_1385 km_126 km_1386) rfl rfl rfl (by decide +kernel) ⟨Nat.le_of_ble_eq_true rfl, Nat.le_of_ble_eq_true rfl⟩) (zob_s ew18) kc_0 rfl (Nat.le_of_ble_eq_true rfl) ⟨Nat.le_of_ble_eq_true rfl, Nat.le_of_ble_eq_true rfl⟩ ?_
              refine z_iload_n X dd_PQ_leads_73 rfl 2 rfl ?_
              refine z_ishr X dd_PQ_leads_74 ?_
              refine z_iconst (v := 1) X dd_PQ_leads_75 (by decide) ?_
              refine z_iand X dd_PQ_leads_76 ?_
              obtain rfl := Option.some.inj h
              exact z_iret X H.1 H.2.1 H.2.2.1 dd_PQ_leads_77
            · rw [if_neg q15] at h
              refine z_bipush (v := (-4)) X dd_PQ_leads_61 (by decide) ?_
              obtain rfl := Option.some.inj h
              exact z_iret X H.1 H.2.1 H.2.2.1 dd_PQ_leads_63
          · rw [if_neg q11] at h
            refine z_aload_n X dd_PQ_leads_40 rfl 0 rfl ?_
            obtain ⟨v19, ev19, h⟩ := zb h
            refine z_get (j := 1) X dd_PQ_leads_41 kc_11 ki_11 (by decide) km_690 (zgr_v ev19) ?_
            refine z_iload_n X dd_PQ_leads_44 rfl 1 rfl ?_
            refine z_iload_n X dd_PQ_leads_45 rfl 2 rfl ?_
            refine z_iload_n X dd_PQ_leads_46 rfl 3 rfl ?_
            obtain ⟨w21, ew21, h⟩ := zb h
            obtain ⟨q20, eq20, h⟩ := zb h
            refine z_callVi X [.int a1, .int a2, .int a3] rfl dd_PQ_leads_47 (c_Graph_countArcs l eq20) (cwV 3 X.1.2.2.2.2 (zg_V km_1492 km_1493 km_1494 km_126 km_1495) rfl rfl rfl (by decide +kernel) ⟨Nat.le_of_ble_eq_true rfl, Nat.le_of_ble_eq_true rfl⟩) (zob_s ew21) kc_0 rfl (Nat.le_of_ble_eq_true rfl) ⟨Nat.le_of_ble_eq_true rfl, Nat.le_of_ble_eq_true rfl⟩ ?_
            obtain rfl := Option.some.inj h
            exact z_iret X H.1 H.2.1 H.2.2.1 dd_PQ_leads_50
        · rw [if_neg q10] at h
          refine z_sub [] rfl ?_
          exact t_PQ_leads_32 X H h
end ZzM
