section ZzM
variable {p : Program} {l : Launch} {e : Env} {s : State} {m : MethodId} {args : Array Value} {below : List Frame} {meth : Method} {cd : Code} {Q : State → Prop} {D : va_G} {cid : Nat → ClassId} {B n0 : Nat}
theorem dd_Mo_refuse_0 : decode bb_Mo_refuse 0 = .ok (.aload_n 0, 1) := by decide +kernel
theorem dd_Mo_refuse_1 : decode bb_Mo_refuse 1 = .ok (.getfield 294, 3) := by decide +kernel
theorem dd_Mo_refuse_4 : decode bb_Mo_refuse 4 = .ok (.ifCond .ne 13, 3) := by decide +kernel
theorem dd_Mo_refuse_7 : decode bb_Mo_refuse 7 = .ok (.aload_n 0, 1) := by decide +kernel
theorem dd_Mo_refuse_8 : decode bb_Mo_refuse 8 = .ok (.iload_n 1, 1) := by decide +kernel
theorem dd_Mo_refuse_9 : decode bb_Mo_refuse 9 = .ok (.putfield 294, 3) := by decide +kernel
theorem dd_Mo_refuse_12 : decode bb_Mo_refuse 12 = .ok (.aload_n 0, 1) := by decide +kernel
theorem dd_Mo_refuse_13 : decode bb_Mo_refuse 13 = .ok (.iload_n 2, 1) := by decide +kernel
theorem dd_Mo_refuse_14 : decode bb_Mo_refuse 14 = .ok (.putfield 297, 3) := by decide +kernel
theorem dd_Mo_refuse_17 : decode bb_Mo_refuse 17 = .ok (.return_, 1) := by decide +kernel
set_option maxRecDepth 100000 in
set_option maxHeartbeats 4000000 in
theorem t_Mo_refuse_17  (X : zX p s m args cd D cid B bb_Mo_refuse 3 rr_Mo zT) (H : zH s meth B n0 none "refuse") {nf : Nat}  {c : Zc} {res : Zc} (h : f_Mo_refuse_17 nf  c = some res) : Zz p l e (zRm 0 0 0 0) s m args below meth cd (MQ below (zQv D cid B res n0 0) args s 0 0 (fun q => B ≤ q)) D cid B 3 0 0 c 17 [] [] := by
  unfold f_Mo_refuse_17 at h
  obtain rfl := Option.some.inj h
  exact z_vret X H.1 H.2.1 H.2.2.1 dd_Mo_refuse_17
set_option maxRecDepth 100000 in
set_option maxHeartbeats 4000000 in
theorem c_Mo_refuse (l : Launch) {nf : Nat} {a0 : Nat} {a1 : Int32} {a2 : Int32} {c : Zc} {res : Zc} (h : f_Mo_refuse nf a0 a1 a2 c = some res) : zM l yy_Mo_refuse ww_Mo_refuse 0 0 0 0 [.ref a0, .int a1, .int a2] c (fun D cid B => zQv D cid B res c.length 0) := by
  refine z_met (cc := bb_Mo_refuse) (maxL := 3) (ret := none) (by decide +kernel) rfl (Nat.le_of_ble_eq_true rfl) ?_
  intro p e s m args below meth cd D cid B X h1 h2 h3 h4
  have X : zX p s m args cd D cid B bb_Mo_refuse 3 rr_Mo zT := X
  have H : zH s meth B c.length none "refuse" := ⟨h1, h2, h4, h3⟩
  unfold f_Mo_refuse at h
  show Zz p l e (zRm 0 0 0 0) s m args below meth cd _ D cid B 3 0 0 c 0 [(0, .ref a0), (1, .int a1), (2, .int a2)] []
  refine z_aload_n X dd_Mo_refuse_0 rfl 0 rfl ?_
  obtain ⟨v1, ev1, h⟩ := zb h
  refine z_get (j := 19) X dd_Mo_refuse_1 kc_12 ki_12 (by decide) km_1540 (zgi_v ev1) ?_
  refine z_if_ne (tgt := 17) X dd_Mo_refuse_4 (by decide) (fun q2 => ?_) (fun q2 => ?_)
  · rw [if_neg q2] at h
    refine z_sub [] rfl ?_
    exact t_Mo_refuse_17 X H h
  · rw [if_pos q2] at h
    refine z_aload_n X dd_Mo_refuse_7 rfl 0 rfl ?_
    refine z_iload_n X dd_Mo_refuse_8 rfl 1 rfl ?_
    obtain ⟨c3, ec3, h⟩ := zb h
    refine z_put (j := 19) X dd_Mo_refuse_9 kc_12 ki_12 tt_Mo tk_Mo nn_Mo (by decide) km_1540 rfl (tk_Mo 19 (by decide)) rfl rfl ec3 ?_
    refine z_aload_n X dd_Mo_refuse_12 rfl 0 rfl ?_
    refine z_iload_n X dd_Mo_refuse_13 rfl 2 rfl ?_
    obtain ⟨c4, ec4, h⟩ := zb h
    refine z_put (j := 20) X dd_Mo_refuse_14 kc_12 ki_12 tt_Mo tk_Mo nn_Mo (by decide) km_1541 rfl (tk_Mo 20 (by decide)) rfl rfl ec4 ?_
    refine z_sub [] rfl ?_
    exact t_Mo_refuse_17 X H h
theorem dd_Mo_kind_0 : decode bb_Mo_kind 0 = .ok (.aload_n 0, 1) := by decide +kernel
theorem dd_Mo_kind_1 : decode bb_Mo_kind 1 = .ok (.getfield 43, 3) := by decide +kernel
theorem dd_Mo_kind_4 : decode bb_Mo_kind 4 = .ok (.aload_n 0, 1) := by decide +kernel
theorem dd_Mo_kind_5 : decode bb_Mo_kind 5 = .ok (.getfield 300, 3) := by decide +kernel
theorem dd_Mo_kind_8 : decode bb_Mo_kind 8 = .ok (.iaload, 1) := by decide +kernel
theorem dd_Mo_kind_9 : decode bb_Mo_kind 9 = .ok (.iconst 1, 1) := by decide +kernel
theorem dd_Mo_kind_10 : decode bb_Mo_kind 10 = .ok (.if_icmp .ne 17, 3) := by decide +kernel
theorem dd_Mo_kind_13 : decode bb_Mo_kind 13 = .ok (.aload_n 0, 1) := by decide +kernel
theorem dd_Mo_kind_14 : decode bb_Mo_kind 14 = .ok (.iconst 1, 1) := by decide +kernel
theorem dd_Mo_kind_15 : decode bb_Mo_kind 15 = .ok (.aload_n 0, 1) := by decide +kernel
theorem dd_Mo_kind_16 : decode bb_Mo_kind 16 = .ok (.getfield 49, 3) := by decide +kernel
theorem dd_Mo_kind_19 : decode bb_Mo_kind 19 = .ok (.aload_n 0, 1) := by decide +kernel
theorem dd_Mo_kind_20 : decode bb_Mo_kind 20 = .ok (.getfield 300, 3) := by decide +kernel
theorem dd_Mo_kind_23 : decode bb_Mo_kind 23 = .ok (.iaload, 1) := by decide +kernel
theorem dd_Mo_kind_24 : decode bb_Mo_kind 24 = .ok (.invokevirtual 303, 3) := by decide +kernel
theorem dd_Mo_kind_27 : decode bb_Mo_kind 27 = .ok (.aload_n 0, 1) := by decide +kernel
theorem dd_Mo_kind_28 : decode bb_Mo_kind 28 = .ok (.getfield 43, 3) := by decide +kernel
theorem dd_Mo_kind_31 : decode bb_Mo_kind 31 = .ok (.aload_n 0, 1) := by decide +kernel
theorem dd_Mo_kind_32 : decode bb_Mo_kind 32 = .ok (.getfield 300, 3) := by decide +kernel
theorem dd_Mo_kind_35 : decode bb_Mo_kind 35 = .ok (.iaload, 1) := by decide +kernel
theorem dd_Mo_kind_36 : decode bb_Mo_kind 36 = .ok (.ireturn, 1) := by decide +kernel
set_option maxRecDepth 100000 in
set_option maxHeartbeats 4000000 in
theorem t_Mo_kind_27  (X : zX p s m args cd D cid B bb_Mo_kind 1 rr_Mo zT) (H : zH s meth B n0 (some (.int)) "kind") {nf : Nat} {x0 : Nat} {c : Zc} {res : Int32 × Zc} (h : f_Mo_kind_27 nf x0 c = some res) : Zz p l e (zRm 1 22 0 0) s m args below meth cd (MQ below (zQi D cid B res.1 res.2 n0 0) args s 0 0 (fun q => B ≤ q)) D cid B 1 0 0 c 27 [(0, .ref x0)] [] := by
  unfold f_Mo_kind_27 at h
  refine z_aload_n X dd_Mo_kind_27 rfl 0 rfl ?_
  obtain ⟨v5, ev5, h⟩ := zb h
  refine z_get (j := 14) X dd_Mo_kind_28 kc_12 ki_12 (by decide) km_1535 (zgr_v ev5) ?_
  refine z_aload_n X dd_Mo_kind_31 rfl 0 rfl ?_
  obtain ⟨v6, ev6, h⟩ := zb h
  refine z_get (j := 18) X dd_Mo_kind_32 kc_12 ki_12 (by decide) km_1539 (zgi_v ev6) ?_
  obtain ⟨v7, ev7, h⟩ := zb h
  refine z_iaload X dd_Mo_kind_35 rfl ev7 ?_
  obtain rfl := Option.some.inj h
  exact z_iret X H.1 H.2.1 H.2.2.1 dd_Mo_kind_36
set_option maxRecDepth 100000 in
set_option maxHeartbeats 4000000 in
theorem c_Mo_kind (l : Launch) {nf : Nat} {a0 : Nat} {c : Zc} {res : Int32 × Zc} (h : f_Mo_kind nf a0 c = some res) : zM l yy_Mo_kind ww_Mo_kind 1 22 0 0 [.ref a0] c (fun D cid B => zQi D cid B res.1 res.2 c.length 0) := by
  refine z_met (cc := bb_Mo_kind) (maxL := 1) (ret := (some (.int))) (by decide +kernel) rfl (Nat.le_of_ble_eq_true rfl) ?_
  intro p e s m args below meth cd D cid B X h1 h2 h3 h4
  have X : zX p s m args cd D cid B bb_Mo_kind 1 rr_Mo zT := X
  have H : zH s meth B c.length (some (.int)) "kind" := ⟨h1, h2, h4, h3⟩
  unfold f_Mo_kind at h
  show Zz p l e (zRm 1 22 0 0) s m args below meth cd _ D cid B 1 0 0 c 0 [(0, .ref a0)] []
  refine z_aload_n X dd_Mo_kind_0 rfl 0 rfl ?_
  obtain ⟨v1, ev1, h⟩ := zb h
  refine z_get (j := 14) X dd_Mo_kind_1 kc_12 ki_12 (by decide) km_1535 (zgr_v ev1) ?_
  refine z_aload_n X dd_Mo_kind_4 rfl 0 rfl ?_
  obtain ⟨v2, ev2, h⟩ := zb h
  refine z_get (j := 18) X dd_Mo_kind_5 kc_12 ki_12 (by decide) km_1539 (zgi_v ev2) ?_
  obtain ⟨v3, ev3, h⟩ := zb h
  refine z_iaload X dd_Mo_kind_8 rfl ev3 ?_
  refine z_iconst (v := 1) X dd_Mo_kind_9 (by decide) ?_
  refine z_icmp_ne (tgt := 27) X dd_Mo_kind_10 (by decide) (fun q4 => ?_) (fun q4 => ?_)
  · rw [if_neg q4] at h
    exact t_Mo_kind_27 X H h
  · rw [if_pos q4] at h
    refine z_aload_n X dd_Mo_kind_13 rfl 0 rfl ?_
    refine z_iconst (v := 1) X dd_Mo_kind_14 (by decide) ?_
    refine z_aload_n X dd_Mo_kind_15 rfl 0 rfl ?_
    obtain ⟨v8, ev8, h⟩ := zb h
    refine z_get (j := 16) X dd_Mo_kind_16 kc_12 ki_12 (by decide) km_1537 (zgr_v ev8) ?_
    refine z_aload_n X dd_Mo_kind_19 rfl 0 rfl ?_
    obtain ⟨v9, ev9, h⟩ := zb h
    refine z_get (j := 18) X dd_Mo_kind_20 kc_12 ki_12 (by decide) km_1539 (zgi_v ev9) ?_
    obtain ⟨v10, ev10, h⟩ := zb h
    refine z_iaload X dd_Mo_kind_23 rfl ev10 ?_
    obtain ⟨w12, ew12, h⟩ := zb h
    obtain ⟨q11, eq11, h⟩ := zb h
    refine z_callVv X [.int 1, .int v10] rfl dd_Mo_kind_24 (c_Mo_refuse l eq11) (cwV 2 X.1.2.2.2.2 (zg_V km_1916 km_1918 km_71 km_138 km_1919) rfl rfl rfl (by decide +kernel) ⟨Nat.le_of_ble_eq_true rfl, Nat.le_of_ble_eq_true rfl⟩) (zob_s ew12) kc_12 rfl (Nat.le_of_ble_eq_true rfl) ⟨Nat.le_of_ble_eq_true rfl, Nat.le_of_ble_eq_true rfl⟩ ?_
    exact t_Mo_kind_27 X H h
theorem dd_Mo_wrong_0 : decode bb_Mo_wrong 0 = .ok (.aload_n 0, 1) := by decide +kernel
theorem dd_Mo_wrong_1 : decode bb_Mo_wrong 1 = .ok (.invokevirtual 306, 3) := by decide +kernel
theorem dd_Mo_wrong_4 : decode bb_Mo_wrong 4 = .ok (.pop, 1) := by decide +kernel
theorem dd_Mo_wrong_5 : decode bb_Mo_wrong 5 = .ok (.aload_n 0, 1) := by decide +kernel
theorem dd_Mo_wrong_6 : decode bb_Mo_wrong 6 = .ok (.iconst 2, 1) := by decide +kernel
theorem dd_Mo_wrong_7 : decode bb_Mo_wrong 7 = .ok (.aload_n 0, 1) := by decide +kernel
theorem dd_Mo_wrong_8 : decode bb_Mo_wrong 8 = .ok (.getfield 49, 3) := by decide +kernel
theorem dd_Mo_wrong_11 : decode bb_Mo_wrong 11 = .ok (.aload_n 0, 1) := by decide +kernel
theorem dd_Mo_wrong_12 : decode bb_Mo_wrong 12 = .ok (.getfield 300, 3) := by decide +kernel
theorem dd_Mo_wrong_15 : decode bb_Mo_wrong 15 = .ok (.iaload, 1) := by decide +kernel
theorem dd_Mo_wrong_16 : decode bb_Mo_wrong 16 = .ok (.invokevirtual 303, 3) := by decide +kernel
theorem dd_Mo_wrong_19 : decode bb_Mo_wrong 19 = .ok (.return_, 1) := by decide +kernel
set_option maxRecDepth 100000 in
set_option maxHeartbeats 4000000 in
theorem c_Mo_wrong (l : Launch) {nf : Nat} {a0 : Nat} {c : Zc} {res : Zc} (h : f_Mo_wrong nf a0 c = some res) : zM l yy_Mo_wrong ww_Mo_wrong 2 42 0 0 [.ref a0] c (fun D cid B => zQv D cid B res c.length 0) := by
  refine z_met (cc := bb_Mo_wrong) (maxL := 1) (ret := none) (by decide +kernel) rfl (Nat.le_of_ble_eq_true rfl) ?_
  intro p e s m args below meth cd D cid B X h1 h2 h3 h4
  have X : zX p s m args cd D cid B bb_Mo_wrong 1 rr_Mo zT := X
  have H : zH s meth B c.length none "wrong" := ⟨h1, h2, h4, h3⟩
  unfold f_Mo_wrong at h
  show Zz p l e (zRm 2 42 0 0) s m args below meth cd _ D cid B 1 0 0 c 0 [(0, .ref a0)] []
  refine z_aload_n X dd_Mo_wrong_0 rfl 0 rfl ?_
  obtain ⟨w2, ew2, h⟩ := zb h
  obtain ⟨q1, eq1, h⟩ := zb h
  refine z_callVi X [] rfl dd_Mo_wrong_1 (c_Mo_kind l eq1) (cwV 0 X.1.2.2.2.2 (zg_V km_1912 km_1914 km_70 km_138 km_1915) rfl rfl rfl (by decide +kernel) ⟨Nat.le_of_ble_eq_true rfl, Nat.le_of_ble_eq_true rfl⟩) (zob_s ew2) kc_12 rfl (Nat.le_of_ble_eq_true rfl) ⟨Nat.le_of_ble_eq_true rfl, Nat.le_of_ble_eq_true rfl⟩ ?_
  refine z_pop X dd_Mo_wrong_4 rfl ?_
  refine z_aload_n X dd_Mo_wrong_5 rfl 0 rfl ?_
  refine z_iconst (v := 2) X dd_Mo_wrong_6 (by decide) ?_
  refine z_aload_n X dd_Mo_wrong_7 rfl 0 rfl ?_
  obtain ⟨v3, ev3, h⟩ := zb h
  refine z_get (j := 16) X dd_Mo_wrong_8 kc_12 ki_12 (by decide) km_1537 (zgr_v ev3) ?_
  refine z_aload_n X dd_Mo_wrong_11 rfl 0 rfl ?_
  obtain ⟨v4, ev4, h⟩ := zb h
  refine z_get (j := 18) X dd_Mo_wrong_12 kc_12 ki_12 (by decide) km_1539 (zgi_v ev4) ?_
  obtain ⟨v5, ev5, h⟩ := zb h
  refine z_iaload X dd_Mo_wrong_15 rfl ev5 ?_
  obtain ⟨w7, ew7, h⟩ := zb h
  obtain ⟨q6, eq6, h⟩ := zb h
  refine z_callVv X [.int 2, .int v5] rfl dd_Mo_wrong_16 (c_Mo_refuse l eq6) (cwV 2 X.1.2.2.2.2 (zg_V km_1916 km_1918 km_71 km_138 km_1919) rfl rfl rfl (by decide +kernel) ⟨Nat.le_of_ble_eq_true rfl, Nat.le_of_ble_eq_true rfl⟩) (zob_s ew7) kc_12 rfl (Nat.le_of_ble_eq_true rfl) ⟨Nat.le_of_ble_eq_true rfl, Nat.le_of_ble_eq_true rfl⟩ ?_
  obtain rfl := Option.some.inj h
  exact z_vret X H.1 H.2.1 H.2.2.1 dd_Mo_wrong_19
theorem dd_Mo_stands_0 : decode bb_Mo_stands 0 = .ok (.aload_n 0, 1) := by decide +kernel
theorem dd_Mo_stands_1 : decode bb_Mo_stands 1 = .ok (.getfield 300, 3) := by decide +kernel
theorem dd_Mo_stands_4 : decode bb_Mo_stands 4 = .ok (.sipush 200, 3) := by decide +kernel
theorem dd_Mo_stands_7 : decode bb_Mo_stands 7 = .ok (.if_icmp .lt 17, 3) := by decide +kernel
theorem dd_Mo_stands_10 : decode bb_Mo_stands 10 = .ok (.aload_n 0, 1) := by decide +kernel
theorem dd_Mo_stands_11 : decode bb_Mo_stands 11 = .ok (.iconst 3, 1) := by decide +kernel
theorem dd_Mo_stands_12 : decode bb_Mo_stands 12 = .ok (.aload_n 0, 1) := by decide +kernel
theorem dd_Mo_stands_13 : decode bb_Mo_stands 13 = .ok (.getfield 49, 3) := by decide +kernel
theorem dd_Mo_stands_16 : decode bb_Mo_stands 16 = .ok (.aload_n 0, 1) := by decide +kernel
theorem dd_Mo_stands_17 : decode bb_Mo_stands 17 = .ok (.getfield 300, 3) := by decide +kernel
theorem dd_Mo_stands_20 : decode bb_Mo_stands 20 = .ok (.iaload, 1) := by decide +kernel
theorem dd_Mo_stands_21 : decode bb_Mo_stands 21 = .ok (.invokevirtual 303, 3) := by decide +kernel
theorem dd_Mo_stands_24 : decode bb_Mo_stands 24 = .ok (.return_, 1) := by decide +kernel
set_option maxRecDepth 100000 in
set_option maxHeartbeats 4000000 in
theorem t_Mo_stands_24  (X : zX p s m args cd D cid B bb_Mo_stands 1 rr_Mo zT) (H : zH s meth B n0 none "stands") {nf : Nat}  {c : Zc} {res : Zc} (h : f_Mo_stands_24 nf  c = some res) : Zz p l e (zRm 1 22 0 0) s m args below meth cd (MQ below (zQv D cid B res n0 0) args s 0 0 (fun q => B ≤ q)) D cid B 1 0 0 c 24 [] [] := by
  unfold f_Mo_stands_24 at h
  obtain rfl := Option.some.inj h
  exact z_vret X H.1 H.2.1 H.2.2.1 dd_Mo_stands_24
set_option maxRecDepth 100000 in
set_option maxHeartbeats 4000000 in
theorem c_Mo_stands (l : Launch) {nf : Nat} {a0 : Nat} {c : Zc} {res : Zc} (h : f_Mo_stands nf a0 c = some res) : zM l yy_Mo_stands ww_Mo_stands 1 22 0 0 [.ref a0] c (fun D cid B => zQv D cid B res c.length 0) := by
  refine z_met (cc := bb_Mo_stands) (maxL := 1) (ret := none) (by decide +kernel) rfl (Nat.le_of_ble_eq_true rfl) ?_
  intro p e s m args below meth cd D cid B X h1 h2 h3 h4
  have X : zX p s m args cd D cid B bb_Mo_stands 1 rr_Mo zT := X
  have H : zH s meth B c.length none "stands" := ⟨h1, h2, h4, h3⟩
  unfold f_Mo_stands at h
  show Zz p l e (zRm 1 22 0 0) s m args below meth cd _ D cid B 1 0 0 c 0 [(0, .ref a0)] []
  refine z_aload_n X dd_Mo_stands_0 rfl 0 rfl ?_
  obtain ⟨v1, ev1, h⟩ := zb h
  refine z_get (j := 18) X dd_Mo_stands_1 kc_12 ki_12 (by decide) km_1539 (zgi_v ev1) ?_
  refine z_sipush (v := 200) X dd_Mo_stands_4 (by decide) ?_
  refine z_icmp_lt (tgt := 24) X dd_Mo_stands_7 (by decide) (fun q2 => ?_) (fun q2 => ?_)
  · rw [if_pos q2] at h
    refine z_sub [] rfl ?_
    exact t_Mo_stands_24 X H h
  · rw [if_neg q2] at h
    refine z_aload_n X dd_Mo_stands_10 rfl 0 rfl ?_
    refine z_iconst (v := 3) X dd_Mo_stands_11 (by decide) ?_
    refine z_aload_n X dd_Mo_stands_12 rfl 0 rfl ?_
    obtain ⟨v3, ev3, h⟩ := zb h
    refine z_get (j := 16) X dd_Mo_stands_13 kc_12 ki_12 (by decide) km_1537 (zgr_v ev3) ?_
    refine z_aload_n X dd_Mo_stands_16 rfl 0 rfl ?_
    obtain ⟨v4, ev4, h⟩ := zb h
    refine z_get (j := 18) X dd_Mo_stands_17 kc_12 ki_12 (by decide) km_1539 (zgi_v ev4) ?_
    obtain ⟨v5, ev5, h⟩ := zb h
    refine z_iaload X dd_Mo_stands_20 rfl ev5 ?_
    obtain ⟨w7, ew7, h⟩ := zb h
    obtain ⟨q6, eq6, h⟩ := zb h
    refine z_callVv X [.int 3, .int v5] rfl dd_Mo_stands_21 (c_Mo_refuse l eq6) (cwV 2 X.1.2.2.2.2 (zg_V km_1916 km_1918 km_71 km_138 km_1919) rfl rfl rfl (by decide +kernel) ⟨Nat.le_of_ble_eq_true rfl, Nat.le_of_ble_eq_true rfl⟩) (zob_s ew7) kc_12 rfl (Nat.le_of_ble_eq_true rfl) ⟨Nat.le_of_ble_eq_true rfl, Nat.le_of_ble_eq_true rfl⟩ ?_
    refine z_sub [] rfl ?_
    exact t_Mo_stands_24 X H h
theorem dd_Mo_pass_0 : decode bb_Mo_pass 0 = .ok (.aload_n 0, 1) := by decide +kernel
theorem dd_Mo_pass_1 : decode bb_Mo_pass 1 = .ok (.invokevirtual 310, 3) := by decide +kernel
theorem dd_Mo_pass_4 : decode bb_Mo_pass 4 = .ok (.aload_n 0, 1) := by decide +kernel
theorem dd_Mo_pass_5 : decode bb_Mo_pass 5 = .ok (.getfield 294, 3) := by decide +kernel
theorem dd_Mo_pass_8 : decode bb_Mo_pass 8 = .ok (.ifCond .ne 13, 3) := by decide +kernel
theorem dd_Mo_pass_11 : decode bb_Mo_pass 11 = .ok (.aload_n 0, 1) := by decide +kernel
theorem dd_Mo_pass_12 : decode bb_Mo_pass 12 = .ok (.dup, 1) := by decide +kernel
theorem dd_Mo_pass_13 : decode bb_Mo_pass 13 = .ok (.getfield 300, 3) := by decide +kernel
theorem dd_Mo_pass_16 : decode bb_Mo_pass 16 = .ok (.iconst 1, 1) := by decide +kernel
theorem dd_Mo_pass_17 : decode bb_Mo_pass 17 = .ok (.iadd, 1) := by decide +kernel
theorem dd_Mo_pass_18 : decode bb_Mo_pass 18 = .ok (.putfield 300, 3) := by decide +kernel
theorem dd_Mo_pass_21 : decode bb_Mo_pass 21 = .ok (.return_, 1) := by decide +kernel
set_option maxRecDepth 100000 in
set_option maxHeartbeats 4000000 in
theorem t_Mo_pass_21  (X : zX p s m args cd D cid B bb_Mo_pass 1 rr_Mo zT) (H : zH s meth B n0 none "pass") {nf : Nat}  {c : Zc} {res : Zc} (h : f_Mo_pass_21 nf  c = some res) : Zz p l e (zRm 2 42 0 0) s m args below meth cd (MQ below (zQv D cid B res n0 0) args s 0 0 (fun q => B ≤ q)) D cid B 1 0 0 c 21 [] [] := by
  unfold f_Mo_pass_21 at h
  obtain rfl := Option.some.inj h
  exact z_vret X H.1 H.2.1 H.2.2.1 dd_Mo_pass_21
set_option maxRecDepth 100000 in
set_option maxHeartbeats 4000000 in
theorem c_Mo_pass (l : Launch) {nf : Nat} {a0 : Nat} {c : Zc} {res : Zc} (h : f_Mo_pass nf a0 c = some res) : zM l yy_Mo_pass ww_Mo_pass 2 42 0 0 [.ref a0] c (fun D cid B => zQv D cid B res c.length 0) := by
  refine z_met (cc := bb_Mo_pass) (maxL := 1) (ret := none) (by decide +kernel) rfl (Nat.le_of_ble_eq_true rfl) ?_
  intro p e s m args below meth cd D cid B X h1 h2 h3 h4
  have X : zX p s m args cd D cid B bb_Mo_pass 1 rr_Mo zT := X
  have H : zH s meth B c.length none "pass" := ⟨h1, h2, h4, h3⟩
  unfold f_Mo_pass at h
  show Zz p l e (zRm 2 42 0 0) s m args below meth cd _ D cid B 1 0 0 c 0 [(0, .ref a0)] []
  refine z_aload_n X dd_Mo_pass_0 rfl 0 rfl ?_
  obtain ⟨w2, ew2, h⟩ := zb h
  obtain ⟨q1, eq1, h⟩ := zb h
  refine z_callVv X [] rfl dd_Mo_pass_1 (c_Mo_stands l eq1) (cwV 0 X.1.2.2.2.2 (zg_V km_1924 km_1926 km_73 km_138 km_1927) rfl rfl rfl (by decide +kernel) ⟨Nat.le_of_ble_eq_true rfl, Nat.le_of_ble_eq_true rfl⟩) (zob_s ew2) kc_12 rfl (Nat.le_of_ble_eq_true rfl) ⟨Nat.le_of_ble_eq_true rfl, Nat.le_of_ble_eq_true rfl⟩ ?_
  refine z_aload_n X dd_Mo_pass_4 rfl 0 rfl ?_
  obtain ⟨v3, ev3, h⟩ := zb h
  refine z_get (j := 19) X dd_Mo_pass_5 kc_12 ki_12 (by decide) km_1540 (zgi_v ev3) ?_
  refine z_if_ne (tgt := 21) X dd_Mo_pass_8 (by decide) (fun q4 => ?_) (fun q4 => ?_)
  · rw [if_neg q4] at h
    refine z_sub [] rfl ?_
    exact t_Mo_pass_21 X H h
  · rw [if_pos q4] at h
    refine z_aload_n X dd_Mo_pass_11 rfl 0 rfl ?_
    refine z_dup X dd_Mo_pass_12 rfl ?_
    obtain ⟨v5, ev5, h⟩ := zb h
    refine z_get (j := 18) X dd_Mo_pass_13 kc_12 ki_12 (by decide) km_1539 (zgi_v ev5) ?_
    refine z_iconst (v := 1) X dd_Mo_pass_16 (by decide) ?_
    refine z_iadd X dd_Mo_pass_17 ?_
    obtain ⟨c6, ec6, h⟩ := zb h
    refine z_put (j := 18) X dd_Mo_pass_18 kc_12 ki_12 tt_Mo tk_Mo nn_Mo (by decide) km_1539 rfl (tk_Mo 18 (by decide)) rfl rfl ec6 ?_
    refine z_sub [] rfl ?_
    exact t_Mo_pass_21 X H h
theorem dd_Mo_takes_0 : decode bb_Mo_takes 0 = .ok (.aload_n 0, 1) := by decide +kernel
theorem dd_Mo_takes_1 : decode bb_Mo_takes 1 = .ok (.getfield 294, 3) := by decide +kernel
theorem dd_Mo_takes_4 : decode bb_Mo_takes 4 = .ok (.ifCond .ne 11, 3) := by decide +kernel
theorem dd_Mo_takes_7 : decode bb_Mo_takes 7 = .ok (.aload_n 0, 1) := by decide +kernel
theorem dd_Mo_takes_8 : decode bb_Mo_takes 8 = .ok (.invokevirtual 306, 3) := by decide +kernel
theorem dd_Mo_takes_11 : decode bb_Mo_takes 11 = .ok (.iload_n 1, 1) := by decide +kernel
theorem dd_Mo_takes_12 : decode bb_Mo_takes 12 = .ok (.if_icmp .eq 5, 3) := by decide +kernel
theorem dd_Mo_takes_15 : decode bb_Mo_takes 15 = .ok (.iconst 0, 1) := by decide +kernel
theorem dd_Mo_takes_16 : decode bb_Mo_takes 16 = .ok (.ireturn, 1) := by decide +kernel
theorem dd_Mo_takes_17 : decode bb_Mo_takes 17 = .ok (.aload_n 0, 1) := by decide +kernel
theorem dd_Mo_takes_18 : decode bb_Mo_takes 18 = .ok (.invokevirtual 313, 3) := by decide +kernel
theorem dd_Mo_takes_21 : decode bb_Mo_takes 21 = .ok (.aload_n 0, 1) := by decide +kernel
theorem dd_Mo_takes_22 : decode bb_Mo_takes 22 = .ok (.getfield 294, 3) := by decide +kernel
theorem dd_Mo_takes_25 : decode bb_Mo_takes 25 = .ok (.ifCond .ne 7, 3) := by decide +kernel
theorem dd_Mo_takes_28 : decode bb_Mo_takes 28 = .ok (.iconst 1, 1) := by decide +kernel
theorem dd_Mo_takes_29 : decode bb_Mo_takes 29 = .ok (.goto 4, 3) := by decide +kernel
theorem dd_Mo_takes_32 : decode bb_Mo_takes 32 = .ok (.iconst 0, 1) := by decide +kernel
theorem dd_Mo_takes_33 : decode bb_Mo_takes 33 = .ok (.ireturn, 1) := by decide +kernel
set_option maxRecDepth 100000 in
set_option maxHeartbeats 4000000 in
theorem t_Mo_takes_15  (X : zX p s m args cd D cid B bb_Mo_takes 2 rr_Mo zT) (H : zH s meth B n0 (some (.boolean)) "takes") {nf : Nat}  {c : Zc} {res : Int32 × Zc} (h : f_Mo_takes_15 nf  c = some res) : Zz p l e (zRm 3 62 0 0) s m args below meth cd (MQ below (zQi D cid B res.1 res.2 n0 0) args s 0 0 (fun q => B ≤ q)) D cid B 2 0 0 c 15 [] [] := by
  unfold f_Mo_takes_15 at h
  refine z_iconst (v := 0) X dd_Mo_takes_15 (by decide) ?_
  obtain ⟨hz, h⟩ := zrz_s h
  obtain rfl := h
  exact z_zret X H.1 (zn_z hz) H.2.1 H.2.2.1 dd_Mo_takes_16
set_option maxRecDepth 100000 in
set_option maxHeartbeats 4000000 in
theorem t_Mo_takes_33  (X : zX p s m args cd D cid B bb_Mo_takes 2 rr_Mo zT) (H : zH s meth B n0 (some (.boolean)) "takes") {nf : Nat} {s0 : Int32} {c : Zc} {res : Int32 × Zc} (h : f_Mo_takes_33 nf s0 c = some res) : Zz p l e (zRm 3 62 0 0) s m args below meth cd (MQ below (zQi D cid B res.1 res.2 n0 0) args s 0 0 (fun q => B ≤ q)) D cid B 2 0 0 c 33 [] [.int s0] := by
  unfold f_Mo_takes_33 at h
  obtain ⟨hz, h⟩ := zrz_s h
  obtain rfl := h
  exact z_zret X H.1 (zn_z hz) H.2.1 H.2.2.1 dd_Mo_takes_33
set_option maxRecDepth 100000 in
set_option maxHeartbeats 4000000 in
theorem c_Mo_takes (l : Launch) {nf : Nat} {a0 : Nat} {a1 : Int32} {c : Zc} {res : Int32 × Zc} (h : f_Mo_takes nf a0 a1 c = some res) : zM l yy_Mo_takes ww_Mo_takes 3 62 0 0 [.ref a0, .int a1] c (fun D cid B => zQi D cid B res.1 res.2 c.length 0) := by
  refine z_met (cc := bb_Mo_takes) (maxL := 2) (ret := (some (.boolean))) (by decide +kernel) rfl (Nat.le_of_ble_eq_true rfl) ?_
  intro p e s m args below meth cd D cid B X h1 h2 h3 h4
  have X : zX p s m args cd D cid B bb_Mo_takes 2 rr_Mo zT := X
  have H : zH s meth B c.length (some (.boolean)) "takes" := ⟨h1, h2, h4, h3⟩
  unfold f_Mo_takes at h
  show Zz p l e (zRm 3 62 0 0) s m args below meth cd _ D cid B 2 0 0 c 0 [(0, .ref a0), (1, .int a1)] []
  refine z_aload_n X dd_Mo_takes_0 rfl 0 rfl ?_
  obtain ⟨v1, ev1, h⟩ := zb h
  refine z_get (j := 19) X dd_Mo_takes_1 kc_12 ki_12 (by decide) km_1540 (zgi_v ev1) ?_
  refine z_if_ne (tgt := 15) X dd_Mo_takes_4 (by decide) (fun q2 => ?_) (fun q2 => ?_)
  · rw [if_neg q2] at h
    refine z_sub [] rfl ?_
    exact t_Mo_takes_15 X H h
  · rw [if_pos q2] at h
    refine z_aload_n X dd_Mo_takes_7 rfl 0 rfl ?_
    obtain ⟨w4, ew4, h⟩ := zb h
    obtain ⟨q3, eq3, h⟩ := zb h
    refine z_callVi X [] rfl dd_Mo_takes_8 (c_Mo_kind l eq3) (cwV 0 X.1.2.2.2.2 (zg_V km_1912 km_1914 km_70 km_138 km_1915) rfl rfl rfl (by decide +kernel) ⟨Nat.le_of_ble_eq_true rfl, Nat.le_of_ble_eq_true rfl⟩) (zob_s ew4) kc_12 rfl (Nat.le_of_ble_eq_true rfl) ⟨Nat.le_of_ble_eq_true rfl, Nat.le_of_ble_eq_true rfl⟩ ?_
    refine z_iload_n X dd_Mo_takes_11 rfl 1 rfl ?_
    refine z_icmp_eq (tgt := 17) X dd_Mo_takes_12 (by decide) (fun q5 => ?_) (fun q5 => ?_)
    · rw [if_pos q5] at h
      refine z_aload_n X dd_Mo_takes_17 rfl 0 rfl ?_
      obtain ⟨w7, ew7, h⟩ := zb h
      obtain ⟨q6, eq6, h⟩ := zb h
      refine z_callVv X [] rfl dd_Mo_takes_18 (c_Mo_pass l eq6) (cwV 0 X.1.2.2.2.2 (zg_V km_1920 km_1922 km_72 km_138 km_1923) rfl rfl rfl (by decide +kernel) ⟨Nat.le_of_ble_eq_true rfl, Nat.le_of_ble_eq_true rfl⟩) (zob_s ew7) kc_12 rfl (Nat.le_of_ble_eq_true rfl) ⟨Nat.le_of_ble_eq_true rfl, Nat.le_of_ble_eq_true rfl⟩ ?_
      refine z_aload_n X dd_Mo_takes_21 rfl 0 rfl ?_
      obtain ⟨v8, ev8, h⟩ := zb h
      refine z_get (j := 19) X dd_Mo_takes_22 kc_12 ki_12 (by decide) km_1540 (zgi_v ev8) ?_
      refine z_if_ne (tgt := 32) X dd_Mo_takes_25 (by decide) (fun q9 => ?_) (fun q9 => ?_)
      · rw [if_neg q9] at h
        refine z_iconst (v := 0) X dd_Mo_takes_32 (by decide) ?_
        refine z_sub [] rfl ?_
        exact t_Mo_takes_33 X H h
      · rw [if_pos q9] at h
        refine z_iconst (v := 1) X dd_Mo_takes_28 (by decide) ?_
        refine z_goto (tgt := 33) X dd_Mo_takes_29 (by decide) ?_
        refine z_sub [] rfl ?_
        exact t_Mo_takes_33 X H h
    · rw [if_neg q5] at h
      refine z_sub [] rfl ?_
      exact t_Mo_takes_15 X H h
theorem dd_Mo_need_0 : decode bb_Mo_need 0 = .ok (.aload_n 0, 1) := by decide +kernel
theorem dd_Mo_need_1 : decode bb_Mo_need 1 = .ok (.getfield 294, 3) := by decide +kernel
theorem dd_Mo_need_4 : decode bb_Mo_need 4 = .ok (.ifCond .ne 15, 3) := by decide +kernel
theorem dd_Mo_need_7 : decode bb_Mo_need 7 = .ok (.aload_n 0, 1) := by decide +kernel
theorem dd_Mo_need_8 : decode bb_Mo_need 8 = .ok (.iload_n 1, 1) := by decide +kernel
theorem dd_Mo_need_9 : decode bb_Mo_need 9 = .ok (.invokevirtual 316, 3) := by decide +kernel
theorem dd_Mo_need_12 : decode bb_Mo_need 12 = .ok (.ifCond .ne 7, 3) := by decide +kernel
theorem dd_Mo_need_15 : decode bb_Mo_need 15 = .ok (.aload_n 0, 1) := by decide +kernel
theorem dd_Mo_need_16 : decode bb_Mo_need 16 = .ok (.invokevirtual 319, 3) := by decide +kernel
theorem dd_Mo_need_19 : decode bb_Mo_need 19 = .ok (.return_, 1) := by decide +kernel
set_option maxRecDepth 100000 in
set_option maxHeartbeats 4000000 in
theorem t_Mo_need_19  (X : zX p s m args cd D cid B bb_Mo_need 2 rr_Mo zT) (H : zH s meth B n0 none "need") {nf : Nat}  {c : Zc} {res : Zc} (h : f_Mo_need_19 nf  c = some res) : Zz p l e (zRm 4 83 0 0) s m args below meth cd (MQ below (zQv D cid B res n0 0) args s 0 0 (fun q => B ≤ q)) D cid B 2 0 0 c 19 [] [] := by
  unfold f_Mo_need_19 at h
  obtain rfl := Option.some.inj h
  exact z_vret X H.1 H.2.1 H.2.2.1 dd_Mo_need_19
set_option maxRecDepth 100000 in
set_option maxHeartbeats 4000000 in
theorem c_Mo_need (l : Launch) {nf : Nat} {a0 : Nat} {a1 : Int32} {c : Zc} {res : Zc} (h : f_Mo_need nf a0 a1 c = some res) : zM l yy_Mo_need ww_Mo_need 4 83 0 0 [.ref a0, .int a1] c (fun D cid B => zQv D cid B res c.length 0) := by
  refine z_met (cc := bb_Mo_need) (maxL := 2) (ret := none) (by decide +kernel) rfl (Nat.le_of_ble_eq_true rfl) ?_
  intro p e s m args below meth cd D cid B X h1 h2 h3 h4
  have X : zX p s m args cd D cid B bb_Mo_need 2 rr_Mo zT := X
  have H : zH s meth B c.length none "need" := ⟨h1, h2, h4, h3⟩
  unfold f_Mo_need at h
  show Zz p l e (zRm 4 83 0 0) s m args below meth cd _ D cid B 2 0 0 c 0 [(0, .ref a0), (1, .int a1)] []
  refine z_aload_n X dd_Mo_need_0 rfl 0 rfl ?_
  obtain ⟨v1, ev1, h⟩ := zb h
  refine z_get (j := 19) X dd_Mo_need_1 kc_12 ki_12 (by decide) km_1540 (zgi_v ev1) ?_
  refine z_if_ne (tgt := 19) X dd_Mo_need_4 (by decide) (fun q2 => ?_) (fun q2 => ?_)
  · rw [if_neg q2] at h
    refine z_sub [] rfl ?_
    exact t_Mo_need_19 X H h
  · rw [if_pos q2] at h
    refine z_aload_n X dd_Mo_need_7 rfl 0 rfl ?_
    refine z_iload_n X dd_Mo_need_8 rfl 1 rfl ?_
    obtain ⟨w4, ew4, h⟩ := zb h
    obtain ⟨q3, eq3, h⟩ := zb h
    refine z_callVi X [.int a1] rfl dd_Mo_need_9 (c_Mo_takes l eq3) (cwV 1 X.1.2.2.2.2 (zg_V km_1908 km_1910 km_69 km_138 km_1911) rfl rfl rfl (by decide +kernel) ⟨Nat.le_of_ble_eq_true rfl, Nat.le_of_ble_eq_true rfl⟩) (zob_s ew4) kc_12 rfl (Nat.le_of_ble_eq_true rfl) ⟨Nat.le_of_ble_eq_true rfl, Nat.le_of_ble_eq_true rfl⟩ ?_
    refine z_if_ne (tgt := 19) X dd_Mo_need_12 (by decide) (fun q5 => ?_) (fun q5 => ?_)
    · rw [if_neg q5] at h
      refine z_sub [] rfl ?_
      exact t_Mo_need_19 X H h
    · rw [if_pos q5] at h
      refine z_aload_n X dd_Mo_need_15 rfl 0 rfl ?_
      obtain ⟨w7, ew7, h⟩ := zb h
      obtain ⟨q6, eq6, h⟩ := zb h
      refine z_callVv X [] rfl dd_Mo_need_16 (c_Mo_wrong l eq6) (cwV 0 X.1.2.2.2.2 (zg_V km_1928 km_1930 km_74 km_138 km_1931) rfl rfl rfl (by decide +kernel) ⟨Nat.le_of_ble_eq_true rfl, Nat.le_of_ble_eq_true rfl⟩) (zob_s ew7) kc_12 rfl (Nat.le_of_ble_eq_true rfl) ⟨Nat.le_of_ble_eq_true rfl, Nat.le_of_ble_eq_true rfl⟩ ?_
      refine z_sub [] rfl ?_
      exact t_Mo_need_19 X H h
theorem dd_Mo_within_0 : decode bb_Mo_within 0 = .ok (.aload_n 0, 1) := by decide +kernel
theorem dd_Mo_within_1 : decode bb_Mo_within 1 = .ok (.dup, 1) := by decide +kernel
theorem dd_Mo_within_2 : decode bb_Mo_within 2 = .ok (.getfield 322, 3) := by decide +kernel
theorem dd_Mo_within_5 : decode bb_Mo_within 5 = .ok (.iconst 1, 1) := by decide +kernel
theorem dd_Mo_within_6 : decode bb_Mo_within 6 = .ok (.iadd, 1) := by decide +kernel
theorem dd_Mo_within_7 : decode bb_Mo_within 7 = .ok (.putfield 322, 3) := by decide +kernel
theorem dd_Mo_within_10 : decode bb_Mo_within 10 = .ok (.aload_n 0, 1) := by decide +kernel
theorem dd_Mo_within_11 : decode bb_Mo_within 11 = .ok (.getfield 294, 3) := by decide +kernel
theorem dd_Mo_within_14 : decode bb_Mo_within 14 = .ok (.ifCond .ne 31, 3) := by decide +kernel
theorem dd_Mo_within_17 : decode bb_Mo_within 17 = .ok (.aload_n 0, 1) := by decide +kernel
theorem dd_Mo_within_18 : decode bb_Mo_within 18 = .ok (.getfield 322, 3) := by decide +kernel
theorem dd_Mo_within_21 : decode bb_Mo_within 21 = .ok (.bipush 10, 2) := by decide +kernel
theorem dd_Mo_within_23 : decode bb_Mo_within 23 = .ok (.if_icmp .le 22, 3) := by decide +kernel
theorem dd_Mo_within_26 : decode bb_Mo_within 26 = .ok (.aload_n 0, 1) := by decide +kernel
theorem dd_Mo_within_27 : decode bb_Mo_within 27 = .ok (.invokevirtual 306, 3) := by decide +kernel
theorem dd_Mo_within_30 : decode bb_Mo_within 30 = .ok (.pop, 1) := by decide +kernel
theorem dd_Mo_within_31 : decode bb_Mo_within 31 = .ok (.aload_n 0, 1) := by decide +kernel
theorem dd_Mo_within_32 : decode bb_Mo_within 32 = .ok (.iconst 3, 1) := by decide +kernel
theorem dd_Mo_within_33 : decode bb_Mo_within 33 = .ok (.aload_n 0, 1) := by decide +kernel
theorem dd_Mo_within_34 : decode bb_Mo_within 34 = .ok (.getfield 49, 3) := by decide +kernel
theorem dd_Mo_within_37 : decode bb_Mo_within 37 = .ok (.aload_n 0, 1) := by decide +kernel
theorem dd_Mo_within_38 : decode bb_Mo_within 38 = .ok (.getfield 300, 3) := by decide +kernel
theorem dd_Mo_within_41 : decode bb_Mo_within 41 = .ok (.iaload, 1) := by decide +kernel
theorem dd_Mo_within_42 : decode bb_Mo_within 42 = .ok (.invokevirtual 303, 3) := by decide +kernel
theorem dd_Mo_within_45 : decode bb_Mo_within 45 = .ok (.return_, 1) := by decide +kernel
set_option maxRecDepth 100000 in
set_option maxHeartbeats 4000000 in
theorem t_Mo_within_45  (X : zX p s m args cd D cid B bb_Mo_within 1 rr_Mo zT) (H : zH s meth B n0 none "within") {nf : Nat}  {c : Zc} {res : Zc} (h : f_Mo_within_45 nf  c = some res) : Zz p l e (zRm 2 42 0 0) s m args below meth cd (MQ below (zQv D cid B res n0 0) args s 0 0 (fun q => B ≤ q)) D cid B 1 0 0 c 45 [] [] := by
  unfold f_Mo_within_45 at h
  obtain rfl := Option.some.inj h
  exact z_vret X H.1 H.2.1 H.2.2.1 dd_Mo_within_45
set_option maxRecDepth 100000 in
set_option maxHeartbeats 4000000 in
theorem c_Mo_within (l : Launch) {nf : Nat} {a0 : Nat} {c : Zc} {res : Zc} (h : f_Mo_within nf a0 c = some res) : zM l yy_Mo_within ww_Mo_within 2 42 0 0 [.ref a0] c (fun D cid B => zQv D cid B res c.length 0) := by
  refine z_met (cc := bb_Mo_within) (maxL := 1) (ret := none) (by decide +kernel) rfl (Nat.le_of_ble_eq_true rfl) ?_
  intro p e s m args below meth cd D cid B X h1 h2 h3 h4
  have X : zX p s m args cd D cid B bb_Mo_within 1 rr_Mo zT := X
  have H : zH s meth B c.length none "within" := ⟨h1, h2, h4, h3⟩
  unfold f_Mo_within at h
  show Zz p l e (zRm 2 42 0 0) s m args below meth cd _ D cid B 1 0 0 c 0 [(0, .ref a0)] []
  refine z_aload_n X dd_Mo_within_0 rfl 0 rfl ?_
  refine z_dup X dd_Mo_within_1 rfl ?_
  obtain ⟨v1, ev1, h⟩ := zb h
  refine z_get (j := 53) X dd_Mo_within_2 kc_12 ki_12 (by decide) km_1574 (zgi_v ev1) ?_
  refine z_iconst (v := 1) X dd_Mo_within_5 (by decide) ?_
  refine z_iadd X dd_Mo_within_6 ?_
  obtain ⟨c2, ec2, h⟩ := zb h
  refine z_put (j := 53) X dd_Mo_within_7 kc_12 ki_12 tt_Mo tk_Mo nn_Mo (by decide) km_1574 rfl (tk_Mo 53 (by decide)) rfl rfl ec2 ?_
  refine z_aload_n X dd_Mo_within_10 rfl 0 rfl ?_
  obtain ⟨v3, ev3, h⟩ := zb h
  refine z_get (j := 19) X dd_Mo_within_11 kc_12 ki_12 (by decide) km_1540 (zgi_v ev3) ?_
  refine z_if_ne (tgt := 45) X dd_Mo_within_14 (by decide) (fun q4 => ?_) (fun q4 => ?_)
  · rw [if_neg q4] at h
    refine z_sub [] rfl ?_
    exact t_Mo_within_45 X H h
  · rw [if_pos q4] at h
    refine z_aload_n X dd_Mo_within_17 rfl 0 rfl ?_
    obtain ⟨v5, ev5, h⟩ := zb h
    refine z_get (j := 53) X dd_Mo_within_18 kc_12 ki_12 (by decide) km_1574 (zgi_v ev5) ?_
    refine z_bipush (v := 10) X dd_Mo_within_21 (by decide) ?_
    refine z_icmp_le (tgt := 45) X dd_Mo_within_23 (by decide) (fun q6 => ?_) (fun q6 => ?_)
    · rw [if_pos q6] at h
      refine z_sub [] rfl ?_
      exact t_Mo_within_45 X H h
    · rw [if_neg q6] at h
      refine z_aload_n X dd_Mo_within_26 rfl 0 rfl ?_
      obtain ⟨w8, ew8, h⟩ := zb h
      obtain ⟨q7, eq7, h⟩ := zb h
      refine z_callVi X [] rfl dd_Mo_within_27 (c_Mo_kind l eq7) (cwV 0 X.1.2.2.2.2 (zg_V km_1912 km_1914 km_70 km_138 km_1915) rfl rfl rfl (by decide +kernel) ⟨Nat.le_of_ble_eq_true rfl, Nat.le_of_ble_eq_true rfl⟩) (zob_s ew8) kc_12 rfl (Nat.le_of_ble_eq_true rfl) ⟨Nat.le_of_ble_eq_true rfl, Nat.le_of_ble_eq_true rfl⟩ ?_
      refine z_pop X dd_Mo_within_30 rfl ?_
      refine z_aload_n X dd_Mo_within_31 rfl 0 rfl ?_
      refine z_iconst (v := 3) X dd_Mo_within_32 (by decide) ?_
      refine z_aload_n X dd_Mo_within_33 rfl 0 rfl ?_
      obtain ⟨v9, ev9, h⟩ := zb h
      refine z_get (j := 16) X dd_Mo_within_34 kc_12 ki_12 (by decide) km_1537 (zgr_v ev9) ?_
      refine z_aload_n X dd_Mo_within_37 rfl 0 rfl ?_
      obtain ⟨v10, ev10, h⟩ := zb h
      refine z_get (j := 18) X dd_Mo_within_38 kc_12 ki_12 (by decide) km_1539 (zgi_v ev10) ?_
      obtain ⟨v11, ev11, h⟩ := zb h
      refine z_iaload X dd_Mo_within_41 rfl ev11 ?_
      obtain ⟨w13, ew13, h⟩ := zb h
      obtain ⟨q12, eq12, h⟩ := zb h
      refine z_callVv X [.int 3, .int v11] rfl dd_Mo_within_42 (c_Mo_refuse l eq12) (cwV 2 X.1.2.2.2.2 (zg_V km_1916 km_1918 km_71 km_138 km_1919) rfl rfl rfl (by decide +kernel) ⟨Nat.le_of_ble_eq_true rfl, Nat.le_of_ble_eq_true rfl⟩) (zob_s ew13) kc_12 rfl (Nat.le_of_ble_eq_true rfl) ⟨Nat.le_of_ble_eq_true rfl, Nat.le_of_ble_eq_true rfl⟩ ?_
      refine z_sub [] rfl ?_
      exact t_Mo_within_45 X H h
theorem dd_Mo_meaning_0 : decode bb_Mo_meaning 0 = .ok (.aload_n 0, 1) := by decide +kernel
theorem dd_Mo_meaning_1 : decode bb_Mo_meaning 1 = .ok (.getfield 325, 3) := by decide +kernel
theorem dd_Mo_meaning_4 : decode bb_Mo_meaning 4 = .ok (.ifCond .le 22, 3) := by decide +kernel
theorem dd_Mo_meaning_7 : decode bb_Mo_meaning 7 = .ok (.aload_n 0, 1) := by decide +kernel
theorem dd_Mo_meaning_8 : decode bb_Mo_meaning 8 = .ok (.getfield 146, 3) := by decide +kernel
theorem dd_Mo_meaning_11 : decode bb_Mo_meaning 11 = .ok (.iload_n 1, 1) := by decide +kernel
theorem dd_Mo_meaning_12 : decode bb_Mo_meaning 12 = .ok (.iaload, 1) := by decide +kernel
theorem dd_Mo_meaning_13 : decode bb_Mo_meaning 13 = .ok (.iconst (-1), 1) := by decide +kernel
theorem dd_Mo_meaning_14 : decode bb_Mo_meaning 14 = .ok (.if_icmp .eq 12, 3) := by decide +kernel
theorem dd_Mo_meaning_17 : decode bb_Mo_meaning 17 = .ok (.aload_n 0, 1) := by decide +kernel
theorem dd_Mo_meaning_18 : decode bb_Mo_meaning 18 = .ok (.getfield 146, 3) := by decide +kernel
theorem dd_Mo_meaning_21 : decode bb_Mo_meaning 21 = .ok (.iload_n 1, 1) := by decide +kernel
theorem dd_Mo_meaning_22 : decode bb_Mo_meaning 22 = .ok (.iaload, 1) := by decide +kernel
theorem dd_Mo_meaning_23 : decode bb_Mo_meaning 23 = .ok (.goto 9, 3) := by decide +kernel
theorem dd_Mo_meaning_26 : decode bb_Mo_meaning 26 = .ok (.aload_n 0, 1) := by decide +kernel
theorem dd_Mo_meaning_27 : decode bb_Mo_meaning 27 = .ok (.getfield 143, 3) := by decide +kernel
theorem dd_Mo_meaning_30 : decode bb_Mo_meaning 30 = .ok (.iload_n 1, 1) := by decide +kernel
theorem dd_Mo_meaning_31 : decode bb_Mo_meaning 31 = .ok (.iaload, 1) := by decide +kernel
theorem dd_Mo_meaning_32 : decode bb_Mo_meaning 32 = .ok (.ireturn, 1) := by decide +kernel
set_option maxRecDepth 100000 in
set_option maxHeartbeats 4000000 in
theorem t_Mo_meaning_32  (X : zX p s m args cd D cid B bb_Mo_meaning 2 rr_Mo zT) (H : zH s meth B n0 (some (.int)) "meaning") {nf : Nat} {s0 : Int32} {c : Zc} {res : Int32 × Zc} (h : f_Mo_meaning_32 nf s0 c = some res) : Zz p l e (zRm 0 0 0 0) s m args below meth cd (MQ below (zQi D cid B res.1 res.2 n0 0) args s 0 0 (fun q => B ≤ q)) D cid B 2 0 0 c 32 [] [.int s0] := by
  unfold f_Mo_meaning_32 at h
  obtain rfl := Option.some.inj h
  exact z_iret X H.1 H.2.1 H.2.2.1 dd_Mo_meaning_32
set_option maxRecDepth 100000 in
set_option maxHeartbeats 4000000 in
theorem t_Mo_meaning_26  (X : zX p s m args cd D cid B bb_Mo_meaning 2 rr_Mo zT) (H : zH s meth B n0 (some (.int)) "meaning") {nf : Nat} {x0 : Nat} {x1 : Int32} {c : Zc} {res : Int32 × Zc} (h : f_Mo_meaning_26 nf x0 x1 c = some res) : Zz p l e (zRm 0 0 0 0) s m args below meth cd (MQ below (zQi D cid B res.1 res.2 n0 0) args s 0 0 (fun q => B ≤ q)) D cid B 2 0 0 c 26 [(0, .ref x0), (1, .int x1)] [] := by
  unfold f_Mo_meaning_26 at h
  refine z_aload_n X dd_Mo_meaning_26 rfl 0 rfl ?_
  obtain ⟨v3, ev3, h⟩ := zb h
  refine z_get (j := 54) X dd_Mo_meaning_27 kc_12 ki_12 (by decide) km_1575 (zgr_v ev3) ?_
  refine z_iload_n X dd_Mo_meaning_30 rfl 1 rfl ?_
  obtain ⟨v4, ev4, h⟩ := zb h
  refine z_iaload X dd_Mo_meaning_31 rfl ev4 ?_
  refine z_sub [] rfl ?_
  exact t_Mo_meaning_32 X H h
set_option maxRecDepth 100000 in
set_option maxHeartbeats 4000000 in
theorem c_Mo_meaning (l : Launch) {nf : Nat} {a0 : Nat} {a1 : Int32} {c : Zc} {res : Int32 × Zc} (h : f_Mo_meaning nf a0 a1 c = some res) : zM l yy_Mo_meaning ww_Mo_meaning 0 0 0 0 [.ref a0, .int a1] c (fun D cid B => zQi D cid B res.1 res.2 c.length 0) := by
  refine z_met (cc := bb_Mo_meaning) (maxL := 2) (ret := (some (.int))) (by decide +kernel) rfl (Nat.le_of_ble_eq_true rfl) ?_
  intro p e s m args below meth cd D cid B X h1 h2 h3 h4
  have X : zX p s m args cd D cid B bb_Mo_meaning 2 rr_Mo zT := X
  have H : zH s meth B c.length (some (.int)) "meaning" := ⟨h1, h2, h4, h3⟩
  unfold f_Mo_meaning at h
  show Zz p l e (zRm 0 0 0 0) s m args below meth cd _ D cid B 2 0 0 c 0 [(0, .ref a0), (1, .int a1)] []
  refine z_aload_n X dd_Mo_meaning_0 rfl 0 rfl ?_
  obtain ⟨v1, ev1, h⟩ := zb h
  refine z_get (j := 56) X dd_Mo_meaning_1 kc_12 ki_12 (by decide) km_1577 (zgi_v ev1) ?_
  refine z_if_le (tgt := 26) X dd_Mo_meaning_4 (by decide) (fun q2 => ?_) (fun q2 => ?_)
  · rw [if_pos q2] at h
    exact t_Mo_meaning_26 X H h
  · rw [if_neg q2] at h
    refine z_aload_n X dd_Mo_meaning_7 rfl 0 rfl ?_
    obtain ⟨v5, ev5, h⟩ := zb h
    refine z_get (j := 55) X dd_Mo_meaning_8 kc_12 ki_12 (by decide) km_1576 (zgr_v ev5) ?_
    refine z_iload_n X dd_Mo_meaning_11 rfl 1 rfl ?_
    obtain ⟨v6, ev6, h⟩ := zb h
    refine z_iaload X dd_Mo_meaning_12 rfl ev6 ?_
    refine z_iconst (v := (-1)) X dd_Mo_meaning_13 (by decide) ?_
    refine z_icmp_eq (tgt := 26) X dd_Mo_meaning_14 (by decide) (fun q7 => ?_) (fun q7 => ?_)
    · rw [if_pos q7] at h
      exact t_Mo_meaning_26 X H h
    · rw [if_neg q7] at h
      refine z_aload_n X dd_Mo_meaning_17 rfl 0 rfl ?_
      obtain ⟨v8, ev8, h⟩ := zb h
      refine z_get (j := 55) X dd_Mo_meaning_18 kc_12 ki_12 (by decide) km_1576 (zgr_v ev8) ?_
      refine z_iload_n X dd_Mo_meaning_21 rfl 1 rfl ?_
      obtain ⟨v9, ev9, h⟩ := zb h
      refine z_iaload X dd_Mo_meaning_22 rfl ev9 ?_
      refine z_goto (tgt := 32) X dd_Mo_meaning_23 (by decide) ?_
      refine z_sub [] rfl ?_
      exact t_Mo_meaning_32 X H h
theorem dd_Mo_learn_0 : decode bb_Mo_learn 0 = .ok (.aload_n 0, 1) := by decide +kernel
theorem dd_Mo_learn_1 : decode bb_Mo_learn 1 = .ok (.getfield 325, 3) := by decide +kernel
theorem dd_Mo_learn_4 : decode bb_Mo_learn 4 = .ok (.ifCond .le 13, 3) := by decide +kernel
theorem dd_Mo_learn_7 : decode bb_Mo_learn 7 = .ok (.aload_n 0, 1) := by decide +kernel
theorem dd_Mo_learn_8 : decode bb_Mo_learn 8 = .ok (.getfield 146, 3) := by decide +kernel
theorem dd_Mo_learn_11 : decode bb_Mo_learn 11 = .ok (.iload_n 1, 1) := by decide +kernel
theorem dd_Mo_learn_12 : decode bb_Mo_learn 12 = .ok (.iload_n 2, 1) := by decide +kernel
theorem dd_Mo_learn_13 : decode bb_Mo_learn 13 = .ok (.iastore, 1) := by decide +kernel
theorem dd_Mo_learn_14 : decode bb_Mo_learn 14 = .ok (.goto 10, 3) := by decide +kernel
theorem dd_Mo_learn_17 : decode bb_Mo_learn 17 = .ok (.aload_n 0, 1) := by decide +kernel
theorem dd_Mo_learn_18 : decode bb_Mo_learn 18 = .ok (.getfield 143, 3) := by decide +kernel
theorem dd_Mo_learn_21 : decode bb_Mo_learn 21 = .ok (.iload_n 1, 1) := by decide +kernel
theorem dd_Mo_learn_22 : decode bb_Mo_learn 22 = .ok (.iload_n 2, 1) := by decide +kernel
theorem dd_Mo_learn_23 : decode bb_Mo_learn 23 = .ok (.iastore, 1) := by decide +kernel
theorem dd_Mo_learn_24 : decode bb_Mo_learn 24 = .ok (.return_, 1) := by decide +kernel
set_option maxRecDepth 100000 in
set_option maxHeartbeats 4000000 in
theorem t_Mo_learn_24  (X : zX p s m args cd D cid B bb_Mo_learn 3 rr_Mo zT) (H : zH s meth B n0 none "learn") {nf : Nat}  {c : Zc} {res : Zc} (h : f_Mo_learn_24 nf  c = some res) : Zz p l e (zRm 0 0 0 0) s m args below meth cd (MQ below (zQv D cid B res n0 0) args s 0 0 (fun q => B ≤ q)) D cid B 3 0 0 c 24 [] [] := by
  unfold f_Mo_learn_24 at h
  obtain rfl := Option.some.inj h
  exact z_vret X H.1 H.2.1 H.2.2.1 dd_Mo_learn_24
set_option maxRecDepth 100000 in
set_option maxHeartbeats 4000000 in
theorem c_Mo_learn (l : Launch) {nf : Nat} {a0 : Nat} {a1 : Int32} {a2 : Int32} {c : Zc} {res : Zc} (h : f_Mo_learn nf a0 a1 a2 c = some res) : zM l yy_Mo_learn ww_Mo_learn 0 0 0 0 [.ref a0, .int a1, .int a2] c (fun D cid B => zQv D cid B res c.length 0) := by
  refine z_met (cc := bb_Mo_learn) (maxL := 3) (ret := none) (by decide +kernel) rfl (Nat.le_of_ble_eq_true rfl) ?_
  intro p e s m args below meth cd D cid B X h1 h2 h3 h4
  have X : zX p s m args cd D cid B bb_Mo_learn 3 rr_Mo zT := X
  have H : zH s meth B c.length none "learn" := ⟨h1, h2, h4, h3⟩
  unfold f_Mo_learn at h
  show Zz p l e (zRm 0 0 0 0) s m args below meth cd _ D cid B 3 0 0 c 0 [(0, .ref a0), (1, .int a1), (2, .int a2)] []
  refine z_aload_n X dd_Mo_learn_0 rfl 0 rfl ?_
  obtain ⟨v1, ev1, h⟩ := zb h
  refine z_get (j := 56) X dd_Mo_learn_1 kc_12 ki_12 (by decide) km_1577 (zgi_v ev1) ?_
  refine z_if_le (tgt := 17) X dd_Mo_learn_4 (by decide) (fun q2 => ?_) (fun q2 => ?_)
  · rw [if_pos q2] at h
    refine z_aload_n X dd_Mo_learn_17 rfl 0 rfl ?_
    obtain ⟨v3, ev3, h⟩ := zb h
    refine z_get (j := 54) X dd_Mo_learn_18 kc_12 ki_12 (by decide) km_1575 (zgr_v ev3) ?_
    refine z_iload_n X dd_Mo_learn_21 rfl 1 rfl ?_
    refine z_iload_n X dd_Mo_learn_22 rfl 2 rfl ?_
    obtain ⟨c4, ec4, h⟩ := zb h
    refine z_iastore X dd_Mo_learn_23 rfl ec4 ?_
    refine z_sub [] rfl ?_
    exact t_Mo_learn_24 X H h
  · rw [if_neg q2] at h
    refine z_aload_n X dd_Mo_learn_7 rfl 0 rfl ?_
    obtain ⟨v5, ev5, h⟩ := zb h
    refine z_get (j := 55) X dd_Mo_learn_8 kc_12 ki_12 (by decide) km_1576 (zgr_v ev5) ?_
    refine z_iload_n X dd_Mo_learn_11 rfl 1 rfl ?_
    refine z_iload_n X dd_Mo_learn_12 rfl 2 rfl ?_
    obtain ⟨c6, ec6, h⟩ := zb h
    refine z_iastore X dd_Mo_learn_13 rfl ec6 ?_
    refine z_goto (tgt := 24) X dd_Mo_learn_14 (by decide) ?_
    refine z_sub [] rfl ?_
    exact t_Mo_learn_24 X H h
theorem dd_Mo_oneMore_0 : decode bb_Mo_oneMore 0 = .ok (.aload_n 0, 1) := by decide +kernel
theorem dd_Mo_oneMore_1 : decode bb_Mo_oneMore 1 = .ok (.getfield 328, 3) := by decide +kernel
theorem dd_Mo_oneMore_4 : decode bb_Mo_oneMore 4 = .ok (.bipush 8, 2) := by decide +kernel
theorem dd_Mo_oneMore_6 : decode bb_Mo_oneMore 6 = .ok (.if_icmp .ne 9, 3) := by decide +kernel
theorem dd_Mo_oneMore_9 : decode bb_Mo_oneMore 9 = .ok (.aload_n 0, 1) := by decide +kernel
theorem dd_Mo_oneMore_10 : decode bb_Mo_oneMore 10 = .ok (.iconst 3, 1) := by decide +kernel
theorem dd_Mo_oneMore_11 : decode bb_Mo_oneMore 11 = .ok (.iload_n 1, 1) := by decide +kernel
theorem dd_Mo_oneMore_12 : decode bb_Mo_oneMore 12 = .ok (.invokevirtual 303, 3) := by decide +kernel
theorem dd_Mo_oneMore_15 : decode bb_Mo_oneMore 15 = .ok (.aload_n 0, 1) := by decide +kernel
theorem dd_Mo_oneMore_16 : decode bb_Mo_oneMore 16 = .ok (.dup, 1) := by decide +kernel
theorem dd_Mo_oneMore_17 : decode bb_Mo_oneMore 17 = .ok (.getfield 328, 3) := by decide +kernel
theorem dd_Mo_oneMore_20 : decode bb_Mo_oneMore 20 = .ok (.iconst 1, 1) := by decide +kernel
theorem dd_Mo_oneMore_21 : decode bb_Mo_oneMore 21 = .ok (.iadd, 1) := by decide +kernel
theorem dd_Mo_oneMore_22 : decode bb_Mo_oneMore 22 = .ok (.putfield 328, 3) := by decide +kernel
theorem dd_Mo_oneMore_25 : decode bb_Mo_oneMore 25 = .ok (.aload_n 0, 1) := by decide +kernel
theorem dd_Mo_oneMore_26 : decode bb_Mo_oneMore 26 = .ok (.getfield 294, 3) := by decide +kernel
theorem dd_Mo_oneMore_29 : decode bb_Mo_oneMore 29 = .ok (.ifCond .ne 7, 3) := by decide +kernel
theorem dd_Mo_oneMore_32 : decode bb_Mo_oneMore 32 = .ok (.iconst 1, 1) := by decide +kernel
theorem dd_Mo_oneMore_33 : decode bb_Mo_oneMore 33 = .ok (.goto 4, 3) := by decide +kernel
theorem dd_Mo_oneMore_36 : decode bb_Mo_oneMore 36 = .ok (.iconst 0, 1) := by decide +kernel
theorem dd_Mo_oneMore_37 : decode bb_Mo_oneMore 37 = .ok (.ireturn, 1) := by decide +kernel
set_option maxRecDepth 100000 in
set_option maxHeartbeats 4000000 in
theorem t_Mo_oneMore_37  (X : zX p s m args cd D cid B bb_Mo_oneMore 2 rr_Mo zT) (H : zH s meth B n0 (some (.boolean)) "oneMore") {nf : Nat} {s0 : Int32} {c : Zc} {res : Int32 × Zc} (h : f_Mo_oneMore_37 nf s0 c = some res) : Zz p l e (zRm 1 22 0 0) s m args below meth cd (MQ below (zQi D cid B res.1 res.2 n0 0) args s 0 0 (fun q => B ≤ q)) D cid B 2 0 0 c 37 [] [.int s0] := by
  unfold f_Mo_oneMore_37 at h
  obtain ⟨hz, h⟩ := zrz_s h
  obtain rfl := h
  exact z_zret X H.1 (zn_z hz) H.2.1 H.2.2.1 dd_Mo_oneMore_37
set_option maxRecDepth 100000 in
set_option maxHeartbeats 4000000 in
theorem t_Mo_oneMore_15  (X : zX p s m args cd D cid B bb_Mo_oneMore 2 rr_Mo zT) (H : zH s meth B n0 (some (.boolean)) "oneMore") {nf : Nat} {x0 : Nat} {c : Zc} {res : Int32 × Zc} (h : f_Mo_oneMore_15 nf x0 c = some res) : Zz p l e (zRm 1 22 0 0) s m args below meth cd (MQ below (zQi D cid B res.1 res.2 n0 0) args s 0 0 (fun q => B ≤ q)) D cid B 2 0 0 c 15 [(0, .ref x0)] [] := by
  unfold f_Mo_oneMore_15 at h
  refine z_aload_n X dd_Mo_oneMore_15 rfl 0 rfl ?_
  refine z_dup X dd_Mo_oneMore_16 rfl ?_
  obtain ⟨v3, ev3, h⟩ := zb h
  refine z_get (j := 57) X dd_Mo_oneMore_17 kc_12 ki_12 (by decide) km_1578 (zgi_v ev3) ?_
  refine z_iconst (v := 1) X dd_Mo_oneMore_20 (by decide) ?_
  refine z_iadd X dd_Mo_oneMore_21 ?_
  obtain ⟨c4, ec4, h⟩ := zb h
  refine z_put (j := 57) X dd_Mo_oneMore_22 kc_12 ki_12 tt_Mo tk_Mo nn_Mo (by decide) km_1578 rfl (tk_Mo 57 (by decide)) rfl rfl ec4 ?_
  refine z_aload_n X dd_Mo_oneMore_25 rfl 0 rfl ?_
  obtain ⟨v5, ev5, h⟩ := zb h
  refine z_get (j := 19) X dd_Mo_oneMore_26 kc_12 ki_12 (by decide) km_1540 (zgi_v ev5) ?_
  refine z_if_ne (tgt := 36) X dd_Mo_oneMore_29 (by decide) (fun q6 => ?_) (fun q6 => ?_)
  · rw [if_neg q6] at h
    refine z_iconst (v := 0) X dd_Mo_oneMore_36 (by decide) ?_
    refine z_sub [] rfl ?_
    exact t_Mo_oneMore_37 X H h
  · rw [if_pos q6] at h
    refine z_iconst (v := 1) X dd_Mo_oneMore_32 (by decide) ?_
    refine z_goto (tgt := 37) X dd_Mo_oneMore_33 (by decide) ?_
    refine z_sub [] rfl ?_
    exact t_Mo_oneMore_37 X H h
set_option maxRecDepth 100000 in
set_option maxHeartbeats 4000000 in
theorem c_Mo_oneMore (l : Launch) {nf : Nat} {a0 : Nat} {a1 : Int32} {c : Zc} {res : Int32 × Zc} (h : f_Mo_oneMore nf a0 a1 c = some res) : zM l yy_Mo_oneMore ww_Mo_oneMore 1 22 0 0 [.ref a0, .int a1] c (fun D cid B => zQi D cid B res.1 res.2 c.length 0) := by
  refine z_met (cc := bb_Mo_oneMore) (maxL := 2) (ret := (some (.boolean))) (by decide +kernel) rfl (Nat.le_of_ble_eq_true rfl) ?_
  intro p e s m args below meth cd D cid B X h1 h2 h3 h4
  have X : zX p s m args cd D cid B bb_Mo_oneMore 2 rr_Mo zT := X
  have H : zH s meth B c.length (some (.boolean)) "oneMore" := ⟨h1, h2, h4, h3⟩
  unfold f_Mo_oneMore at h
  show Zz p l e (zRm 1 22 0 0) s m args below meth cd _ D cid B 2 0 0 c 0 [(0, .ref a0), (1, .int a1)] []
  refine z_aload_n X dd_Mo_oneMore_0 rfl 0 rfl ?_
  obtain ⟨v1, ev1, h⟩ := zb h
  refine z_get (j := 57) X dd_Mo_oneMore_1 kc_12 ki_12 (by decide) km_1578 (zgi_v ev1) ?_
  refine z_bipush (v := 8) X dd_Mo_oneMore_4 (by decide) ?_
  refine z_icmp_ne (tgt := 15) X dd_Mo_oneMore_6 (by decide) (fun q2 => ?_) (fun q2 => ?_)
  · rw [if_neg q2] at h
    refine z_sub [0] rfl ?_
    exact t_Mo_oneMore_15 X H h
  · rw [if_pos q2] at h
    refine z_aload_n X dd_Mo_oneMore_9 rfl 0 rfl ?_
    refine z_iconst (v := 3) X dd_Mo_oneMore_10 (by decide) ?_
    refine z_iload_n X dd_Mo_oneMore_11 rfl 1 rfl ?_
    obtain ⟨w8, ew8, h⟩ := zb h
    obtain ⟨q7, eq7, h⟩ := zb h
    refine z_callVv X [.int 3, .int a1] rfl dd_Mo_oneMore_12 (c_Mo_refuse l eq7) (cwV 2 X.1.2.2.2.2 (zg_V km_1916 km_1918 km_71 km_138 km_1919) rfl rfl rfl (by decide +kernel) ⟨Nat.le_of_ble_eq_true rfl, Nat.le_of_ble_eq_true rfl⟩) (zob_s ew8) kc_12 rfl (Nat.le_of_ble_eq_true rfl) ⟨Nat.le_of_ble_eq_true rfl, Nat.le_of_ble_eq_true rfl⟩ ?_
    refine z_sub [0] rfl ?_
    exact t_Mo_oneMore_15 X H h
theorem dd_Mo_newSlot_0 : decode bb_Mo_newSlot 0 = .ok (.aload_n 0, 1) := by decide +kernel
theorem dd_Mo_newSlot_1 : decode bb_Mo_newSlot 1 = .ok (.getfield 65, 3) := by decide +kernel
theorem dd_Mo_newSlot_4 : decode bb_Mo_newSlot 4 = .ok (.aload_n 0, 1) := by decide +kernel
theorem dd_Mo_newSlot_5 : decode bb_Mo_newSlot 5 = .ok (.getfield 331, 3) := by decide +kernel
theorem dd_Mo_newSlot_8 : decode bb_Mo_newSlot 8 = .ok (.iaload, 1) := by decide +kernel
theorem dd_Mo_newSlot_9 : decode bb_Mo_newSlot 9 = .ok (.istore_n 1, 1) := by decide +kernel
theorem dd_Mo_newSlot_10 : decode bb_Mo_newSlot 10 = .ok (.aload_n 0, 1) := by decide +kernel
theorem dd_Mo_newSlot_11 : decode bb_Mo_newSlot 11 = .ok (.getfield 74, 3) := by decide +kernel
theorem dd_Mo_newSlot_14 : decode bb_Mo_newSlot 14 = .ok (.bipush 8, 2) := by decide +kernel
theorem dd_Mo_newSlot_16 : decode bb_Mo_newSlot 16 = .ok (.aload_n 0, 1) := by decide +kernel
theorem dd_Mo_newSlot_17 : decode bb_Mo_newSlot 17 = .ok (.getfield 331, 3) := by decide +kernel
theorem dd_Mo_newSlot_20 : decode bb_Mo_newSlot 20 = .ok (.imul, 1) := by decide +kernel
theorem dd_Mo_newSlot_21 : decode bb_Mo_newSlot 21 = .ok (.iload_n 1, 1) := by decide +kernel
theorem dd_Mo_newSlot_22 : decode bb_Mo_newSlot 22 = .ok (.iadd, 1) := by decide +kernel
theorem dd_Mo_newSlot_23 : decode bb_Mo_newSlot 23 = .ok (.aload_n 0, 1) := by decide +kernel
theorem dd_Mo_newSlot_24 : decode bb_Mo_newSlot 24 = .ok (.getfield 325, 3) := by decide +kernel
theorem dd_Mo_newSlot_27 : decode bb_Mo_newSlot 27 = .ok (.iastore, 1) := by decide +kernel
theorem dd_Mo_newSlot_28 : decode bb_Mo_newSlot 28 = .ok (.aload_n 0, 1) := by decide +kernel
theorem dd_Mo_newSlot_29 : decode bb_Mo_newSlot 29 = .ok (.getfield 65, 3) := by decide +kernel
theorem dd_Mo_newSlot_32 : decode bb_Mo_newSlot 32 = .ok (.aload_n 0, 1) := by decide +kernel
theorem dd_Mo_newSlot_33 : decode bb_Mo_newSlot 33 = .ok (.getfield 331, 3) := by decide +kernel
theorem dd_Mo_newSlot_36 : decode bb_Mo_newSlot 36 = .ok (.dup2, 1) := by decide +kernel
theorem dd_Mo_newSlot_37 : decode bb_Mo_newSlot 37 = .ok (.iaload, 1) := by decide +kernel
theorem dd_Mo_newSlot_38 : decode bb_Mo_newSlot 38 = .ok (.iconst 1, 1) := by decide +kernel
theorem dd_Mo_newSlot_39 : decode bb_Mo_newSlot 39 = .ok (.iadd, 1) := by decide +kernel
theorem dd_Mo_newSlot_40 : decode bb_Mo_newSlot 40 = .ok (.iastore, 1) := by decide +kernel
theorem dd_Mo_newSlot_41 : decode bb_Mo_newSlot 41 = .ok (.iload_n 1, 1) := by decide +kernel
theorem dd_Mo_newSlot_42 : decode bb_Mo_newSlot 42 = .ok (.ireturn, 1) := by decide +kernel
set_option maxRecDepth 100000 in
set_option maxHeartbeats 4000000 in
theorem c_Mo_newSlot (l : Launch) {nf : Nat} {a0 : Nat} {c : Zc} {res : Int32 × Zc} (h : f_Mo_newSlot nf a0 c = some res) : zM l yy_Mo_newSlot ww_Mo_newSlot 0 0 0 0 [.ref a0] c (fun D cid B => zQi D cid B res.1 res.2 c.length 0) := by
  refine z_met (cc := bb_Mo_newSlot) (maxL := 2) (ret := (some (.int))) (by decide +kernel) rfl (Nat.le_of_ble_eq_true rfl) ?_
  intro p e s m args below meth cd D cid B X h1 h2 h3 h4
  have X : zX p s m args cd D cid B bb_Mo_newSlot 2 rr_Mo zT := X
  have H : zH s meth B c.length (some (.int)) "newSlot" := ⟨h1, h2, h4, h3⟩
  unfold f_Mo_newSlot at h
  show Zz p l e (zRm 0 0 0 0) s m args below meth cd _ D cid B 2 0 0 c 0 [(0, .ref a0)] []
  refine z_aload_n X dd_Mo_newSlot_0 rfl 0 rfl ?_
  obtain ⟨v1, ev1, h⟩ := zb h
  refine z_get (j := 26) X dd_Mo_newSlot_1 kc_12 ki_12 (by decide) km_1547 (zgr_v ev1) ?_
  refine z_aload_n X dd_Mo_newSlot_4 rfl 0 rfl ?_
  obtain ⟨v2, ev2, h⟩ := zb h
  refine z_get (j := 25) X dd_Mo_newSlot_5 kc_12 ki_12 (by decide) km_1546 (zgi_v ev2) ?_
  obtain ⟨v3, ev3, h⟩ := zb h
  refine z_iaload X dd_Mo_newSlot_8 rfl ev3 ?_
  refine z_istore_n (lv' := [(1, .int v3), (0, .ref a0)]) X dd_Mo_newSlot_9 rfl (by decide) rfl ?_
  refine z_aload_n X dd_Mo_newSlot_10 rfl 1 rfl ?_
  obtain ⟨v4, ev4, h⟩ := zb h
  refine z_get (j := 29) X dd_Mo_newSlot_11 kc_12 ki_12 (by decide) km_1550 (zgr_v ev4) ?_
  refine z_bipush (v := 8) X dd_Mo_newSlot_14 (by decide) ?_
  refine z_aload_n X dd_Mo_newSlot_16 rfl 1 rfl ?_
  obtain ⟨v5, ev5, h⟩ := zb h
  refine z_get (j := 25) X dd_Mo_newSlot_17 kc_12 ki_12 (by decide) km_1546 (zgi_v ev5) ?_
  refine z_imul X dd_Mo_newSlot_20 ?_
  refine z_iload_n X dd_Mo_newSlot_21 rfl 0 rfl ?_
  refine z_iadd X dd_Mo_newSlot_22 ?_
  refine z_aload_n X dd_Mo_newSlot_23 rfl 1 rfl ?_
  obtain ⟨v6, ev6, h⟩ := zb h
  refine z_get (j := 56) X dd_Mo_newSlot_24 kc_12 ki_12 (by decide) km_1577 (zgi_v ev6) ?_
  obtain ⟨c7, ec7, h⟩ := zb h
  refine z_iastore X dd_Mo_newSlot_27 rfl ec7 ?_
  refine z_aload_n X dd_Mo_newSlot_28 rfl 1 rfl ?_
  obtain ⟨v8, ev8, h⟩ := zb h
  refine z_get (j := 26) X dd_Mo_newSlot_29 kc_12 ki_12 (by decide) km_1547 (zgr_v ev8) ?_
  refine z_aload_n X dd_Mo_newSlot_32 rfl 1 rfl ?_
  obtain ⟨v9, ev9, h⟩ := zb h
  refine z_get (j := 25) X dd_Mo_newSlot_33 kc_12 ki_12 (by decide) km_1546 (zgi_v ev9) ?_
  refine z_dup2_11 X dd_Mo_newSlot_36 rfl rfl ?_
  obtain ⟨v10, ev10, h⟩ := zb h
  refine z_iaload X dd_Mo_newSlot_37 rfl ev10 ?_
  refine z_iconst (v := 1) X dd_Mo_newSlot_38 (by decide) ?_
  refine z_iadd X dd_Mo_newSlot_39 ?_
  obtain ⟨c11, ec11, h⟩ := zb h
  refine z_iastore X dd_Mo_newSlot_40 rfl ec11 ?_
  refine z_iload_n X dd_Mo_newSlot_41 rfl 0 rfl ?_
  obtain rfl := Option.some.inj h
  exact z_iret X H.1 H.2.1 H.2.2.1 dd_Mo_newSlot_42
theorem dd_Mo_nodeOf_0 : decode bb_Mo_nodeOf 0 = .ok (.aload_n 0, 1) := by decide +kernel
theorem dd_Mo_nodeOf_1 : decode bb_Mo_nodeOf 1 = .ok (.getfield 49, 3) := by decide +kernel
theorem dd_Mo_nodeOf_4 : decode bb_Mo_nodeOf 4 = .ok (.aload_n 0, 1) := by decide +kernel
theorem dd_Mo_nodeOf_5 : decode bb_Mo_nodeOf 5 = .ok (.getfield 300, 3) := by decide +kernel
theorem dd_Mo_nodeOf_8 : decode bb_Mo_nodeOf 8 = .ok (.iaload, 1) := by decide +kernel
theorem dd_Mo_nodeOf_9 : decode bb_Mo_nodeOf 9 = .ok (.istore_n 1, 1) := by decide +kernel
theorem dd_Mo_nodeOf_10 : decode bb_Mo_nodeOf 10 = .ok (.aload_n 0, 1) := by decide +kernel
theorem dd_Mo_nodeOf_11 : decode bb_Mo_nodeOf 11 = .ok (.bipush 40, 2) := by decide +kernel
theorem dd_Mo_nodeOf_13 : decode bb_Mo_nodeOf 13 = .ok (.invokevirtual 334, 3) := by decide +kernel
theorem dd_Mo_nodeOf_16 : decode bb_Mo_nodeOf 16 = .ok (.iconst (-1), 1) := by decide +kernel
theorem dd_Mo_nodeOf_17 : decode bb_Mo_nodeOf 17 = .ok (.istore_n 2, 1) := by decide +kernel
theorem dd_Mo_nodeOf_18 : decode bb_Mo_nodeOf 18 = .ok (.aload_n 0, 1) := by decide +kernel
theorem dd_Mo_nodeOf_19 : decode bb_Mo_nodeOf 19 = .ok (.getfield 294, 3) := by decide +kernel
theorem dd_Mo_nodeOf_22 : decode bb_Mo_nodeOf 22 = .ok (.ifCond .ne 96, 3) := by decide +kernel
theorem dd_Mo_nodeOf_25 : decode bb_Mo_nodeOf 25 = .ok (.aload_n 0, 1) := by decide +kernel
theorem dd_Mo_nodeOf_26 : decode bb_Mo_nodeOf 26 = .ok (.invokevirtual 306, 3) := by decide +kernel
theorem dd_Mo_nodeOf_29 : decode bb_Mo_nodeOf 29 = .ok (.iconst 2, 1) := by decide +kernel
theorem dd_Mo_nodeOf_30 : decode bb_Mo_nodeOf 30 = .ok (.if_icmp .ne 88, 3) := by decide +kernel
theorem dd_Mo_nodeOf_33 : decode bb_Mo_nodeOf 33 = .ok (.aload_n 0, 1) := by decide +kernel
theorem dd_Mo_nodeOf_34 : decode bb_Mo_nodeOf 34 = .ok (.getfield 46, 3) := by decide +kernel
theorem dd_Mo_nodeOf_37 : decode bb_Mo_nodeOf 37 = .ok (.aload_n 0, 1) := by decide +kernel
theorem dd_Mo_nodeOf_38 : decode bb_Mo_nodeOf 38 = .ok (.getfield 300, 3) := by decide +kernel
theorem dd_Mo_nodeOf_41 : decode bb_Mo_nodeOf 41 = .ok (.iaload, 1) := by decide +kernel
theorem dd_Mo_nodeOf_42 : decode bb_Mo_nodeOf 42 = .ok (.istore_n 3, 1) := by decide +kernel
theorem dd_Mo_nodeOf_43 : decode bb_Mo_nodeOf 43 = .ok (.aload_n 0, 1) := by decide +kernel
theorem dd_Mo_nodeOf_44 : decode bb_Mo_nodeOf 44 = .ok (.invokevirtual 310, 3) := by decide +kernel
theorem dd_Mo_nodeOf_47 : decode bb_Mo_nodeOf 47 = .ok (.aload_n 0, 1) := by decide +kernel
theorem dd_Mo_nodeOf_48 : decode bb_Mo_nodeOf 48 = .ok (.iload_n 3, 1) := by decide +kernel
theorem dd_Mo_nodeOf_49 : decode bb_Mo_nodeOf 49 = .ok (.invokevirtual 338, 3) := by decide +kernel
theorem dd_Mo_nodeOf_52 : decode bb_Mo_nodeOf 52 = .ok (.istore_n 2, 1) := by decide +kernel
theorem dd_Mo_nodeOf_53 : decode bb_Mo_nodeOf 53 = .ok (.iload_n 2, 1) := by decide +kernel
theorem dd_Mo_nodeOf_54 : decode bb_Mo_nodeOf 54 = .ok (.bipush 100, 2) := by decide +kernel
theorem dd_Mo_nodeOf_56 : decode bb_Mo_nodeOf 56 = .ok (.if_icmp .lt 17, 3) := by decide +kernel
theorem dd_Mo_nodeOf_59 : decode bb_Mo_nodeOf 59 = .ok (.aload_n 0, 1) := by decide +kernel
theorem dd_Mo_nodeOf_60 : decode bb_Mo_nodeOf 60 = .ok (.iconst 4, 1) := by decide +kernel
theorem dd_Mo_nodeOf_61 : decode bb_Mo_nodeOf 61 = .ok (.aload_n 0, 1) := by decide +kernel
theorem dd_Mo_nodeOf_62 : decode bb_Mo_nodeOf 62 = .ok (.getfield 49, 3) := by decide +kernel
theorem dd_Mo_nodeOf_65 : decode bb_Mo_nodeOf 65 = .ok (.aload_n 0, 1) := by decide +kernel
theorem dd_Mo_nodeOf_66 : decode bb_Mo_nodeOf 66 = .ok (.getfield 300, 3) := by decide +kernel
theorem dd_Mo_nodeOf_69 : decode bb_Mo_nodeOf 69 = .ok (.iaload, 1) := by decide +kernel
theorem dd_Mo_nodeOf_70 : decode bb_Mo_nodeOf 70 = .ok (.invokevirtual 303, 3) := by decide +kernel
theorem dd_Mo_nodeOf_73 : decode bb_Mo_nodeOf 73 = .ok (.iload_n 2, 1) := by decide +kernel
theorem dd_Mo_nodeOf_74 : decode bb_Mo_nodeOf 74 = .ok (.ifCond .ge 37, 3) := by decide +kernel
theorem dd_Mo_nodeOf_77 : decode bb_Mo_nodeOf 77 = .ok (.aload_n 0, 1) := by decide +kernel
theorem dd_Mo_nodeOf_78 : decode bb_Mo_nodeOf 78 = .ok (.getfield 294, 3) := by decide +kernel
theorem dd_Mo_nodeOf_81 : decode bb_Mo_nodeOf 81 = .ok (.ifCond .ne 30, 3) := by decide +kernel
theorem dd_Mo_nodeOf_84 : decode bb_Mo_nodeOf 84 = .ok (.aload_n 0, 1) := by decide +kernel
theorem dd_Mo_nodeOf_85 : decode bb_Mo_nodeOf 85 = .ok (.aload_n 0, 1) := by decide +kernel
theorem dd_Mo_nodeOf_86 : decode bb_Mo_nodeOf 86 = .ok (.getfield 49, 3) := by decide +kernel
theorem dd_Mo_nodeOf_89 : decode bb_Mo_nodeOf 89 = .ok (.aload_n 0, 1) := by decide +kernel
theorem dd_Mo_nodeOf_90 : decode bb_Mo_nodeOf 90 = .ok (.getfield 300, 3) := by decide +kernel
theorem dd_Mo_nodeOf_93 : decode bb_Mo_nodeOf 93 = .ok (.iaload, 1) := by decide +kernel
theorem dd_Mo_nodeOf_94 : decode bb_Mo_nodeOf 94 = .ok (.invokevirtual 342, 3) := by decide +kernel
theorem dd_Mo_nodeOf_97 : decode bb_Mo_nodeOf 97 = .ok (.ifCond .eq 14, 3) := by decide +kernel
theorem dd_Mo_nodeOf_100 : decode bb_Mo_nodeOf 100 = .ok (.aload_n 0, 1) := by decide +kernel
theorem dd_Mo_nodeOf_101 : decode bb_Mo_nodeOf 101 = .ok (.invokevirtual 345, 3) := by decide +kernel
theorem dd_Mo_nodeOf_104 : decode bb_Mo_nodeOf 104 = .ok (.istore_n 2, 1) := by decide +kernel
theorem dd_Mo_nodeOf_105 : decode bb_Mo_nodeOf 105 = .ok (.aload_n 0, 1) := by decide +kernel
theorem dd_Mo_nodeOf_106 : decode bb_Mo_nodeOf 106 = .ok (.iload_n 3, 1) := by decide +kernel
theorem dd_Mo_nodeOf_107 : decode bb_Mo_nodeOf 107 = .ok (.iload_n 2, 1) := by decide +kernel
theorem dd_Mo_nodeOf_108 : decode bb_Mo_nodeOf 108 = .ok (.invokevirtual 348, 3) := by decide +kernel
theorem dd_Mo_nodeOf_111 : decode bb_Mo_nodeOf 111 = .ok (.aload_n 0, 1) := by decide +kernel
theorem dd_Mo_nodeOf_112 : decode bb_Mo_nodeOf 112 = .ok (.invokevirtual 313, 3) := by decide +kernel
theorem dd_Mo_nodeOf_115 : decode bb_Mo_nodeOf 115 = .ok (.goto 57, 3) := by decide +kernel
theorem dd_Mo_nodeOf_118 : decode bb_Mo_nodeOf 118 = .ok (.aload_n 0, 1) := by decide +kernel
theorem dd_Mo_nodeOf_119 : decode bb_Mo_nodeOf 119 = .ok (.getfield 294, 3) := by decide +kernel
theorem dd_Mo_nodeOf_122 : decode bb_Mo_nodeOf 122 = .ok (.ifCond .ne 50, 3) := by decide +kernel
theorem dd_Mo_nodeOf_125 : decode bb_Mo_nodeOf 125 = .ok (.aload_n 0, 1) := by decide +kernel
theorem dd_Mo_nodeOf_126 : decode bb_Mo_nodeOf 126 = .ok (.invokevirtual 306, 3) := by decide +kernel
theorem dd_Mo_nodeOf_129 : decode bb_Mo_nodeOf 129 = .ok (.bipush 58, 2) := by decide +kernel
theorem dd_Mo_nodeOf_131 : decode bb_Mo_nodeOf 131 = .ok (.if_icmp .eq 21, 3) := by decide +kernel
theorem dd_Mo_nodeOf_134 : decode bb_Mo_nodeOf 134 = .ok (.aload_n 0, 1) := by decide +kernel
theorem dd_Mo_nodeOf_135 : decode bb_Mo_nodeOf 135 = .ok (.getfield 43, 3) := by decide +kernel
theorem dd_Mo_nodeOf_138 : decode bb_Mo_nodeOf 138 = .ok (.aload_n 0, 1) := by decide +kernel
theorem dd_Mo_nodeOf_139 : decode bb_Mo_nodeOf 139 = .ok (.getfield 300, 3) := by decide +kernel
theorem dd_Mo_nodeOf_142 : decode bb_Mo_nodeOf 142 = .ok (.iaload, 1) := by decide +kernel
theorem dd_Mo_nodeOf_143 : decode bb_Mo_nodeOf 143 = .ok (.bipush 41, 2) := by decide +kernel
theorem dd_Mo_nodeOf_145 : decode bb_Mo_nodeOf 145 = .ok (.if_icmp .eq 7, 3) := by decide +kernel
theorem dd_Mo_nodeOf_148 : decode bb_Mo_nodeOf 148 = .ok (.aload_n 0, 1) := by decide +kernel
theorem dd_Mo_nodeOf_149 : decode bb_Mo_nodeOf 149 = .ok (.invokevirtual 319, 3) := by decide +kernel
theorem dd_Mo_nodeOf_152 : decode bb_Mo_nodeOf 152 = .ok (.aload_n 0, 1) := by decide +kernel
theorem dd_Mo_nodeOf_153 : decode bb_Mo_nodeOf 153 = .ok (.getfield 294, 3) := by decide +kernel
theorem dd_Mo_nodeOf_156 : decode bb_Mo_nodeOf 156 = .ok (.ifCond .ne 16, 3) := by decide +kernel
theorem dd_Mo_nodeOf_159 : decode bb_Mo_nodeOf 159 = .ok (.aload_n 0, 1) := by decide +kernel
theorem dd_Mo_nodeOf_160 : decode bb_Mo_nodeOf 160 = .ok (.iload_n 1, 1) := by decide +kernel
theorem dd_Mo_nodeOf_161 : decode bb_Mo_nodeOf 161 = .ok (.invokevirtual 342, 3) := by decide +kernel
theorem dd_Mo_nodeOf_164 : decode bb_Mo_nodeOf 164 = .ok (.ifCond .eq 8, 3) := by decide +kernel
theorem dd_Mo_nodeOf_167 : decode bb_Mo_nodeOf 167 = .ok (.aload_n 0, 1) := by decide +kernel
theorem dd_Mo_nodeOf_168 : decode bb_Mo_nodeOf 168 = .ok (.invokevirtual 345, 3) := by decide +kernel
theorem dd_Mo_nodeOf_171 : decode bb_Mo_nodeOf 171 = .ok (.istore_n 2, 1) := by decide +kernel
theorem dd_Mo_nodeOf_172 : decode bb_Mo_nodeOf 172 = .ok (.aload_n 0, 1) := by decide +kernel
theorem dd_Mo_nodeOf_173 : decode bb_Mo_nodeOf 173 = .ok (.getfield 294, 3) := by decide +kernel
theorem dd_Mo_nodeOf_176 : decode bb_Mo_nodeOf 176 = .ok (.ifCond .ne 79, 3) := by decide +kernel
theorem dd_Mo_nodeOf_179 : decode bb_Mo_nodeOf 179 = .ok (.aload_n 0, 1) := by decide +kernel
theorem dd_Mo_nodeOf_180 : decode bb_Mo_nodeOf 180 = .ok (.bipush 58, 2) := by decide +kernel
theorem dd_Mo_nodeOf_182 : decode bb_Mo_nodeOf 182 = .ok (.invokevirtual 316, 3) := by decide +kernel
theorem dd_Mo_nodeOf_185 : decode bb_Mo_nodeOf 185 = .ok (.ifCond .eq 70, 3) := by decide +kernel
theorem dd_Mo_nodeOf_188 : decode bb_Mo_nodeOf 188 = .ok (.aload_n 0, 1) := by decide +kernel
theorem dd_Mo_nodeOf_189 : decode bb_Mo_nodeOf 189 = .ok (.invokevirtual 306, 3) := by decide +kernel
theorem dd_Mo_nodeOf_192 : decode bb_Mo_nodeOf 192 = .ok (.iconst 3, 1) := by decide +kernel
theorem dd_Mo_nodeOf_193 : decode bb_Mo_nodeOf 193 = .ok (.if_icmp .eq 10, 3) := by decide +kernel
theorem dd_Mo_nodeOf_196 : decode bb_Mo_nodeOf 196 = .ok (.aload_n 0, 1) := by decide +kernel
theorem dd_Mo_nodeOf_197 : decode bb_Mo_nodeOf 197 = .ok (.invokevirtual 319, 3) := by decide +kernel
theorem dd_Mo_nodeOf_200 : decode bb_Mo_nodeOf 200 = .ok (.goto (-28), 3) := by decide +kernel
theorem dd_Mo_nodeOf_203 : decode bb_Mo_nodeOf 203 = .ok (.aload_n 0, 1) := by decide +kernel
theorem dd_Mo_nodeOf_204 : decode bb_Mo_nodeOf 204 = .ok (.getfield 46, 3) := by decide +kernel
theorem dd_Mo_nodeOf_207 : decode bb_Mo_nodeOf 207 = .ok (.aload_n 0, 1) := by decide +kernel
theorem dd_Mo_nodeOf_208 : decode bb_Mo_nodeOf 208 = .ok (.getfield 300, 3) := by decide +kernel
theorem dd_Mo_nodeOf_211 : decode bb_Mo_nodeOf 211 = .ok (.iaload, 1) := by decide +kernel
theorem dd_Mo_nodeOf_212 : decode bb_Mo_nodeOf 212 = .ok (.istore_n 3, 1) := by decide +kernel
theorem dd_Mo_nodeOf_213 : decode bb_Mo_nodeOf 213 = .ok (.aload_n 0, 1) := by decide +kernel
theorem dd_Mo_nodeOf_214 : decode bb_Mo_nodeOf 214 = .ok (.invokevirtual 313, 3) := by decide +kernel
theorem dd_Mo_nodeOf_217 : decode bb_Mo_nodeOf 217 = .ok (.aload_n 0, 1) := by decide +kernel
theorem dd_Mo_nodeOf_218 : decode bb_Mo_nodeOf 218 = .ok (.getfield 294, 3) := by decide +kernel
theorem dd_Mo_nodeOf_221 : decode bb_Mo_nodeOf 221 = .ok (.ifCond .ne 31, 3) := by decide +kernel
theorem dd_Mo_nodeOf_224 : decode bb_Mo_nodeOf 224 = .ok (.aload_n 0, 1) := by decide +kernel
theorem dd_Mo_nodeOf_225 : decode bb_Mo_nodeOf 225 = .ok (.getfield 77, 3) := by decide +kernel
theorem dd_Mo_nodeOf_228 : decode bb_Mo_nodeOf 228 = .ok (.bipush 80, 2) := by decide +kernel
theorem dd_Mo_nodeOf_230 : decode bb_Mo_nodeOf 230 = .ok (.aload_n 0, 1) := by decide +kernel
theorem dd_Mo_nodeOf_231 : decode bb_Mo_nodeOf 231 = .ok (.getfield 331, 3) := by decide +kernel
theorem dd_Mo_nodeOf_234 : decode bb_Mo_nodeOf 234 = .ok (.imul, 1) := by decide +kernel
theorem dd_Mo_nodeOf_235 : decode bb_Mo_nodeOf 235 = .ok (.aload_n 0, 1) := by decide +kernel
theorem dd_Mo_nodeOf_236 : decode bb_Mo_nodeOf 236 = .ok (.getfield 325, 3) := by decide +kernel
theorem dd_Mo_nodeOf_239 : decode bb_Mo_nodeOf 239 = .ok (.iadd, 1) := by decide +kernel
theorem dd_Mo_nodeOf_240 : decode bb_Mo_nodeOf 240 = .ok (.bipush 8, 2) := by decide +kernel
theorem dd_Mo_nodeOf_242 : decode bb_Mo_nodeOf 242 = .ok (.imul, 1) := by decide +kernel
theorem dd_Mo_nodeOf_243 : decode bb_Mo_nodeOf 243 = .ok (.iload_n 2, 1) := by decide +kernel
theorem dd_Mo_nodeOf_244 : decode bb_Mo_nodeOf 244 = .ok (.iadd, 1) := by decide +kernel
theorem dd_Mo_nodeOf_245 : decode bb_Mo_nodeOf 245 = .ok (.dup2, 1) := by decide +kernel
theorem dd_Mo_nodeOf_246 : decode bb_Mo_nodeOf 246 = .ok (.iaload, 1) := by decide +kernel
theorem dd_Mo_nodeOf_247 : decode bb_Mo_nodeOf 247 = .ok (.iconst 1, 1) := by decide +kernel
theorem dd_Mo_nodeOf_248 : decode bb_Mo_nodeOf 248 = .ok (.iload_n 3, 1) := by decide +kernel
theorem dd_Mo_nodeOf_249 : decode bb_Mo_nodeOf 249 = .ok (.ishl, 1) := by decide +kernel
theorem dd_Mo_nodeOf_250 : decode bb_Mo_nodeOf 250 = .ok (.ior, 1) := by decide +kernel
theorem dd_Mo_nodeOf_251 : decode bb_Mo_nodeOf 251 = .ok (.iastore, 1) := by decide +kernel
theorem dd_Mo_nodeOf_252 : decode bb_Mo_nodeOf 252 = .ok (.goto (-80), 3) := by decide +kernel
theorem dd_Mo_nodeOf_255 : decode bb_Mo_nodeOf 255 = .ok (.aload_n 0, 1) := by decide +kernel
theorem dd_Mo_nodeOf_256 : decode bb_Mo_nodeOf 256 = .ok (.bipush 41, 2) := by decide +kernel
theorem dd_Mo_nodeOf_258 : decode bb_Mo_nodeOf 258 = .ok (.invokevirtual 334, 3) := by decide +kernel
theorem dd_Mo_nodeOf_261 : decode bb_Mo_nodeOf 261 = .ok (.iload_n 2, 1) := by decide +kernel
theorem dd_Mo_nodeOf_262 : decode bb_Mo_nodeOf 262 = .ok (.ireturn, 1) := by decide +kernel
set_option maxRecDepth 100000 in
set_option maxHeartbeats 4000000 in
theorem t_Mo_nodeOf_252  (X : zX p s m args cd D cid B bb_Mo_nodeOf 4 rr_Mo zT) (H : zH s meth B n0 (some (.int)) "nodeOf") {nf : Nat} {x0 : Nat} {x2 : Int32} {c : Zc} {r : (Nat × Int32 × Zc) ⊕ (Nat × Int32 × Zc)} (h : f_Mo_nodeOf_252 nf x0 x2 c = some r) (k0 : ∀ a, r = .inl a → (fun a : Nat × Int32 × Zc => Zz p l e (zRm 5 104 0 0) s m args below meth cd Q D cid B 4 0 0 a.2.2 172 [(0, .ref a.1), (2, .int a.2.1)] []) a) (k1 : ∀ b, r = .inr b → (fun b : Nat × Int32 × Zc => Zz p l e (zRm 5 104 0 0) s m args below meth cd Q D cid B 4 0 0 b.2.2 255 [(0, .ref b.1), (2, .int b.2.1)] []) b) : Zz p l e (zRm 5 104 0 0) s m args below meth cd Q D cid B 4 0 0 c 252 [(0, .ref x0), (2, .int x2)] [] := by
  unfold f_Mo_nodeOf_252 at h
  refine z_goto (tgt := 172) X dd_Mo_nodeOf_252 (by decide) ?_
  obtain rfl := Option.some.inj h
  exact k0 _ rfl
set_option maxRecDepth 100000 in
set_option maxHeartbeats 4000000 in
theorem u_Mo_nodeOf_172  (X : zX p s m args cd D cid B bb_Mo_nodeOf 4 rr_Mo zT) (H : zH s meth B n0 (some (.int)) "nodeOf") {nf : Nat} {x0 : Nat} {x2 : Int32} {c : Zc} {r : (Nat × Int32 × Zc) ⊕ (Nat × Int32 × Zc)} (h : g_Mo_nodeOf_172 nf x0 x2 c = some r) (k0 : ∀ a, r = .inl a → (fun a : Nat × Int32 × Zc => Zz p l e (zRm 5 104 0 0) s m args below meth cd Q D cid B 4 0 0 a.2.2 172 [(0, .ref a.1), (2, .int a.2.1)] []) a) (k1 : ∀ b, r = .inr b → (fun b : Nat × Int32 × Zc => Zz p l e (zRm 5 104 0 0) s m args below meth cd Q D cid B 4 0 0 b.2.2 255 [(0, .ref b.1), (2, .int b.2.1)] []) b) : Zz p l e (zRm 5 104 0 0) s m args below meth cd Q D cid B 4 0 0 c 172 [(0, .ref x0), (2, .int x2)] [] := by
  unfold g_Mo_nodeOf_172 at h
  refine z_aload_n X dd_Mo_nodeOf_172 rfl 0 rfl ?_
  obtain ⟨v10, ev10, h⟩ := zb h
  refine z_get (j := 19) X dd_Mo_nodeOf_173 kc_12 ki_12 (by decide) km_1540 (zgi_v ev10) ?_
  refine z_if_ne (tgt := 255) X dd_Mo_nodeOf_176 (by decide) (fun q11 => ?_) (fun q11 => ?_)
  · rw [if_neg q11] at h
    obtain rfl := Option.some.inj h
    exact k1 _ rfl
  · rw [if_pos q11] at h
    refine z_aload_n X dd_Mo_nodeOf_179 rfl 0 rfl ?_
    refine z_bipush (v := 58) X dd_Mo_nodeOf_180 (by decide) ?_
    obtain ⟨w13, ew13, h⟩ := zb h
    obtain ⟨q12, eq12, h⟩ := zb h
    refine z_callVi X [.int 58] rfl dd_Mo_nodeOf_182 (c_Mo_takes l eq12) (cwV 1 X.1.2.2.2.2 (zg_V km_1908 km_1910 km_69 km_138 km_1911) rfl rfl rfl (by decide +kernel) ⟨Nat.le_of_ble_eq_true rfl, Nat.le_of_ble_eq_true rfl⟩) (zob_s ew13) kc_12 rfl (Nat.le_of_ble_eq_true rfl) ⟨Nat.le_of_ble_eq_true rfl, Nat.le_of_ble_eq_true rfl⟩ ?_
    refine z_if_eq (tgt := 255) X dd_Mo_nodeOf_185 (by decide) (fun q14 => ?_) (fun q14 => ?_)
    · rw [if_pos q14] at h
      obtain rfl := Option.some.inj h
      exact k1 _ rfl
    · rw [if_neg q14] at h
      refine z_aload_n X dd_Mo_nodeOf_188 rfl 0 rfl ?_
      obtain ⟨w16, ew16, h⟩ := zb h
      obtain ⟨q15, eq15, h⟩ := zb h
      refine z_callVi X [] rfl dd_Mo_nodeOf_189 (c_Mo_kind l eq15) (cwV 0 X.1.2.2.2.2 (zg_V km_1912 km_1914 km_70 km_138 km_1915) rfl rfl rfl (by decide +kernel) ⟨Nat.le_of_ble_eq_true rfl, Nat.le_of_ble_eq_true rfl⟩) (zob_s ew16) kc_12 rfl (Nat.le_of_ble_eq_true rfl) ⟨Nat.le_of_ble_eq_true rfl, Nat.le_of_ble_eq_true rfl⟩ ?_
      refine z_iconst (v := 3) X dd_Mo_nodeOf_192 (by decide) ?_
      refine z_icmp_eq (tgt := 203) X dd_Mo_nodeOf_193 (by decide) (fun q17 => ?_) (fun q17 => ?_)
      · rw [if_pos q17] at h
        refine z_aload_n X dd_Mo_nodeOf_203 rfl 0 rfl ?_
        obtain ⟨v18, ev18, h⟩ := zb h
        refine z_get (j := 15) X dd_Mo_nodeOf_204 kc_12 ki_12 (by decide) km_1536 (zgr_v ev18) ?_
        refine z_aload_n X dd_Mo_nodeOf_207 rfl 0 rfl ?_
        obtain ⟨v19, ev19, h⟩ := zb h
        refine z_get (j := 18) X dd_Mo_nodeOf_208 kc_12 ki_12 (by decide) km_1539 (zgi_v ev19) ?_
        obtain ⟨v20, ev20, h⟩ := zb h
        refine z_iaload X dd_Mo_nodeOf_211 rfl ev20 ?_
        refine z_istore_n (lv' := [(3, .int v20), (0, .ref x0), (2, .int x2)]) X dd_Mo_nodeOf_212 rfl (by decide) rfl ?_
        refine z_aload_n X dd_Mo_nodeOf_213 rfl 1 rfl ?_
        obtain ⟨w22, ew22, h⟩ := zb h
        obtain ⟨q21, eq21, h⟩ := zb h
        refine z_callVv X [] rfl dd_Mo_nodeOf_214 (c_Mo_pass l eq21) (cwV 0 X.1.2.2.2.2 (zg_V km_1920 km_1922 km_72 km_138 km_1923) rfl rfl rfl (by decide +kernel) ⟨Nat.le_of_ble_eq_true rfl, Nat.le_of_ble_eq_true rfl⟩) (zob_s ew22) kc_12 rfl (Nat.le_of_ble_eq_true rfl) ⟨Nat.le_of_ble_eq_true rfl, Nat.le_of_ble_eq_true rfl⟩ ?_
        refine z_aload_n X dd_Mo_nodeOf_217 rfl 1 rfl ?_
        obtain ⟨v23, ev23, h⟩ := zb h
        refine z_get (j := 19) X dd_Mo_nodeOf_218 kc_12 ki_12 (by decide) km_1540 (zgi_v ev23) ?_
        refine z_if_ne (tgt := 252) X dd_Mo_nodeOf_221 (by decide) (fun q24 => ?_) (fun q24 => ?_)
        · rw [if_neg q24] at h
          refine z_sub [1, 2] rfl ?_
          exact t_Mo_nodeOf_252 X H h k0 k1
        · rw [if_pos q24] at h
          refine z_aload_n X dd_Mo_nodeOf_224 rfl 1 rfl ?_
          obtain ⟨v25, ev25, h⟩ := zb h
          refine z_get (j := 30) X dd_Mo_nodeOf_225 kc_12 ki_12 (by decide) km_1551 (zgr_v ev25) ?_
          refine z_bipush (v := 80) X dd_Mo_nodeOf_228 (by decide) ?_
          refine z_aload_n X dd_Mo_nodeOf_230 rfl 1 rfl ?_
          obtain ⟨v26, ev26, h⟩ := zb h
          refine z_get (j := 25) X dd_Mo_nodeOf_231 kc_12 ki_12 (by decide) km_1546 (zgi_v ev26) ?_
          refine z_imul X dd_Mo_nodeOf_234 ?_
          refine z_aload_n X dd_Mo_nodeOf_235 rfl 1 rfl ?_
          obtain ⟨v27, ev27, h⟩ := zb h
          refine z_get (j := 56) X dd_Mo_nodeOf_236 kc_12 ki_12 (by decide) km_1577 (zgi_v ev27) ?_
          refine z_iadd X dd_Mo_nodeOf_239 ?_
          refine z_bipush (v := 8) X dd_Mo_nodeOf_240 (by decide) ?_
          refine z_imul X dd_Mo_nodeOf_242 ?_
          refine z_iload_n X dd_Mo_nodeOf_243 rfl 2 rfl ?_
          refine z_iadd X dd_Mo_nodeOf_244 ?_
          refine z_dup2_11 X dd_Mo_nodeOf_245 rfl rfl ?_
          obtain ⟨v28, ev28, h⟩ := zb h
          refine z_iaload X dd_Mo_nodeOf_246 rfl ev28 ?_
          refine z_iconst (v := 1) X dd_Mo_nodeOf_247 (by decide) ?_
          refine z_iload_n X dd_Mo_nodeOf_248 rfl 0 rfl ?_
          refine z_ishl X dd_Mo_nodeOf_249 ?_
          refine z_ior X dd_Mo_nodeOf_250 ?_
          obtain ⟨c29, ec29, h⟩ := zb h
          refine z_iastore X dd_Mo_nodeOf_251 rfl ec29 ?_
          refine z_sub [1, 2] rfl ?_
          exact t_Mo_nodeOf_252 X H h k0 k1
      · rw [if_neg q17] at h
        refine z_aload_n X dd_Mo_nodeOf_196 rfl 0 rfl ?_
        obtain ⟨w31, ew31, h⟩ := zb h
        obtain ⟨q30, eq30, h⟩ := zb h
        refine z_callVv X [] rfl dd_Mo_nodeOf_197 (c_Mo_wrong l eq30) (cwV 0 X.1.2.2.2.2 (zg_V km_1928 km_1930 km_74 km_138 km_1931) rfl rfl rfl (by decide +kernel) ⟨Nat.le_of_ble_eq_true rfl, Nat.le_of_ble_eq_true rfl⟩) (zob_s ew31) kc_12 rfl (Nat.le_of_ble_eq_true rfl) ⟨Nat.le_of_ble_eq_true rfl, Nat.le_of_ble_eq_true rfl⟩ ?_
        refine z_goto (tgt := 172) X dd_Mo_nodeOf_200 (by decide) ?_
        obtain rfl := Option.some.inj h
        exact k0 _ rfl
set_option maxRecDepth 100000 in
set_option maxHeartbeats 4000000 in
theorem t_Mo_nodeOf_255  (X : zX p s m args cd D cid B bb_Mo_nodeOf 4 rr_Mo zT) (H : zH s meth B n0 (some (.int)) "nodeOf") {nf : Nat} {x0 : Nat} {x2 : Int32} {c : Zc} {res : Int32 × Zc} (h : f_Mo_nodeOf_255 nf x0 x2 c = some res) : Zz p l e (zRm 5 104 0 0) s m args below meth cd (MQ below (zQi D cid B res.1 res.2 n0 0) args s 0 0 (fun q => B ≤ q)) D cid B 4 0 0 c 255 [(0, .ref x0), (2, .int x2)] [] := by
  unfold f_Mo_nodeOf_255 at h
  refine z_aload_n X dd_Mo_nodeOf_255 rfl 0 rfl ?_
  refine z_bipush (v := 41) X dd_Mo_nodeOf_256 (by decide) ?_
  obtain ⟨w33, ew33, h⟩ := zb h
  obtain ⟨q32, eq32, h⟩ := zb h
  refine z_callVv X [.int 41] rfl dd_Mo_nodeOf_258 (c_Mo_need l eq32) (cwV 1 X.1.2.2.2.2 (zg_V km_1904 km_1906 km_68 km_138 km_1907) rfl rfl rfl (by decide +kernel) ⟨Nat.le_of_ble_eq_true rfl, Nat.le_of_ble_eq_true rfl⟩) (zob_s ew33) kc_12 rfl (Nat.le_of_ble_eq_true rfl) ⟨Nat.le_of_ble_eq_true rfl, Nat.le_of_ble_eq_true rfl⟩ ?_
  refine z_iload_n X dd_Mo_nodeOf_261 rfl 1 rfl ?_
  obtain rfl := Option.some.inj h
  exact z_iret X H.1 H.2.1 H.2.2.1 dd_Mo_nodeOf_262
set_option maxRecDepth 100000 in
set_option maxHeartbeats 4000000 in
theorem t_Mo_nodeOf_172  (X : zX p s m args cd D cid B bb_Mo_nodeOf 4 rr_Mo zT) (H : zH s meth B n0 (some (.int)) "nodeOf") {nf : Nat} {x0 : Nat} {x2 : Int32} {c : Zc} {res : Int32 × Zc} (h : f_Mo_nodeOf_172 nf x0 x2 c = some res) : Zz p l e (zRm 5 104 0 0) s m args below meth cd (MQ below (zQi D cid B res.1 res.2 n0 0) args s 0 0 (fun q => B ≤ q)) D cid B 4 0 0 c 172 [(0, .ref x0), (2, .int x2)] [] := by
  unfold f_Mo_nodeOf_172 at h
  obtain ⟨b, eb, h⟩ := zb h
  refine zlp_ok (P := fun a : Nat × Int32 × Zc => Zz p l e (zRm 5 104 0 0) s m args below meth cd _ D cid B 4 0 0 a.2.2 172 [(0, .ref a.1), (2, .int a.2.1)] []) (G := fun b : Nat × Int32 × Zc => Zz p l e (zRm 5 104 0 0) s m args below meth cd _ D cid B 4 0 0 b.2.2 255 [(0, .ref b.1), (2, .int b.2.1)] []) (fun a r ha k0 k1 => u_Mo_nodeOf_172 X H ha k0 k1) nf _ b eb ?_
  exact t_Mo_nodeOf_255 X H h
set_option maxRecDepth 100000 in
set_option maxHeartbeats 4000000 in
theorem t_Mo_nodeOf_152  (X : zX p s m args cd D cid B bb_Mo_nodeOf 4 rr_Mo zT) (H : zH s meth B n0 (some (.int)) "nodeOf") {nf : Nat} {x0 : Nat} {x1 : Int32} {x2 : Int32} {c : Zc} {res : Int32 × Zc} (h : f_Mo_nodeOf_152 nf x0 x1 x2 c = some res) : Zz p l e (zRm 5 104 0 0) s m args below meth cd (MQ below (zQi D cid B res.1 res.2 n0 0) args s 0 0 (fun q => B ≤ q)) D cid B 4 0 0 c 152 [(0, .ref x0), (1, .int x1), (2, .int x2)] [] := by
  unfold f_Mo_nodeOf_152 at h
  refine z_aload_n X dd_Mo_nodeOf_152 rfl 0 rfl ?_
  obtain ⟨v37, ev37, h⟩ := zb h
  refine z_get (j := 19) X dd_Mo_nodeOf_153 kc_12 ki_12 (by decide) km_1540 (zgi_v ev37) ?_
  refine z_if_ne (tgt := 172) X dd_Mo_nodeOf_156 (by decide) (fun q38 => ?_) (fun q38 => ?_)
  · rw [if_neg q38] at h
    refine z_sub [0, 2] rfl ?_
    exact t_Mo_nodeOf_172 X H h
  · rw [if_pos q38] at h
    refine z_aload_n X dd_Mo_nodeOf_159 rfl 0 rfl ?_
    refine z_iload_n X dd_Mo_nodeOf_160 rfl 1 rfl ?_
    obtain ⟨w40, ew40, h⟩ := zb h
    obtain ⟨q39, eq39, h⟩ := zb h
    refine z_callVi X [.int x1] rfl dd_Mo_nodeOf_161 (c_Mo_oneMore l eq39) (cwV 1 X.1.2.2.2.2 (zg_V km_1944 km_1946 km_78 km_138 km_1947) rfl rfl rfl (by decide +kernel) ⟨Nat.le_of_ble_eq_true rfl, Nat.le_of_ble_eq_true rfl⟩) (zob_s ew40) kc_12 rfl (Nat.le_of_ble_eq_true rfl) ⟨Nat.le_of_ble_eq_true rfl, Nat.le_of_ble_eq_true rfl⟩ ?_
    refine z_if_eq (tgt := 172) X dd_Mo_nodeOf_164 (by decide) (fun q41 => ?_) (fun q41 => ?_)
    · rw [if_pos q41] at h
      refine z_sub [0, 2] rfl ?_
      exact t_Mo_nodeOf_172 X H h
    · rw [if_neg q41] at h
      refine z_aload_n X dd_Mo_nodeOf_167 rfl 0 rfl ?_
      obtain ⟨w43, ew43, h⟩ := zb h
      obtain ⟨q42, eq42, h⟩ := zb h
      refine z_callVi X [] rfl dd_Mo_nodeOf_168 (c_Mo_newSlot l eq42) (cwV 0 X.1.2.2.2.2 (zg_V km_1948 km_1950 km_79 km_138 km_1951) rfl rfl rfl (by decide +kernel) ⟨Nat.le_of_ble_eq_true rfl, Nat.le_of_ble_eq_true rfl⟩) (zob_s ew43) kc_12 rfl (Nat.le_of_ble_eq_true rfl) ⟨Nat.le_of_ble_eq_true rfl, Nat.le_of_ble_eq_true rfl⟩ ?_
      refine z_istore_n (lv' := [(2, .int q42.1), (0, .ref x0), (1, .int x1)]) X dd_Mo_nodeOf_171 rfl (by decide) rfl ?_
      refine z_sub [1, 0] rfl ?_
      exact t_Mo_nodeOf_172 X H h
set_option maxRecDepth 100000 in
set_option maxHeartbeats 4000000 in
theorem t_Mo_nodeOf_118  (X : zX p s m args cd D cid B bb_Mo_nodeOf 4 rr_Mo zT) (H : zH s meth B n0 (some (.int)) "nodeOf") {nf : Nat} {x0 : Nat} {x1 : Int32} {x2 : Int32} {c : Zc} {res : Int32 × Zc} (h : f_Mo_nodeOf_118 nf x0 x1 x2 c = some res) : Zz p l e (zRm 5 104 0 0) s m args below meth cd (MQ below (zQi D cid B res.1 res.2 n0 0) args s 0 0 (fun q => B ≤ q)) D cid B 4 0 0 c 118 [(0, .ref x0), (1, .int x1), (2, .int x2)] [] := by
  unfold f_Mo_nodeOf_118 at h
  refine z_aload_n X dd_Mo_nodeOf_118 rfl 0 rfl ?_
  obtain ⟨v8, ev8, h⟩ := zb h
  refine z_get (j := 19) X dd_Mo_nodeOf_119 kc_12 ki_12 (by decide) km_1540 (zgi_v ev8) ?_
  refine z_if_ne (tgt := 172) X dd_Mo_nodeOf_122 (by decide) (fun q9 => ?_) (fun q9 => ?_)
  · rw [if_neg q9] at h
    refine z_sub [0, 2] rfl ?_
    exact t_Mo_nodeOf_172 X H h
  · rw [if_pos q9] at h
    refine z_aload_n X dd_Mo_nodeOf_125 rfl 0 rfl ?_
    obtain ⟨w35, ew35, h⟩ := zb h
    obtain ⟨q34, eq34, h⟩ := zb h
    refine z_callVi X [] rfl dd_Mo_nodeOf_126 (c_Mo_kind l eq34) (cwV 0 X.1.2.2.2.2 (zg_V km_1912 km_1914 km_70 km_138 km_1915) rfl rfl rfl (by decide +kernel) ⟨Nat.le_of_ble_eq_true rfl, Nat.le_of_ble_eq_true rfl⟩) (zob_s ew35) kc_12 rfl (Nat.le_of_ble_eq_true rfl) ⟨Nat.le_of_ble_eq_true rfl, Nat.le_of_ble_eq_true rfl⟩ ?_
    refine z_bipush (v := 58) X dd_Mo_nodeOf_129 (by decide) ?_
    refine z_icmp_eq (tgt := 152) X dd_Mo_nodeOf_131 (by decide) (fun q36 => ?_) (fun q36 => ?_)
    · rw [if_pos q36] at h
      exact t_Mo_nodeOf_152 X H h
    · rw [if_neg q36] at h
      refine z_aload_n X dd_Mo_nodeOf_134 rfl 0 rfl ?_
      obtain ⟨v44, ev44, h⟩ := zb h
      refine z_get (j := 14) X dd_Mo_nodeOf_135 kc_12 ki_12 (by decide) km_1535 (zgr_v ev44) ?_
      refine z_aload_n X dd_Mo_nodeOf_138 rfl 0 rfl ?_
      obtain ⟨v45, ev45, h⟩ := zb h
      refine z_get (j := 18) X dd_Mo_nodeOf_139 kc_12 ki_12 (by decide) km_1539 (zgi_v ev45) ?_
      obtain ⟨v46, ev46, h⟩ := zb h
      refine z_iaload X dd_Mo_nodeOf_142 rfl ev46 ?_
      refine z_bipush (v := 41) X dd_Mo_nodeOf_143 (by decide) ?_
      refine z_icmp_eq (tgt := 152) X dd_Mo_nodeOf_145 (by decide) (fun q47 => ?_) (fun q47 => ?_)
      · rw [if_pos q47] at h
        exact t_Mo_nodeOf_152 X H h
      · rw [if_neg q47] at h
        refine z_aload_n X dd_Mo_nodeOf_148 rfl 0 rfl ?_
        obtain ⟨w49, ew49, h⟩ := zb h
        obtain ⟨q48, eq48, h⟩ := zb h
        refine z_callVv X [] rfl dd_Mo_nodeOf_149 (c_Mo_wrong l eq48) (cwV 0 X.1.2.2.2.2 (zg_V km_1928 km_1930 km_74 km_138 km_1931) rfl rfl rfl (by decide +kernel) ⟨Nat.le_of_ble_eq_true rfl, Nat.le_of_ble_eq_true rfl⟩) (zob_s ew49) kc_12 rfl (Nat.le_of_ble_eq_true rfl) ⟨Nat.le_of_ble_eq_true rfl, Nat.le_of_ble_eq_true rfl⟩ ?_
        exact t_Mo_nodeOf_152 X H h
set_option maxRecDepth 100000 in
set_option maxHeartbeats 4000000 in
theorem t_Mo_nodeOf_111  (X : zX p s m args cd D cid B bb_Mo_nodeOf 4 rr_Mo zT) (H : zH s meth B n0 (some (.int)) "nodeOf") {nf : Nat} {x0 : Nat} {x2 : Int32} {c : Zc} {res : Int32 × Zc} (h : f_Mo_nodeOf_111 nf x0 x2 c = some res) : Zz p l e (zRm 5 104 0 0) s m args below meth cd (MQ below (zQi D cid B res.1 res.2 n0 0) args s 0 0 (fun q => B ≤ q)) D cid B 4 0 0 c 111 [(0, .ref x0), (2, .int x2)] [] := by
  unfold f_Mo_nodeOf_111 at h
  refine z_aload_n X dd_Mo_nodeOf_111 rfl 0 rfl ?_
  obtain ⟨w63, ew63, h⟩ := zb h
  obtain ⟨q62, eq62, h⟩ := zb h
  refine z_callVv X [] rfl dd_Mo_nodeOf_112 (c_Mo_pass l eq62) (cwV 0 X.1.2.2.2.2 (zg_V km_1920 km_1922 km_72 km_138 km_1923) rfl rfl rfl (by decide +kernel) ⟨Nat.le_of_ble_eq_true rfl, Nat.le_of_ble_eq_true rfl⟩) (zob_s ew63) kc_12 rfl (Nat.le_of_ble_eq_true rfl) ⟨Nat.le_of_ble_eq_true rfl, Nat.le_of_ble_eq_true rfl⟩ ?_
  refine z_goto (tgt := 172) X dd_Mo_nodeOf_115 (by decide) ?_
  exact t_Mo_nodeOf_172 X H h
set_option maxRecDepth 100000 in
set_option maxHeartbeats 4000000 in
theorem t_Mo_nodeOf_73  (X : zX p s m args cd D cid B bb_Mo_nodeOf 4 rr_Mo zT) (H : zH s meth B n0 (some (.int)) "nodeOf") {nf : Nat} {x0 : Nat} {x2 : Int32} {x3 : Int32} {c : Zc} {res : Int32 × Zc} (h : f_Mo_nodeOf_73 nf x0 x2 x3 c = some res) : Zz p l e (zRm 5 104 0 0) s m args below meth cd (MQ below (zQi D cid B res.1 res.2 n0 0) args s 0 0 (fun q => B ≤ q)) D cid B 4 0 0 c 73 [(0, .ref x0), (2, .int x2), (3, .int x3)] [] := by
  unfold f_Mo_nodeOf_73 at h
  refine z_iload_n X dd_Mo_nodeOf_73 rfl 1 rfl ?_
  refine z_if_ge (tgt := 111) X dd_Mo_nodeOf_74 (by decide) (fun q61 => ?_) (fun q61 => ?_)
  · rw [if_pos q61] at h
    refine z_sub [0, 1] rfl ?_
    exact t_Mo_nodeOf_111 X H h
  · rw [if_neg q61] at h
    refine z_aload_n X dd_Mo_nodeOf_77 rfl 0 rfl ?_
    obtain ⟨v64, ev64, h⟩ := zb h
    refine z_get (j := 19) X dd_Mo_nodeOf_78 kc_12 ki_12 (by decide) km_1540 (zgi_v ev64) ?_
    refine z_if_ne (tgt := 111) X dd_Mo_nodeOf_81 (by decide) (fun q65 => ?_) (fun q65 => ?_)
    · rw [if_neg q65] at h
      refine z_sub [0, 1] rfl ?_
      exact t_Mo_nodeOf_111 X H h
    · rw [if_pos q65] at h
      refine z_aload_n X dd_Mo_nodeOf_84 rfl 0 rfl ?_
      refine z_aload_n X dd_Mo_nodeOf_85 rfl 0 rfl ?_
      obtain ⟨v66, ev66, h⟩ := zb h
      refine z_get (j := 16) X dd_Mo_nodeOf_86 kc_12 ki_12 (by decide) km_1537 (zgr_v ev66) ?_
      refine z_aload_n X dd_Mo_nodeOf_89 rfl 0 rfl ?_
      obtain ⟨v67, ev67, h⟩ := zb h
      refine z_get (j := 18) X dd_Mo_nodeOf_90 kc_12 ki_12 (by decide) km_1539 (zgi_v ev67) ?_
      obtain ⟨v68, ev68, h⟩ := zb h
      refine z_iaload X dd_Mo_nodeOf_93 rfl ev68 ?_
      obtain ⟨w70, ew70, h⟩ := zb h
      obtain ⟨q69, eq69, h⟩ := zb h
      refine z_callVi X [.int v68] rfl dd_Mo_nodeOf_94 (c_Mo_oneMore l eq69) (cwV 1 X.1.2.2.2.2 (zg_V km_1944 km_1946 km_78 km_138 km_1947) rfl rfl rfl (by decide +kernel) ⟨Nat.le_of_ble_eq_true rfl, Nat.le_of_ble_eq_true rfl⟩) (zob_s ew70) kc_12 rfl (Nat.le_of_ble_eq_true rfl) ⟨Nat.le_of_ble_eq_true rfl, Nat.le_of_ble_eq_true rfl⟩ ?_
      refine z_if_eq (tgt := 111) X dd_Mo_nodeOf_97 (by decide) (fun q71 => ?_) (fun q71 => ?_)
      · rw [if_pos q71] at h
        refine z_sub [0, 1] rfl ?_
        exact t_Mo_nodeOf_111 X H h
      · rw [if_neg q71] at h
        refine z_aload_n X dd_Mo_nodeOf_100 rfl 0 rfl ?_
        obtain ⟨w73, ew73, h⟩ := zb h
        obtain ⟨q72, eq72, h⟩ := zb h
        refine z_callVi X [] rfl dd_Mo_nodeOf_101 (c_Mo_newSlot l eq72) (cwV 0 X.1.2.2.2.2 (zg_V km_1948 km_1950 km_79 km_138 km_1951) rfl rfl rfl (by decide +kernel) ⟨Nat.le_of_ble_eq_true rfl, Nat.le_of_ble_eq_true rfl⟩) (zob_s ew73) kc_12 rfl (Nat.le_of_ble_eq_true rfl) ⟨Nat.le_of_ble_eq_true rfl, Nat.le_of_ble_eq_true rfl⟩ ?_
        refine z_istore_n (lv' := [(2, .int q72.1), (0, .ref x0), (3, .int x3)]) X dd_Mo_nodeOf_104 rfl (by decide) rfl ?_
        refine z_aload_n X dd_Mo_nodeOf_105 rfl 1 rfl ?_
        refine z_iload_n X dd_Mo_nodeOf_106 rfl 2 rfl ?_
        refine z_iload_n X dd_Mo_nodeOf_107 rfl 0 rfl ?_
        obtain ⟨w75, ew75, h⟩ := zb h
        obtain ⟨q74, eq74, h⟩ := zb h
        refine z_callVv X [.int x3, .int q72.1] rfl dd_Mo_nodeOf_108 (c_Mo_learn l eq74) (cwV 2 X.1.2.2.2.2 (zg_V km_1952 km_1954 km_80 km_138 km_1955) rfl rfl rfl (by decide +kernel) ⟨Nat.le_of_ble_eq_true rfl, Nat.le_of_ble_eq_true rfl⟩) (zob_s ew75) kc_12 rfl (Nat.le_of_ble_eq_true rfl) ⟨Nat.le_of_ble_eq_true rfl, Nat.le_of_ble_eq_true rfl⟩ ?_
        refine z_sub [1, 0] rfl ?_
        exact t_Mo_nodeOf_111 X H h
set_option maxRecDepth 100000 in
set_option maxHeartbeats 4000000 in
theorem c_Mo_nodeOf (l : Launch) {nf : Nat} {a0 : Nat} {c : Zc} {res : Int32 × Zc} (h : f_Mo_nodeOf nf a0 c = some res) : zM l yy_Mo_nodeOf ww_Mo_nodeOf 5 104 0 0 [.ref a0] c (fun D cid B => zQi D cid B res.1 res.2 c.length 0) := by
  refine z_met (cc := bb_Mo_nodeOf) (maxL := 4) (ret := (some (.int))) (by decide +kernel) rfl (Nat.le_of_ble_eq_true rfl) ?_
  intro p e s m args below meth cd D cid B X h1 h2 h3 h4
  have X : zX p s m args cd D cid B bb_Mo_nodeOf 4 rr_Mo zT := X
  have H : zH s meth B c.length (some (.int)) "nodeOf" := ⟨h1, h2, h4, h3⟩
  unfold f_Mo_nodeOf at h
  show Zz p l e (zRm 5 104 0 0) s m args below meth cd _ D cid B 4 0 0 c 0 [(0, .ref a0)] []
  refine z_aload_n X dd_Mo_nodeOf_0 rfl 0 rfl ?_
  obtain ⟨v1, ev1, h⟩ := zb h
  refine z_get (j := 16) X dd_Mo_nodeOf_1 kc_12 ki_12 (by decide) km_1537 (zgr_v ev1) ?_
  refine z_aload_n X dd_Mo_nodeOf_4 rfl 0 rfl ?_
  obtain ⟨v2, ev2, h⟩ := zb h
  refine z_get (j := 18) X dd_Mo_nodeOf_5 kc_12 ki_12 (by decide) km_1539 (zgi_v ev2) ?_
  obtain ⟨v3, ev3, h⟩ := zb h
  refine z_iaload X dd_Mo_nodeOf_8 rfl ev3 ?_
  refine z_istore_n (lv' := [(1, .int v3), (0, .ref a0)]) X dd_Mo_nodeOf_9 rfl (by decide) rfl ?_
  refine z_aload_n X dd_Mo_nodeOf_10 rfl 1 rfl ?_
  refine z_bipush (v := 40) X dd_Mo_nodeOf_11 (by decide) ?_
  obtain ⟨w5, ew5, h⟩ := zb h
  obtain ⟨q4, eq4, h⟩ := zb h
  refine z_callVv X [.int 40] rfl dd_Mo_nodeOf_13 (c_Mo_need l eq4) (cwV 1 X.1.2.2.2.2 (zg_V km_1904 km_1906 km_68 km_138 km_1907) rfl rfl rfl (by decide +kernel) ⟨Nat.le_of_ble_eq_true rfl, Nat.le_of_ble_eq_true rfl⟩) (zob_s ew5) kc_12 rfl (Nat.le_of_ble_eq_true rfl) ⟨Nat.le_of_ble_eq_true rfl, Nat.le_of_ble_eq_true rfl⟩ ?_
  refine z_iconst (v := (-1)) X dd_Mo_nodeOf_16 (by decide) ?_
  refine z_istore_n (lv' := [(2, .int (-1)), (1, .int v3), (0, .ref a0)]) X dd_Mo_nodeOf_17 rfl (by decide) rfl ?_
  refine z_aload_n X dd_Mo_nodeOf_18 rfl 2 rfl ?_
  obtain ⟨v6, ev6, h⟩ := zb h
  refine z_get (j := 19) X dd_Mo_nodeOf_19 kc_12 ki_12 (by decide) km_1540 (zgi_v ev6) ?_
  refine z_if_ne (tgt := 118) X dd_Mo_nodeOf_22 (by decide) (fun q7 => ?_) (fun q7 => ?_)
  · rw [if_neg q7] at h
    refine z_sub [2, 1, 0] rfl ?_
    exact t_Mo_nodeOf_118 X H h
  · rw [if_pos q7] at h
    refine z_aload_n X dd_Mo_nodeOf_25 rfl 2 rfl ?_
    obtain ⟨w51, ew51, h⟩ := zb h
    obtain ⟨q50, eq50, h⟩ := zb h
    refine z_callVi X [] rfl dd_Mo_nodeOf_26 (c_Mo_kind l eq50) (cwV 0 X.1.2.2.2.2 (zg_V km_1912 km_1914 km_70 km_138 km_1915) rfl rfl rfl (by decide +kernel) ⟨Nat.le_of_ble_eq_true rfl, Nat.le_of_ble_eq_true rfl⟩) (zob_s ew51) kc_12 rfl (Nat.le_of_ble_eq_true rfl) ⟨Nat.le_of_ble_eq_true rfl, Nat.le_of_ble_eq_true rfl⟩ ?_
    refine z_iconst (v := 2) X dd_Mo_nodeOf_29 (by decide) ?_
    refine z_icmp_ne (tgt := 118) X dd_Mo_nodeOf_30 (by decide) (fun q52 => ?_) (fun q52 => ?_)
    · rw [if_neg q52] at h
      refine z_sub [2, 1, 0] rfl ?_
      exact t_Mo_nodeOf_118 X H h
    · rw [if_pos q52] at h
      refine z_aload_n X dd_Mo_nodeOf_33 rfl 2 rfl ?_
      obtain ⟨v53, ev53, h⟩ := zb h
      refine z_get (j := 15) X dd_Mo_nodeOf_34 kc_12 ki_12 (by decide) km_1536 (zgr_v ev53) ?_
      refine z_aload_n X dd_Mo_nodeOf_37 rfl 2 rfl ?_
      obtain ⟨v54, ev54, h⟩ := zb h
      refine z_get (j := 18) X dd_Mo_nodeOf_38 kc_12 ki_12 (by decide) km_1539 (zgi_v ev54) ?_
      obtain ⟨v55, ev55, h⟩ := zb h
      refine z_iaload X dd_Mo_nodeOf_41 rfl ev55 ?_
      refine z_istore_n (lv' := [(3, .int v55), (2, .int (-1)), (1, .int v3), (0, .ref a0)]) X dd_Mo_nodeOf_42 rfl (by decide) rfl ?_
      refine z_aload_n X dd_Mo_nodeOf_43 rfl 3 rfl ?_
      obtain ⟨w57, ew57, h⟩ := zb h
      obtain ⟨q56, eq56, h⟩ := zb h
      refine z_callVv X [] rfl dd_Mo_nodeOf_44 (c_Mo_stands l eq56) (cwV 0 X.1.2.2.2.2 (zg_V km_1924 km_1926 km_73 km_138 km_1927) rfl rfl rfl (by decide +kernel) ⟨Nat.le_of_ble_eq_true rfl, Nat.le_of_ble_eq_true rfl⟩) (zob_s ew57) kc_12 rfl (Nat.le_of_ble_eq_true rfl) ⟨Nat.le_of_ble_eq_true rfl, Nat.le_of_ble_eq_true rfl⟩ ?_
      refine z_aload_n X dd_Mo_nodeOf_47 rfl 3 rfl ?_
      refine z_iload_n X dd_Mo_nodeOf_48 rfl 0 rfl ?_
      obtain ⟨w59, ew59, h⟩ := zb h
      obtain ⟨q58, eq58, h⟩ := zb h
      refine z_callVi X [.int v55] rfl dd_Mo_nodeOf_49 (c_Mo_meaning l eq58) (cwV 1 X.1.2.2.2.2 (zg_V km_1940 km_1942 km_77 km_138 km_1943) rfl rfl rfl (by decide +kernel) ⟨Nat.le_of_ble_eq_true rfl, Nat.le_of_ble_eq_true rfl⟩) (zob_s ew59) kc_12 rfl (Nat.le_of_ble_eq_true rfl) ⟨Nat.le_of_ble_eq_true rfl, Nat.le_of_ble_eq_true rfl⟩ ?_
      refine z_istore_n (lv' := [(2, .int q58.1), (3, .int v55), (1, .int v3), (0, .ref a0)]) X dd_Mo_nodeOf_52 rfl (by decide) rfl ?_
      refine z_iload_n X dd_Mo_nodeOf_53 rfl 0 rfl ?_
      refine z_bipush (v := 100) X dd_Mo_nodeOf_54 (by decide) ?_
      refine z_icmp_lt (tgt := 73) X dd_Mo_nodeOf_56 (by decide) (fun q60 => ?_) (fun q60 => ?_)
      · rw [if_pos q60] at h
        refine z_sub [3, 0, 1] rfl ?_
        exact t_Mo_nodeOf_73 X H h
      · rw [if_neg q60] at h
        refine z_aload_n X dd_Mo_nodeOf_59 rfl 3 rfl ?_
        refine z_iconst (v := 4) X dd_Mo_nodeOf_60 (by decide) ?_
        refine z_aload_n X dd_Mo_nodeOf_61 rfl 3 rfl ?_
        obtain ⟨v76, ev76, h⟩ := zb h
        refine z_get (j := 16) X dd_Mo_nodeOf_62 kc_12 ki_12 (by decide) km_1537 (zgr_v ev76) ?_
        refine z_aload_n X dd_Mo_nodeOf_65 rfl 3 rfl ?_
        obtain ⟨v77, ev77, h⟩ := zb h
        refine z_get (j := 18) X dd_Mo_nodeOf_66 kc_12 ki_12 (by decide) km_1539 (zgi_v ev77) ?_
        obtain ⟨v78, ev78, h⟩ := zb h
        refine z_iaload X dd_Mo_nodeOf_69 rfl ev78 ?_
        obtain ⟨w80, ew80, h⟩ := zb h
        obtain ⟨q79, eq79, h⟩ := zb h
        refine z_callVv X [.int 4, .int v78] rfl dd_Mo_nodeOf_70 (c_Mo_refuse l eq79) (cwV 2 X.1.2.2.2.2 (zg_V km_1916 km_1918 km_71 km_138 km_1919) rfl rfl rfl (by decide +kernel) ⟨Nat.le_of_ble_eq_true rfl, Nat.le_of_ble_eq_true rfl⟩) (zob_s ew80) kc_12 rfl (Nat.le_of_ble_eq_true rfl) ⟨Nat.le_of_ble_eq_true rfl, Nat.le_of_ble_eq_true rfl⟩ ?_
        refine z_sub [3, 0, 1] rfl ?_
        exact t_Mo_nodeOf_73 X H h
theorem dd_Mo_beginRow_0 : decode bb_Mo_beginRow 0 = .ok (.aload_n 0, 1) := by decide +kernel
theorem dd_Mo_beginRow_1 : decode bb_Mo_beginRow 1 = .ok (.getfield 158, 3) := by decide +kernel
theorem dd_Mo_beginRow_4 : decode bb_Mo_beginRow 4 = .ok (.iload_n 1, 1) := by decide +kernel
theorem dd_Mo_beginRow_5 : decode bb_Mo_beginRow 5 = .ok (.iconst 1, 1) := by decide +kernel
theorem dd_Mo_beginRow_6 : decode bb_Mo_beginRow 6 = .ok (.bastore, 1) := by decide +kernel
theorem dd_Mo_beginRow_7 : decode bb_Mo_beginRow 7 = .ok (.aload_n 0, 1) := by decide +kernel
theorem dd_Mo_beginRow_8 : decode bb_Mo_beginRow 8 = .ok (.getfield 161, 3) := by decide +kernel
theorem dd_Mo_beginRow_11 : decode bb_Mo_beginRow 11 = .ok (.iload_n 1, 1) := by decide +kernel
theorem dd_Mo_beginRow_12 : decode bb_Mo_beginRow 12 = .ok (.iconst 0, 1) := by decide +kernel
theorem dd_Mo_beginRow_13 : decode bb_Mo_beginRow 13 = .ok (.iastore, 1) := by decide +kernel
theorem dd_Mo_beginRow_14 : decode bb_Mo_beginRow 14 = .ok (.aload_n 0, 1) := by decide +kernel
theorem dd_Mo_beginRow_15 : decode bb_Mo_beginRow 15 = .ok (.getfield 164, 3) := by decide +kernel
theorem dd_Mo_beginRow_18 : decode bb_Mo_beginRow 18 = .ok (.iload_n 1, 1) := by decide +kernel
theorem dd_Mo_beginRow_19 : decode bb_Mo_beginRow 19 = .ok (.iconst 0, 1) := by decide +kernel
theorem dd_Mo_beginRow_20 : decode bb_Mo_beginRow 20 = .ok (.iastore, 1) := by decide +kernel
theorem dd_Mo_beginRow_21 : decode bb_Mo_beginRow 21 = .ok (.aload_n 0, 1) := by decide +kernel
theorem dd_Mo_beginRow_22 : decode bb_Mo_beginRow 22 = .ok (.getfield 167, 3) := by decide +kernel
theorem dd_Mo_beginRow_25 : decode bb_Mo_beginRow 25 = .ok (.iload_n 1, 1) := by decide +kernel
theorem dd_Mo_beginRow_26 : decode bb_Mo_beginRow 26 = .ok (.iconst 0, 1) := by decide +kernel
theorem dd_Mo_beginRow_27 : decode bb_Mo_beginRow 27 = .ok (.bastore, 1) := by decide +kernel
theorem dd_Mo_beginRow_28 : decode bb_Mo_beginRow 28 = .ok (.return_, 1) := by decide +kernel
set_option maxRecDepth 100000 in
set_option maxHeartbeats 4000000 in
theorem c_Mo_beginRow (l : Launch) {nf : Nat} {a0 : Nat} {a1 : Int32} {c : Zc} {res : Zc} (h : f_Mo_beginRow nf a0 a1 c = some res) : zM l yy_Mo_beginRow ww_Mo_beginRow 0 0 0 0 [.ref a0, .int a1] c (fun D cid B => zQv D cid B res c.length 0) := by
  refine z_met (cc := bb_Mo_beginRow) (maxL := 2) (ret := none) (by decide +kernel) rfl (Nat.le_of_ble_eq_true rfl) ?_
  intro p e s m args below meth cd D cid B X h1 h2 h3 h4
  have X : zX p s m args cd D cid B bb_Mo_beginRow 2 rr_Mo zT := X
  have H : zH s meth B c.length none "beginRow" := ⟨h1, h2, h4, h3⟩
  unfold f_Mo_beginRow at h
  show Zz p l e (zRm 0 0 0 0) s m args below meth cd _ D cid B 2 0 0 c 0 [(0, .ref a0), (1, .int a1)] []
  refine z_aload_n X dd_Mo_beginRow_0 rfl 0 rfl ?_
  obtain ⟨v1, ev1, h⟩ := zb h
  refine z_get (j := 61) X dd_Mo_beginRow_1 kc_12 ki_12 (by decide) km_1582 (zgr_v ev1) ?_
  refine z_iload_n X dd_Mo_beginRow_4 rfl 1 rfl ?_
  refine z_iconst (v := 1) X dd_Mo_beginRow_5 (by decide) ?_
  obtain ⟨c2, ec2, h⟩ := zb h
  refine z_zastore X dd_Mo_beginRow_6 rfl ec2 ?_
  refine z_aload_n X dd_Mo_beginRow_7 rfl 0 rfl ?_
  obtain ⟨v3, ev3, h⟩ := zb h
  refine z_get (j := 62) X dd_Mo_beginRow_8 kc_12 ki_12 (by decide) km_1583 (zgr_v ev3) ?_
  refine z_iload_n X dd_Mo_beginRow_11 rfl 1 rfl ?_
  refine z_iconst (v := 0) X dd_Mo_beginRow_12 (by decide) ?_
  obtain ⟨c4, ec4, h⟩ := zb h
  refine z_iastore X dd_Mo_beginRow_13 rfl ec4 ?_
  refine z_aload_n X dd_Mo_beginRow_14 rfl 0 rfl ?_
  obtain ⟨v5, ev5, h⟩ := zb h
  refine z_get (j := 63) X dd_Mo_beginRow_15 kc_12 ki_12 (by decide) km_1584 (zgr_v ev5) ?_
  refine z_iload_n X dd_Mo_beginRow_18 rfl 1 rfl ?_
  refine z_iconst (v := 0) X dd_Mo_beginRow_19 (by decide) ?_
  obtain ⟨c6, ec6, h⟩ := zb h
  refine z_iastore X dd_Mo_beginRow_20 rfl ec6 ?_
  refine z_aload_n X dd_Mo_beginRow_21 rfl 0 rfl ?_
  obtain ⟨v7, ev7, h⟩ := zb h
  refine z_get (j := 64) X dd_Mo_beginRow_22 kc_12 ki_12 (by decide) km_1585 (zgr_v ev7) ?_
  refine z_iload_n X dd_Mo_beginRow_25 rfl 1 rfl ?_
  refine z_iconst (v := 0) X dd_Mo_beginRow_26 (by decide) ?_
  obtain ⟨c8, ec8, h⟩ := zb h
  refine z_zastore X dd_Mo_beginRow_27 rfl ec8 ?_
  obtain rfl := Option.some.inj h
  exact z_vret X H.1 H.2.1 H.2.2.1 dd_Mo_beginRow_28
theorem dd_Mo_open_0 : decode bb_Mo_open 0 = .ok (.aload_n 0, 1) := by decide +kernel
theorem dd_Mo_open_1 : decode bb_Mo_open 1 = .ok (.getfield 149, 3) := by decide +kernel
theorem dd_Mo_open_4 : decode bb_Mo_open 4 = .ok (.aload_n 0, 1) := by decide +kernel
theorem dd_Mo_open_5 : decode bb_Mo_open 5 = .ok (.getfield 360, 3) := by decide +kernel
theorem dd_Mo_open_8 : decode bb_Mo_open 8 = .ok (.iconst 0, 1) := by decide +kernel
theorem dd_Mo_open_9 : decode bb_Mo_open 9 = .ok (.bastore, 1) := by decide +kernel
theorem dd_Mo_open_10 : decode bb_Mo_open 10 = .ok (.aload_n 0, 1) := by decide +kernel
theorem dd_Mo_open_11 : decode bb_Mo_open 11 = .ok (.getfield 152, 3) := by decide +kernel
theorem dd_Mo_open_14 : decode bb_Mo_open 14 = .ok (.aload_n 0, 1) := by decide +kernel
theorem dd_Mo_open_15 : decode bb_Mo_open 15 = .ok (.getfield 360, 3) := by decide +kernel
theorem dd_Mo_open_18 : decode bb_Mo_open 18 = .ok (.iconst 0, 1) := by decide +kernel
theorem dd_Mo_open_19 : decode bb_Mo_open 19 = .ok (.iastore, 1) := by decide +kernel
theorem dd_Mo_open_20 : decode bb_Mo_open 20 = .ok (.aload_n 0, 1) := by decide +kernel
theorem dd_Mo_open_21 : decode bb_Mo_open 21 = .ok (.getfield 155, 3) := by decide +kernel
theorem dd_Mo_open_24 : decode bb_Mo_open 24 = .ok (.aload_n 0, 1) := by decide +kernel
theorem dd_Mo_open_25 : decode bb_Mo_open 25 = .ok (.getfield 360, 3) := by decide +kernel
theorem dd_Mo_open_28 : decode bb_Mo_open 28 = .ok (.iconst 0, 1) := by decide +kernel
theorem dd_Mo_open_29 : decode bb_Mo_open 29 = .ok (.iastore, 1) := by decide +kernel
theorem dd_Mo_open_30 : decode bb_Mo_open 30 = .ok (.aload_n 0, 1) := by decide +kernel
theorem dd_Mo_open_31 : decode bb_Mo_open 31 = .ok (.aload_n 0, 1) := by decide +kernel
theorem dd_Mo_open_32 : decode bb_Mo_open 32 = .ok (.getfield 360, 3) := by decide +kernel
theorem dd_Mo_open_35 : decode bb_Mo_open 35 = .ok (.invokevirtual 363, 3) := by decide +kernel
theorem dd_Mo_open_38 : decode bb_Mo_open 38 = .ok (.aload_n 0, 1) := by decide +kernel
theorem dd_Mo_open_39 : decode bb_Mo_open 39 = .ok (.dup, 1) := by decide +kernel
theorem dd_Mo_open_40 : decode bb_Mo_open 40 = .ok (.getfield 360, 3) := by decide +kernel
theorem dd_Mo_open_43 : decode bb_Mo_open 43 = .ok (.iconst 1, 1) := by decide +kernel
theorem dd_Mo_open_44 : decode bb_Mo_open 44 = .ok (.iadd, 1) := by decide +kernel
theorem dd_Mo_open_45 : decode bb_Mo_open 45 = .ok (.putfield 360, 3) := by decide +kernel
theorem dd_Mo_open_48 : decode bb_Mo_open 48 = .ok (.return_, 1) := by decide +kernel
set_option maxRecDepth 100000 in
set_option maxHeartbeats 4000000 in
theorem c_Mo_open (l : Launch) {nf : Nat} {a0 : Nat} {c : Zc} {res : Zc} (h : f_Mo_open nf a0 c = some res) : zM l yy_Mo_open ww_Mo_open 1 21 0 0 [.ref a0] c (fun D cid B => zQv D cid B res c.length 0) := by
  refine z_met (cc := bb_Mo_open) (maxL := 1) (ret := none) (by decide +kernel) rfl (Nat.le_of_ble_eq_true rfl) ?_
  intro p e s m args below meth cd D cid B X h1 h2 h3 h4
  have X : zX p s m args cd D cid B bb_Mo_open 1 rr_Mo zT := X
  have H : zH s meth B c.length none "open" := ⟨h1, h2, h4, h3⟩
  unfold f_Mo_open at h
  show Zz p l e (zRm 1 21 0 0) s m args below meth cd _ D cid B 1 0 0 c 0 [(0, .ref a0)] []
  refine z_aload_n X dd_Mo_open_0 rfl 0 rfl ?_
  obtain ⟨v1, ev1, h⟩ := zb h
  refine z_get (j := 58) X dd_Mo_open_1 kc_12 ki_12 (by decide) km_1579 (zgr_v ev1) ?_
  refine z_aload_n X dd_Mo_open_4 rfl 0 rfl ?_
  obtain ⟨v2, ev2, h⟩ := zb h
  refine z_get (j := 65) X dd_Mo_open_5 kc_12 ki_12 (by decide) km_1586 (zgi_v ev2) ?_
  refine z_iconst (v := 0) X dd_Mo_open_8 (by decide) ?_
  obtain ⟨c3, ec3, h⟩ := zb h
  refine z_zastore X dd_Mo_open_9 rfl ec3 ?_
  refine z_aload_n X dd_Mo_open_10 rfl 0 rfl ?_
  obtain ⟨v4, ev4, h⟩ := zb h
  refine z_get (j := 59) X dd_Mo_open_11 kc_12 ki_12 (by decide) km_1580 (zgr_v ev4) ?_
  refine z_aload_n X dd_Mo_open_14 rfl 0 rfl ?_
  obtain ⟨v5, ev5, h⟩ := zb h
  refine z_get (j := 65) X dd_Mo_open_15 kc_12 ki_12 (by decide) km_1586 (zgi_v ev5) ?_
  refine z_iconst (v := 0) X dd_Mo_open_18 (by decide) ?_
  obtain ⟨c6, ec6, h⟩ := zb h
  refine z_iastore X dd_Mo_open_19 rfl ec6 ?_
  refine z_aload_n X dd_Mo_open_20 rfl 0 rfl ?_
  obtain ⟨v7, ev7, h⟩ := zb h
  refine z_get (j := 60) X dd_Mo_open_21 kc_12 ki_12 (by decide) km_1581 (zgr_v ev7) ?_
  refine z_aload_n X dd_Mo_open_24 rfl 0 rfl ?_
  obtain ⟨v8, ev8, h⟩ := zb h
  refine z_get (j := 65) X dd_Mo_open_25 kc_12 ki_12 (by decide) km_1586 (zgi_v ev8) ?_
  refine z_iconst (v := 0) X dd_Mo_open_28 (by decide) ?_
  obtain ⟨c9, ec9, h⟩ := zb h
  refine z_iastore X dd_Mo_open_29 rfl ec9 ?_
  refine z_aload_n X dd_Mo_open_30 rfl 0 rfl ?_
  refine z_aload_n X dd_Mo_open_31 rfl 0 rfl ?_
  obtain ⟨v10, ev10, h⟩ := zb h
  refine z_get (j := 65) X dd_Mo_open_32 kc_12 ki_12 (by decide) km_1586 (zgi_v ev10) ?_
  obtain ⟨w12, ew12, h⟩ := zb h
  obtain ⟨q11, eq11, h⟩ := zb h
  refine z_callVv X [.int v10] rfl dd_Mo_open_35 (c_Mo_beginRow l eq11) (cwV 1 X.1.2.2.2.2 (zg_V km_1968 km_1970 km_84 km_138 km_1971) rfl rfl rfl (by decide +kernel) ⟨Nat.le_of_ble_eq_true rfl, Nat.le_of_ble_eq_true rfl⟩) (zob_s ew12) kc_12 rfl (Nat.le_of_ble_eq_true rfl) ⟨Nat.le_of_ble_eq_true rfl, Nat.le_of_ble_eq_true rfl⟩ ?_
  refine z_aload_n X dd_Mo_open_38 rfl 0 rfl ?_
  refine z_dup X dd_Mo_open_39 rfl ?_
  obtain ⟨v13, ev13, h⟩ := zb h
  refine z_get (j := 65) X dd_Mo_open_40 kc_12 ki_12 (by decide) km_1586 (zgi_v ev13) ?_
  refine z_iconst (v := 1) X dd_Mo_open_43 (by decide) ?_
  refine z_iadd X dd_Mo_open_44 ?_
  obtain ⟨c14, ec14, h⟩ := zb h
  refine z_put (j := 65) X dd_Mo_open_45 kc_12 ki_12 tt_Mo tk_Mo nn_Mo (by decide) km_1586 rfl (tk_Mo 65 (by decide)) rfl rfl ec14 ?_
  obtain rfl := Option.some.inj h
  exact z_vret X H.1 H.2.1 H.2.2.1 dd_Mo_open_48
theorem dd_Mo_link_0 : decode bb_Mo_link 0 = .ok (.iconst 0, 1) := by decide +kernel
theorem dd_Mo_link_1 : decode bb_Mo_link 1 = .ok (.istore 4, 2) := by decide +kernel
theorem dd_Mo_link_3 : decode bb_Mo_link 3 = .ok (.iload 4, 2) := by decide +kernel
theorem dd_Mo_link_5 : decode bb_Mo_link 5 = .ok (.bipush 16, 2) := by decide +kernel
theorem dd_Mo_link_7 : decode bb_Mo_link 7 = .ok (.if_icmp .ge 35, 3) := by decide +kernel
theorem dd_Mo_link_10 : decode bb_Mo_link 10 = .ok (.iload_n 2, 1) := by decide +kernel
theorem dd_Mo_link_11 : decode bb_Mo_link 11 = .ok (.iload 4, 2) := by decide +kernel
theorem dd_Mo_link_13 : decode bb_Mo_link 13 = .ok (.ishr, 1) := by decide +kernel
theorem dd_Mo_link_14 : decode bb_Mo_link 14 = .ok (.iconst 1, 1) := by decide +kernel
theorem dd_Mo_link_15 : decode bb_Mo_link 15 = .ok (.iand, 1) := by decide +kernel
theorem dd_Mo_link_16 : decode bb_Mo_link 16 = .ok (.iconst 1, 1) := by decide +kernel
theorem dd_Mo_link_17 : decode bb_Mo_link 17 = .ok (.if_icmp .ne 19, 3) := by decide +kernel
theorem dd_Mo_link_20 : decode bb_Mo_link 20 = .ok (.aload_n 0, 1) := by decide +kernel
theorem dd_Mo_link_21 : decode bb_Mo_link 21 = .ok (.getfield 113, 3) := by decide +kernel
theorem dd_Mo_link_24 : decode bb_Mo_link 24 = .ok (.bipush 16, 2) := by decide +kernel
theorem dd_Mo_link_26 : decode bb_Mo_link 26 = .ok (.iload_n 1, 1) := by decide +kernel
theorem dd_Mo_link_27 : decode bb_Mo_link 27 = .ok (.imul, 1) := by decide +kernel
theorem dd_Mo_link_28 : decode bb_Mo_link 28 = .ok (.iload 4, 2) := by decide +kernel
theorem dd_Mo_link_30 : decode bb_Mo_link 30 = .ok (.iadd, 1) := by decide +kernel
theorem dd_Mo_link_31 : decode bb_Mo_link 31 = .ok (.dup2, 1) := by decide +kernel
theorem dd_Mo_link_32 : decode bb_Mo_link 32 = .ok (.iaload, 1) := by decide +kernel
theorem dd_Mo_link_33 : decode bb_Mo_link 33 = .ok (.iload_n 3, 1) := by decide +kernel
theorem dd_Mo_link_34 : decode bb_Mo_link 34 = .ok (.ior, 1) := by decide +kernel
theorem dd_Mo_link_35 : decode bb_Mo_link 35 = .ok (.iastore, 1) := by decide +kernel
theorem dd_Mo_link_36 : decode bb_Mo_link 36 = .ok (.iinc 4 1, 3) := by decide +kernel
theorem dd_Mo_link_39 : decode bb_Mo_link 39 = .ok (.goto (-36), 3) := by decide +kernel
theorem dd_Mo_link_42 : decode bb_Mo_link 42 = .ok (.return_, 1) := by decide +kernel
set_option maxRecDepth 100000 in
set_option maxHeartbeats 4000000 in
theorem t_Mo_link_36  (X : zX p s m args cd D cid B bb_Mo_link 5 rr_Mo zT) (H : zH s meth B n0 none "link") {nf : Nat} {x0 : Nat} {x1 : Int32} {x2 : Int32} {x3 : Int32} {x4 : Int32} {c : Zc} {r : (Nat × Int32 × Int32 × Int32 × Int32 × Zc) ⊕ (Zc)} (h : f_Mo_link_36 nf x0 x1 x2 x3 x4 c = some r) (k0 : ∀ a, r = .inl a → (fun a : Nat × Int32 × Int32 × Int32 × Int32 × Zc => Zz p l e (zRm 0 0 0 0) s m args below meth cd Q D cid B 5 0 0 a.2.2.2.2.2 3 [(0, .ref a.1), (1, .int a.2.1), (2, .int a.2.2.1), (3, .int a.2.2.2.1), (4, .int a.2.2.2.2.1)] []) a) (k1 : ∀ b, r = .inr b → (fun b : Zc => Zz p l e (zRm 0 0 0 0) s m args below meth cd Q D cid B 5 0 0 b 42 [] []) b) : Zz p l e (zRm 0 0 0 0) s m args below meth cd Q D cid B 5 0 0 c 36 [(0, .ref x0), (1, .int x1), (2, .int x2), (3, .int x3), (4, .int x4)] [] := by
  unfold f_Mo_link_36 at h
  refine z_iinc (v := (x4 + 1)) (lv' := [(4, .int (x4 + 1)), (0, .ref x0), (1, .int x1), (2, .int x2), (3, .int x3)]) X dd_Mo_link_36 4 rfl rfl (by decide) rfl ?_
  refine z_goto (tgt := 3) X dd_Mo_link_39 (by decide) ?_
  refine z_sub [1, 2, 3, 4, 0] rfl ?_
  obtain rfl := Option.some.inj h
  exact k0 _ rfl
set_option maxRecDepth 100000 in
set_option maxHeartbeats 4000000 in
theorem u_Mo_link_3  (X : zX p s m args cd D cid B bb_Mo_link 5 rr_Mo zT) (H : zH s meth B n0 none "link") {nf : Nat} {x0 : Nat} {x1 : Int32} {x2 : Int32} {x3 : Int32} {x4 : Int32} {c : Zc} {r : (Nat × Int32 × Int32 × Int32 × Int32 × Zc) ⊕ (Zc)} (h : g_Mo_link_3 nf x0 x1 x2 x3 x4 c = some r) (k0 : ∀ a, r = .inl a → (fun a : Nat × Int32 × Int32 × Int32 × Int32 × Zc => Zz p l e (zRm 0 0 0 0) s m args below meth cd Q D cid B 5 0 0 a.2.2.2.2.2 3 [(0, .ref a.1), (1, .int a.2.1), (2, .int a.2.2.1), (3, .int a.2.2.2.1), (4, .int a.2.2.2.2.1)] []) a) (k1 : ∀ b, r = .inr b → (fun b : Zc => Zz p l e (zRm 0 0 0 0) s m args below meth cd Q D cid B 5 0 0 b 42 [] []) b) : Zz p l e (zRm 0 0 0 0) s m args below meth cd Q D cid B 5 0 0 c 3 [(0, .ref x0), (1, .int x1), (2, .int x2), (3, .int x3), (4, .int x4)] [] := by
  unfold g_Mo_link_3 at h
  refine z_iload X dd_Mo_link_3 4 rfl ?_
  refine z_bipush (v := 16) X dd_Mo_link_5 (by decide) ?_
  refine z_icmp_ge (tgt := 42) X dd_Mo_link_7 (by decide) (fun q1 => ?_) (fun q1 => ?_)
  · rw [if_pos q1] at h
    refine z_sub [] rfl ?_
    obtain rfl := Option.some.inj h
    exact k1 _ rfl
  · rw [if_neg q1] at h
    refine z_iload_n X dd_Mo_link_10 rfl 2 rfl ?_
    refine z_iload X dd_Mo_link_11 4 rfl ?_
    refine z_ishr X dd_Mo_link_13 ?_
    refine z_iconst (v := 1) X dd_Mo_link_14 (by decide) ?_
    refine z_iand X dd_Mo_link_15 ?_
    refine z_iconst (v := 1) X dd_Mo_link_16 (by decide) ?_
    refine z_icmp_ne (tgt := 36) X dd_Mo_link_17 (by decide) (fun q2 => ?_) (fun q2 => ?_)
    · rw [if_neg q2] at h
      exact t_Mo_link_36 X H h k0 k1
    · rw [if_pos q2] at h
      refine z_aload_n X dd_Mo_link_20 rfl 0 rfl ?_
      obtain ⟨v3, ev3, h⟩ := zb h
      refine z_get (j := 42) X dd_Mo_link_21 kc_12 ki_12 (by decide) km_1563 (zgr_v ev3) ?_
      refine z_bipush (v := 16) X dd_Mo_link_24 (by decide) ?_
      refine z_iload_n X dd_Mo_link_26 rfl 1 rfl ?_
      refine z_imul X dd_Mo_link_27 ?_
      refine z_iload X dd_Mo_link_28 4 rfl ?_
      refine z_iadd X dd_Mo_link_30 ?_
      refine z_dup2_11 X dd_Mo_link_31 rfl rfl ?_
      obtain ⟨v4, ev4, h⟩ := zb h
      refine z_iaload X dd_Mo_link_32 rfl ev4 ?_
      refine z_iload_n X dd_Mo_link_33 rfl 3 rfl ?_
      refine z_ior X dd_Mo_link_34 ?_
      obtain ⟨c5, ec5, h⟩ := zb h
      refine z_iastore X dd_Mo_link_35 rfl ec5 ?_
      exact t_Mo_link_36 X H h k0 k1
set_option maxRecDepth 100000 in
set_option maxHeartbeats 4000000 in
theorem t_Mo_link_3  (X : zX p s m args cd D cid B bb_Mo_link 5 rr_Mo zT) (H : zH s meth B n0 none "link") {nf : Nat} {x0 : Nat} {x1 : Int32} {x2 : Int32} {x3 : Int32} {x4 : Int32} {c : Zc} {res : Zc} (h : f_Mo_link_3 nf x0 x1 x2 x3 x4 c = some res) : Zz p l e (zRm 0 0 0 0) s m args below meth cd (MQ below (zQv D cid B res n0 0) args s 0 0 (fun q => B ≤ q)) D cid B 5 0 0 c 3 [(0, .ref x0), (1, .int x1), (2, .int x2), (3, .int x3), (4, .int x4)] [] := by
  unfold f_Mo_link_3 at h
  obtain ⟨b, eb, h⟩ := zb h
  refine zlp_ok (P := fun a : Nat × Int32 × Int32 × Int32 × Int32 × Zc => Zz p l e (zRm 0 0 0 0) s m args below meth cd _ D cid B 5 0 0 a.2.2.2.2.2 3 [(0, .ref a.1), (1, .int a.2.1), (2, .int a.2.2.1), (3, .int a.2.2.2.1), (4, .int a.2.2.2.2.1)] []) (G := fun b : Zc => Zz p l e (zRm 0 0 0 0) s m args below meth cd _ D cid B 5 0 0 b 42 [] []) (fun a r ha k0 k1 => u_Mo_link_3 X H ha k0 k1) nf _ b eb ?_
  obtain rfl := Option.some.inj h
  exact z_vret X H.1 H.2.1 H.2.2.1 dd_Mo_link_42
set_option maxRecDepth 100000 in
set_option maxHeartbeats 4000000 in
theorem c_Mo_link (l : Launch) {nf : Nat} {a0 : Nat} {a1 : Int32} {a2 : Int32} {a3 : Int32} {c : Zc} {res : Zc} (h : f_Mo_link nf a0 a1 a2 a3 c = some res) : zM l yy_Mo_link ww_Mo_link 0 0 0 0 [.ref a0, .int a1, .int a2, .int a3] c (fun D cid B => zQv D cid B res c.length 0) := by
  refine z_met (cc := bb_Mo_link) (maxL := 5) (ret := none) (by decide +kernel) rfl (Nat.le_of_ble_eq_true rfl) ?_
  intro p e s m args below meth cd D cid B X h1 h2 h3 h4
  have X : zX p s m args cd D cid B bb_Mo_link 5 rr_Mo zT := X
  have H : zH s meth B c.length none "link" := ⟨h1, h2, h4, h3⟩
  unfold f_Mo_link at h
  show Zz p l e (zRm 0 0 0 0) s m args below meth cd _ D cid B 5 0 0 c 0 [(0, .ref a0), (1, .int a1), (2, .int a2), (3, .int a3)] []
  refine z_iconst (v := 0) X dd_Mo_link_0 (by decide) ?_
  refine z_istore (lv' := [(4, .int 0), (0, .ref a0), (1, .int a1), (2, .int a2), (3, .int a3)]) X dd_Mo_link_1 (by decide) rfl ?_
  refine z_sub [1, 2, 3, 4, 0] rfl ?_
  exact t_Mo_link_3 X H h
theorem dd_Mo_step_0 : decode bb_Mo_step 0 = .ok (.iload_n 2, 1) := by decide +kernel
theorem dd_Mo_step_1 : decode bb_Mo_step 1 = .ok (.istore 5, 2) := by decide +kernel
theorem dd_Mo_step_3 : decode bb_Mo_step 3 = .ok (.aload_n 0, 1) := by decide +kernel
theorem dd_Mo_step_4 : decode bb_Mo_step 4 = .ok (.bipush 42, 2) := by decide +kernel
theorem dd_Mo_step_6 : decode bb_Mo_step 6 = .ok (.invokevirtual 316, 3) := by decide +kernel
theorem dd_Mo_step_9 : decode bb_Mo_step 9 = .ok (.ifCond .eq 17, 3) := by decide +kernel
theorem dd_Mo_step_12 : decode bb_Mo_step 12 = .ok (.aload_n 0, 1) := by decide +kernel
theorem dd_Mo_step_13 : decode bb_Mo_step 13 = .ok (.iload_n 1, 1) := by decide +kernel
theorem dd_Mo_step_14 : decode bb_Mo_step 14 = .ok (.iload 4, 2) := by decide +kernel
theorem dd_Mo_step_16 : decode bb_Mo_step 16 = .ok (.iload_n 3, 1) := by decide +kernel
theorem dd_Mo_step_17 : decode bb_Mo_step 17 = .ok (.invokevirtual 366, 3) := by decide +kernel
theorem dd_Mo_step_20 : decode bb_Mo_step 20 = .ok (.iconst 1, 1) := by decide +kernel
theorem dd_Mo_step_21 : decode bb_Mo_step 21 = .ok (.istore 5, 2) := by decide +kernel
theorem dd_Mo_step_23 : decode bb_Mo_step 23 = .ok (.goto 35, 3) := by decide +kernel
theorem dd_Mo_step_26 : decode bb_Mo_step 26 = .ok (.aload_n 0, 1) := by decide +kernel
theorem dd_Mo_step_27 : decode bb_Mo_step 27 = .ok (.bipush 43, 2) := by decide +kernel
theorem dd_Mo_step_29 : decode bb_Mo_step 29 = .ok (.invokevirtual 316, 3) := by decide +kernel
theorem dd_Mo_step_32 : decode bb_Mo_step 32 = .ok (.ifCond .eq 14, 3) := by decide +kernel
theorem dd_Mo_step_35 : decode bb_Mo_step 35 = .ok (.aload_n 0, 1) := by decide +kernel
theorem dd_Mo_step_36 : decode bb_Mo_step 36 = .ok (.iload_n 1, 1) := by decide +kernel
theorem dd_Mo_step_37 : decode bb_Mo_step 37 = .ok (.iload 4, 2) := by decide +kernel
theorem dd_Mo_step_39 : decode bb_Mo_step 39 = .ok (.iload_n 3, 1) := by decide +kernel
theorem dd_Mo_step_40 : decode bb_Mo_step 40 = .ok (.invokevirtual 366, 3) := by decide +kernel
theorem dd_Mo_step_43 : decode bb_Mo_step 43 = .ok (.goto 15, 3) := by decide +kernel
theorem dd_Mo_step_46 : decode bb_Mo_step 46 = .ok (.aload_n 0, 1) := by decide +kernel
theorem dd_Mo_step_47 : decode bb_Mo_step 47 = .ok (.bipush 63, 2) := by decide +kernel
theorem dd_Mo_step_49 : decode bb_Mo_step 49 = .ok (.invokevirtual 316, 3) := by decide +kernel
theorem dd_Mo_step_52 : decode bb_Mo_step 52 = .ok (.ifCond .eq 6, 3) := by decide +kernel
theorem dd_Mo_step_55 : decode bb_Mo_step 55 = .ok (.iconst 1, 1) := by decide +kernel
theorem dd_Mo_step_56 : decode bb_Mo_step 56 = .ok (.istore 5, 2) := by decide +kernel
theorem dd_Mo_step_58 : decode bb_Mo_step 58 = .ok (.aload_n 0, 1) := by decide +kernel
theorem dd_Mo_step_59 : decode bb_Mo_step 59 = .ok (.getfield 360, 3) := by decide +kernel
theorem dd_Mo_step_62 : decode bb_Mo_step 62 = .ok (.iconst 1, 1) := by decide +kernel
theorem dd_Mo_step_63 : decode bb_Mo_step 63 = .ok (.isub, 1) := by decide +kernel
theorem dd_Mo_step_64 : decode bb_Mo_step 64 = .ok (.istore 6, 2) := by decide +kernel
theorem dd_Mo_step_66 : decode bb_Mo_step 66 = .ok (.aload_n 0, 1) := by decide +kernel
theorem dd_Mo_step_67 : decode bb_Mo_step 67 = .ok (.iload_n 1, 1) := by decide +kernel
theorem dd_Mo_step_68 : decode bb_Mo_step 68 = .ok (.aload_n 0, 1) := by decide +kernel
theorem dd_Mo_step_69 : decode bb_Mo_step 69 = .ok (.getfield 164, 3) := by decide +kernel
theorem dd_Mo_step_72 : decode bb_Mo_step 72 = .ok (.iload 6, 2) := by decide +kernel
theorem dd_Mo_step_74 : decode bb_Mo_step 74 = .ok (.iaload, 1) := by decide +kernel
theorem dd_Mo_step_75 : decode bb_Mo_step 75 = .ok (.iload_n 3, 1) := by decide +kernel
theorem dd_Mo_step_76 : decode bb_Mo_step 76 = .ok (.invokevirtual 366, 3) := by decide +kernel
theorem dd_Mo_step_79 : decode bb_Mo_step 79 = .ok (.aload_n 0, 1) := by decide +kernel
theorem dd_Mo_step_80 : decode bb_Mo_step 80 = .ok (.getfield 161, 3) := by decide +kernel
theorem dd_Mo_step_83 : decode bb_Mo_step 83 = .ok (.iload 6, 2) := by decide +kernel
theorem dd_Mo_step_85 : decode bb_Mo_step 85 = .ok (.dup2, 1) := by decide +kernel
theorem dd_Mo_step_86 : decode bb_Mo_step 86 = .ok (.iaload, 1) := by decide +kernel
theorem dd_Mo_step_87 : decode bb_Mo_step 87 = .ok (.aload_n 0, 1) := by decide +kernel
theorem dd_Mo_step_88 : decode bb_Mo_step 88 = .ok (.getfield 158, 3) := by decide +kernel
theorem dd_Mo_step_91 : decode bb_Mo_step 91 = .ok (.iload 6, 2) := by decide +kernel
theorem dd_Mo_step_93 : decode bb_Mo_step 93 = .ok (.baload, 1) := by decide +kernel
theorem dd_Mo_step_94 : decode bb_Mo_step 94 = .ok (.ifCond .eq 7, 3) := by decide +kernel
theorem dd_Mo_step_97 : decode bb_Mo_step 97 = .ok (.iload_n 3, 1) := by decide +kernel
theorem dd_Mo_step_98 : decode bb_Mo_step 98 = .ok (.goto 4, 3) := by decide +kernel
theorem dd_Mo_step_101 : decode bb_Mo_step 101 = .ok (.iconst 0, 1) := by decide +kernel
theorem dd_Mo_step_102 : decode bb_Mo_step 102 = .ok (.ior, 1) := by decide +kernel
theorem dd_Mo_step_103 : decode bb_Mo_step 103 = .ok (.iastore, 1) := by decide +kernel
theorem dd_Mo_step_104 : decode bb_Mo_step 104 = .ok (.aload_n 0, 1) := by decide +kernel
theorem dd_Mo_step_105 : decode bb_Mo_step 105 = .ok (.getfield 164, 3) := by decide +kernel
theorem dd_Mo_step_108 : decode bb_Mo_step 108 = .ok (.iload 6, 2) := by decide +kernel
theorem dd_Mo_step_110 : decode bb_Mo_step 110 = .ok (.iload 4, 2) := by decide +kernel
theorem dd_Mo_step_112 : decode bb_Mo_step 112 = .ok (.iload 5, 2) := by decide +kernel
theorem dd_Mo_step_114 : decode bb_Mo_step 114 = .ok (.ifCond .eq 13, 3) := by decide +kernel
theorem dd_Mo_step_117 : decode bb_Mo_step 117 = .ok (.aload_n 0, 1) := by decide +kernel
theorem dd_Mo_step_118 : decode bb_Mo_step 118 = .ok (.getfield 164, 3) := by decide +kernel
theorem dd_Mo_step_121 : decode bb_Mo_step 121 = .ok (.iload 6, 2) := by decide +kernel
theorem dd_Mo_step_123 : decode bb_Mo_step 123 = .ok (.iaload, 1) := by decide +kernel
theorem dd_Mo_step_124 : decode bb_Mo_step 124 = .ok (.goto 4, 3) := by decide +kernel
theorem dd_Mo_step_127 : decode bb_Mo_step 127 = .ok (.iconst 0, 1) := by decide +kernel
theorem dd_Mo_step_128 : decode bb_Mo_step 128 = .ok (.ior, 1) := by decide +kernel
theorem dd_Mo_step_129 : decode bb_Mo_step 129 = .ok (.iastore, 1) := by decide +kernel
theorem dd_Mo_step_130 : decode bb_Mo_step 130 = .ok (.aload_n 0, 1) := by decide +kernel
theorem dd_Mo_step_131 : decode bb_Mo_step 131 = .ok (.getfield 158, 3) := by decide +kernel
theorem dd_Mo_step_134 : decode bb_Mo_step 134 = .ok (.iload 6, 2) := by decide +kernel
theorem dd_Mo_step_136 : decode bb_Mo_step 136 = .ok (.dup2, 1) := by decide +kernel
theorem dd_Mo_step_137 : decode bb_Mo_step 137 = .ok (.baload, 1) := by decide +kernel
theorem dd_Mo_step_138 : decode bb_Mo_step 138 = .ok (.iload 5, 2) := by decide +kernel
theorem dd_Mo_step_140 : decode bb_Mo_step 140 = .ok (.iand, 1) := by decide +kernel
theorem dd_Mo_step_141 : decode bb_Mo_step 141 = .ok (.bastore, 1) := by decide +kernel
theorem dd_Mo_step_142 : decode bb_Mo_step 142 = .ok (.aload_n 0, 1) := by decide +kernel
theorem dd_Mo_step_143 : decode bb_Mo_step 143 = .ok (.getfield 167, 3) := by decide +kernel
theorem dd_Mo_step_146 : decode bb_Mo_step 146 = .ok (.iload 6, 2) := by decide +kernel
theorem dd_Mo_step_148 : decode bb_Mo_step 148 = .ok (.iconst 1, 1) := by decide +kernel
theorem dd_Mo_step_149 : decode bb_Mo_step 149 = .ok (.bastore, 1) := by decide +kernel
theorem dd_Mo_step_150 : decode bb_Mo_step 150 = .ok (.return_, 1) := by decide +kernel
set_option maxRecDepth 100000 in
set_option maxHeartbeats 4000000 in
theorem t_Mo_step_128  (X : zX p s m args cd D cid B bb_Mo_step 7 rr_Mo zT) (H : zH s meth B n0 none "step") {nf : Nat} {x0 : Nat} {x5 : Int32} {x6 : Int32} {s0 : Nat} {s1 : Int32} {s2 : Int32} {s3 : Int32} {c : Zc} {res : Zc} (h : f_Mo_step_128 nf x0 x5 x6 s0 s1 s2 s3 c = some res) : Zz p l e (zRm 4 83 0 0) s m args below meth cd (MQ below (zQv D cid B res n0 0) args s 0 0 (fun q => B ≤ q)) D cid B 7 0 0 c 128 [(0, .ref x0), (5, .int x5), (6, .int x6)] [.int s3, .int s2, .int s1, .ref s0] := by
  unfold f_Mo_step_128 at h
  refine z_ior X dd_Mo_step_128 ?_
  obtain ⟨c23, ec23, h⟩ := zb h
  refine z_iastore X dd_Mo_step_129 rfl ec23 ?_
  refine z_aload_n X dd_Mo_step_130 rfl 0 rfl ?_
  obtain ⟨v24, ev24, h⟩ := zb h
  refine z_get (j := 61) X dd_Mo_step_131 kc_12 ki_12 (by decide) km_1582 (zgr_v ev24) ?_
  refine z_iload X dd_Mo_step_134 2 rfl ?_
  refine z_dup2_11 X dd_Mo_step_136 rfl rfl ?_
  obtain ⟨v25, ev25, h⟩ := zb h
  refine z_zaload X dd_Mo_step_137 rfl ev25 ?_
  refine z_iload X dd_Mo_step_138 1 rfl ?_
  refine z_iand X dd_Mo_step_140 ?_
  obtain ⟨c26, ec26, h⟩ := zb h
  refine z_zastore X dd_Mo_step_141 rfl ec26 ?_
  refine z_aload_n X dd_Mo_step_142 rfl 0 rfl ?_
  obtain ⟨v27, ev27, h⟩ := zb h
  refine z_get (j := 64) X dd_Mo_step_143 kc_12 ki_12 (by decide) km_1585 (zgr_v ev27) ?_
  refine z_iload X dd_Mo_step_146 2 rfl ?_
  refine z_iconst (v := 1) X dd_Mo_step_148 (by decide) ?_
  obtain ⟨c28, ec28, h⟩ := zb h
  refine z_zastore X dd_Mo_step_149 rfl ec28 ?_
  obtain rfl := Option.some.inj h
  exact z_vret X H.1 H.2.1 H.2.2.1 dd_Mo_step_150
set_option maxRecDepth 100000 in
set_option maxHeartbeats 4000000 in
theorem t_Mo_step_102  (X : zX p s m args cd D cid B bb_Mo_step 7 rr_Mo zT) (H : zH s meth B n0 none "step") {nf : Nat} {x0 : Nat} {x4 : Int32} {x5 : Int32} {x6 : Int32} {s0 : Nat} {s1 : Int32} {s2 : Int32} {s3 : Int32} {c : Zc} {res : Zc} (h : f_Mo_step_102 nf x0 x4 x5 x6 s0 s1 s2 s3 c = some res) : Zz p l e (zRm 4 83 0 0) s m args below meth cd (MQ below (zQv D cid B res n0 0) args s 0 0 (fun q => B ≤ q)) D cid B 7 0 0 c 102 [(0, .ref x0), (4, .int x4), (5, .int x5), (6, .int x6)] [.int s3, .int s2, .int s1, .ref s0] := by
  unfold f_Mo_step_102 at h
  refine z_ior X dd_Mo_step_102 ?_
  obtain ⟨c20, ec20, h⟩ := zb h
  refine z_iastore X dd_Mo_step_103 rfl ec20 ?_
  refine z_aload_n X dd_Mo_step_104 rfl 0 rfl ?_
  obtain ⟨v21, ev21, h⟩ := zb h
  refine z_get (j := 63) X dd_Mo_step_105 kc_12 ki_12 (by decide) km_1584 (zgr_v ev21) ?_
  refine z_iload X dd_Mo_step_108 3 rfl ?_
  refine z_iload X dd_Mo_step_110 1 rfl ?_
  refine z_iload X dd_Mo_step_112 2 rfl ?_
  refine z_if_eq (tgt := 127) X dd_Mo_step_114 (by decide) (fun q22 => ?_) (fun q22 => ?_)
  · rw [if_pos q22] at h
    refine z_iconst (v := 0) X dd_Mo_step_127 (by decide) ?_
    refine z_sub [0, 2, 3] rfl ?_
    exact t_Mo_step_128 X H h
  · rw [if_neg q22] at h
    refine z_aload_n X dd_Mo_step_117 rfl 0 rfl ?_
    obtain ⟨v29, ev29, h⟩ := zb h
    refine z_get (j := 63) X dd_Mo_step_118 kc_12 ki_12 (by decide) km_1584 (zgr_v ev29) ?_
    refine z_iload X dd_Mo_step_121 3 rfl ?_
    obtain ⟨v30, ev30, h⟩ := zb h
    refine z_iaload X dd_Mo_step_123 rfl ev30 ?_
    refine z_goto (tgt := 128) X dd_Mo_step_124 (by decide) ?_
    refine z_sub [0, 2, 3] rfl ?_
    exact t_Mo_step_128 X H h
set_option maxRecDepth 100000 in
set_option maxHeartbeats 4000000 in
theorem t_Mo_step_58  (X : zX p s m args cd D cid B bb_Mo_step 7 rr_Mo zT) (H : zH s meth B n0 none "step") {nf : Nat} {x0 : Nat} {x1 : Int32} {x3 : Int32} {x4 : Int32} {x5 : Int32} {c : Zc} {res : Zc} (h : f_Mo_step_58 nf x0 x1 x3 x4 x5 c = some res) : Zz p l e (zRm 4 83 0 0) s m args below meth cd (MQ below (zQv D cid B res n0 0) args s 0 0 (fun q => B ≤ q)) D cid B 7 0 0 c 58 [(0, .ref x0), (1, .int x1), (3, .int x3), (4, .int x4), (5, .int x5)] [] := by
  unfold f_Mo_step_58 at h
  refine z_aload_n X dd_Mo_step_58 rfl 0 rfl ?_
  obtain ⟨v10, ev10, h⟩ := zb h
  refine z_get (j := 65) X dd_Mo_step_59 kc_12 ki_12 (by decide) km_1586 (zgi_v ev10) ?_
  refine z_iconst (v := 1) X dd_Mo_step_62 (by decide) ?_
  refine z_isub X dd_Mo_step_63 ?_
  refine z_istore (lv' := [(6, .int (v10 - 1)), (0, .ref x0), (1, .int x1), (3, .int x3), (4, .int x4), (5, .int x5)]) X dd_Mo_step_64 (by decide) rfl ?_
  refine z_aload_n X dd_Mo_step_66 rfl 1 rfl ?_
  refine z_iload_n X dd_Mo_step_67 rfl 2 rfl ?_
  refine z_aload_n X dd_Mo_step_68 rfl 1 rfl ?_
  obtain ⟨v11, ev11, h⟩ := zb h
  refine z_get (j := 63) X dd_Mo_step_69 kc_12 ki_12 (by decide) km_1584 (zgr_v ev11) ?_
  refine z_iload X dd_Mo_step_72 0 rfl ?_
  obtain ⟨v12, ev12, h⟩ := zb h
  refine z_iaload X dd_Mo_step_74 rfl ev12 ?_
  refine z_iload_n X dd_Mo_step_75 rfl 3 rfl ?_
  obtain ⟨w14, ew14, h⟩ := zb h
  obtain ⟨q13, eq13, h⟩ := zb h
  refine z_callVv X [.int x1, .int v12, .int x3] rfl dd_Mo_step_76 (c_Mo_link l eq13) (cwV 3 X.1.2.2.2.2 (zg_V km_1984 km_1986 km_88 km_138 km_1987) rfl rfl rfl (by decide +kernel) ⟨Nat.le_of_ble_eq_true rfl, Nat.le_of_ble_eq_true rfl⟩) (zob_s ew14) kc_12 rfl (Nat.le_of_ble_eq_true rfl) ⟨Nat.le_of_ble_eq_true rfl, Nat.le_of_ble_eq_true rfl⟩ ?_
  refine z_aload_n X dd_Mo_step_79 rfl 1 rfl ?_
  obtain ⟨v15, ev15, h⟩ := zb h
  refine z_get (j := 62) X dd_Mo_step_80 kc_12 ki_12 (by decide) km_1583 (zgr_v ev15) ?_
  refine z_iload X dd_Mo_step_83 0 rfl ?_
  refine z_dup2_11 X dd_Mo_step_85 rfl rfl ?_
  obtain ⟨v16, ev16, h⟩ := zb h
  refine z_iaload X dd_Mo_step_86 rfl ev16 ?_
  refine z_aload_n X dd_Mo_step_87 rfl 1 rfl ?_
  obtain ⟨v17, ev17, h⟩ := zb h
  refine z_get (j := 61) X dd_Mo_step_88 kc_12 ki_12 (by decide) km_1582 (zgr_v ev17) ?_
  refine z_iload X dd_Mo_step_91 0 rfl ?_
  obtain ⟨v18, ev18, h⟩ := zb h
  refine z_zaload X dd_Mo_step_93 rfl ev18 ?_
  refine z_if_eq (tgt := 101) X dd_Mo_step_94 (by decide) (fun q19 => ?_) (fun q19 => ?_)
  · rw [if_pos q19] at h
    refine z_iconst (v := 0) X dd_Mo_step_101 (by decide) ?_
    refine z_sub [1, 4, 5, 0] rfl ?_
    exact t_Mo_step_102 X H h
  · rw [if_neg q19] at h
    refine z_iload_n X dd_Mo_step_97 rfl 3 rfl ?_
    refine z_goto (tgt := 102) X dd_Mo_step_98 (by decide) ?_
    refine z_sub [1, 4, 5, 0] rfl ?_
    exact t_Mo_step_102 X H h
set_option maxRecDepth 100000 in
set_option maxHeartbeats 4000000 in
theorem c_Mo_step (l : Launch) {nf : Nat} {a0 : Nat} {a1 : Int32} {a2 : Int32} {a3 : Int32} {a4 : Int32} {c : Zc} {res : Zc} (h : f_Mo_step nf a0 a1 a2 a3 a4 c = some res) : zM l yy_Mo_step ww_Mo_step 4 83 0 0 [.ref a0, .int a1, .int a2, .int a3, .int a4] c (fun D cid B => zQv D cid B res c.length 0) := by
  refine z_met (cc := bb_Mo_step) (maxL := 7) (ret := none) (by decide +kernel) rfl (Nat.le_of_ble_eq_true rfl) ?_
  intro p e s m args below meth cd D cid B X h1 h2 h3 h4
  have X : zX p s m args cd D cid B bb_Mo_step 7 rr_Mo zT := X
  have H : zH s meth B c.length none "step" := ⟨h1, h2, h4, h3⟩
  unfold f_Mo_step at h
  show Zz p l e (zRm 4 83 0 0) s m args below meth cd _ D cid B 7 0 0 c 0 [(0, .ref a0), (1, .int a1), (2, .int a2), (3, .int a3), (4, .int a4)] []
  refine z_iload_n X dd_Mo_step_0 rfl 2 rfl ?_
  refine z_istore (lv' := [(5, .int a2), (0, .ref a0), (1, .int a1), (2, .int a2), (3, .int a3), (4, .int a4)]) X dd_Mo_step_1 (by decide) rfl ?_
  refine z_aload_n X dd_Mo_step_3 rfl 1 rfl ?_
  refine z_bipush (v := 42) X dd_Mo_step_4 (by decide) ?_
  obtain ⟨w2, ew2, h⟩ := zb h
  obtain ⟨q1, eq1, h⟩ := zb h
  refine z_callVi X [.int 42] rfl dd_Mo_step_6 (c_Mo_takes l eq1) (cwV 1 X.1.2.2.2.2 (zg_V km_1908 km_1910 km_69 km_138 km_1911) rfl rfl rfl (by decide +kernel) ⟨Nat.le_of_ble_eq_true rfl, Nat.le_of_ble_eq_true rfl⟩) (zob_s ew2) kc_12 rfl (Nat.le_of_ble_eq_true rfl) ⟨Nat.le_of_ble_eq_true rfl, Nat.le_of_ble_eq_true rfl⟩ ?_
  refine z_if_eq (tgt := 26) X dd_Mo_step_9 (by decide) (fun q3 => ?_) (fun q3 => ?_)
  · rw [if_pos q3] at h
    refine z_aload_n X dd_Mo_step_26 rfl 1 rfl ?_
    refine z_bipush (v := 43) X dd_Mo_step_27 (by decide) ?_
    obtain ⟨w5, ew5, h⟩ := zb h
    obtain ⟨q4, eq4, h⟩ := zb h
    refine z_callVi X [.int 43] rfl dd_Mo_step_29 (c_Mo_takes l eq4) (cwV 1 X.1.2.2.2.2 (zg_V km_1908 km_1910 km_69 km_138 km_1911) rfl rfl rfl (by decide +kernel) ⟨Nat.le_of_ble_eq_true rfl, Nat.le_of_ble_eq_true rfl⟩) (zob_s ew5) kc_12 rfl (Nat.le_of_ble_eq_true rfl) ⟨Nat.le_of_ble_eq_true rfl, Nat.le_of_ble_eq_true rfl⟩ ?_
    refine z_if_eq (tgt := 46) X dd_Mo_step_32 (by decide) (fun q6 => ?_) (fun q6 => ?_)
    · rw [if_pos q6] at h
      refine z_aload_n X dd_Mo_step_46 rfl 1 rfl ?_
      refine z_bipush (v := 63) X dd_Mo_step_47 (by decide) ?_
      obtain ⟨w8, ew8, h⟩ := zb h
      obtain ⟨q7, eq7, h⟩ := zb h
      refine z_callVi X [.int 63] rfl dd_Mo_step_49 (c_Mo_takes l eq7) (cwV 1 X.1.2.2.2.2 (zg_V km_1908 km_1910 km_69 km_138 km_1911) rfl rfl rfl (by decide +kernel) ⟨Nat.le_of_ble_eq_true rfl, Nat.le_of_ble_eq_true rfl⟩) (zob_s ew8) kc_12 rfl (Nat.le_of_ble_eq_true rfl) ⟨Nat.le_of_ble_eq_true rfl, Nat.le_of_ble_eq_true rfl⟩ ?_
      refine z_if_eq (tgt := 58) X dd_Mo_step_52 (by decide) (fun q9 => ?_) (fun q9 => ?_)
      · rw [if_pos q9] at h
        refine z_sub [1, 2, 4, 5, 0] rfl ?_
        exact t_Mo_step_58 X H h
      · rw [if_neg q9] at h
        refine z_iconst (v := 1) X dd_Mo_step_55 (by decide) ?_
        refine z_istore (lv' := [(5, .int 1), (0, .ref a0), (1, .int a1), (2, .int a2), (3, .int a3), (4, .int a4)]) X dd_Mo_step_56 (by decide) rfl ?_
        refine z_sub [1, 2, 4, 5, 0] rfl ?_
        exact t_Mo_step_58 X H h
    · rw [if_neg q6] at h
      refine z_aload_n X dd_Mo_step_35 rfl 1 rfl ?_
      refine z_iload_n X dd_Mo_step_36 rfl 2 rfl ?_
      refine z_iload X dd_Mo_step_37 5 rfl ?_
      refine z_iload_n X dd_Mo_step_39 rfl 4 rfl ?_
      obtain ⟨w32, ew32, h⟩ := zb h
      obtain ⟨q31, eq31, h⟩ := zb h
      refine z_callVv X [.int a1, .int a4, .int a3] rfl dd_Mo_step_40 (c_Mo_link l eq31) (cwV 3 X.1.2.2.2.2 (zg_V km_1984 km_1986 km_88 km_138 km_1987) rfl rfl rfl (by decide +kernel) ⟨Nat.le_of_ble_eq_true rfl, Nat.le_of_ble_eq_true rfl⟩) (zob_s ew32) kc_12 rfl (Nat.le_of_ble_eq_true rfl) ⟨Nat.le_of_ble_eq_true rfl, Nat.le_of_ble_eq_true rfl⟩ ?_
      refine z_goto (tgt := 58) X dd_Mo_step_43 (by decide) ?_
      refine z_sub [1, 2, 4, 5, 0] rfl ?_
      exact t_Mo_step_58 X H h
  · rw [if_neg q3] at h
    refine z_aload_n X dd_Mo_step_12 rfl 1 rfl ?_
    refine z_iload_n X dd_Mo_step_13 rfl 2 rfl ?_
    refine z_iload X dd_Mo_step_14 5 rfl ?_
    refine z_iload_n X dd_Mo_step_16 rfl 4 rfl ?_
    obtain ⟨w34, ew34, h⟩ := zb h
    obtain ⟨q33, eq33, h⟩ := zb h
    refine z_callVv X [.int a1, .int a4, .int a3] rfl dd_Mo_step_17 (c_Mo_link l eq33) (cwV 3 X.1.2.2.2.2 (zg_V km_1984 km_1986 km_88 km_138 km_1987) rfl rfl rfl (by decide +kernel) ⟨Nat.le_of_ble_eq_true rfl, Nat.le_of_ble_eq_true rfl⟩) (zob_s ew34) kc_12 rfl (Nat.le_of_ble_eq_true rfl) ⟨Nat.le_of_ble_eq_true rfl, Nat.le_of_ble_eq_true rfl⟩ ?_
    refine z_iconst (v := 1) X dd_Mo_step_20 (by decide) ?_
    refine z_istore (lv' := [(5, .int 1), (0, .ref a0), (1, .int a1), (2, .int a2), (3, .int a3), (4, .int a4)]) X dd_Mo_step_21 (by decide) rfl ?_
    refine z_goto (tgt := 58) X dd_Mo_step_23 (by decide) ?_
    refine z_sub [1, 2, 4, 5, 0] rfl ?_
    exact t_Mo_step_58 X H h
end ZzM
