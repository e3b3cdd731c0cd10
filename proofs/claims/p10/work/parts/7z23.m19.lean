section ZzM
variable {p : Program} {l : Launch} {e : Env} {s : State} {m : MethodId} {args : Array Value} {below : List Frame} {meth : Method} {cd : Code} {Q : State → Prop} {D : va_G} {cid : Nat → ClassId} {B n0 : Nat}
theorem dd_Mo_code_0 : decode bb_Mo_code 0 = .ok (.aload_n 0, 1) := by decide +kernel
theorem dd_Mo_code_1 : decode bb_Mo_code 1 = .ok (.getfield 294, 3) := by decide +kernel
theorem dd_Mo_code_4 : decode bb_Mo_code 4 = .ok (.ifCond .ne 51, 3) := by decide +kernel
theorem dd_Mo_code_7 : decode bb_Mo_code 7 = .ok (.aload_n 0, 1) := by decide +kernel
theorem dd_Mo_code_8 : decode bb_Mo_code 8 = .ok (.getfield 137, 3) := by decide +kernel
theorem dd_Mo_code_11 : decode bb_Mo_code 11 = .ok (.sipush 512, 3) := by decide +kernel
theorem dd_Mo_code_14 : decode bb_Mo_code 14 = .ok (.aload_n 0, 1) := by decide +kernel
theorem dd_Mo_code_15 : decode bb_Mo_code 15 = .ok (.getfield 331, 3) := by decide +kernel
theorem dd_Mo_code_18 : decode bb_Mo_code 18 = .ok (.imul, 1) := by decide +kernel
theorem dd_Mo_code_19 : decode bb_Mo_code 19 = .ok (.aload_n 0, 1) := by decide +kernel
theorem dd_Mo_code_20 : decode bb_Mo_code 20 = .ok (.getfield 386, 3) := by decide +kernel
theorem dd_Mo_code_23 : decode bb_Mo_code 23 = .ok (.iadd, 1) := by decide +kernel
theorem dd_Mo_code_24 : decode bb_Mo_code 24 = .ok (.iload_n 1, 1) := by decide +kernel
theorem dd_Mo_code_25 : decode bb_Mo_code 25 = .ok (.iastore, 1) := by decide +kernel
theorem dd_Mo_code_26 : decode bb_Mo_code 26 = .ok (.aload_n 0, 1) := by decide +kernel
theorem dd_Mo_code_27 : decode bb_Mo_code 27 = .ok (.getfield 140, 3) := by decide +kernel
theorem dd_Mo_code_30 : decode bb_Mo_code 30 = .ok (.sipush 512, 3) := by decide +kernel
theorem dd_Mo_code_33 : decode bb_Mo_code 33 = .ok (.aload_n 0, 1) := by decide +kernel
theorem dd_Mo_code_34 : decode bb_Mo_code 34 = .ok (.getfield 331, 3) := by decide +kernel
theorem dd_Mo_code_37 : decode bb_Mo_code 37 = .ok (.imul, 1) := by decide +kernel
theorem dd_Mo_code_38 : decode bb_Mo_code 38 = .ok (.aload_n 0, 1) := by decide +kernel
theorem dd_Mo_code_39 : decode bb_Mo_code 39 = .ok (.getfield 386, 3) := by decide +kernel
theorem dd_Mo_code_42 : decode bb_Mo_code 42 = .ok (.iadd, 1) := by decide +kernel
theorem dd_Mo_code_43 : decode bb_Mo_code 43 = .ok (.iload_n 2, 1) := by decide +kernel
theorem dd_Mo_code_44 : decode bb_Mo_code 44 = .ok (.iastore, 1) := by decide +kernel
theorem dd_Mo_code_45 : decode bb_Mo_code 45 = .ok (.aload_n 0, 1) := by decide +kernel
theorem dd_Mo_code_46 : decode bb_Mo_code 46 = .ok (.dup, 1) := by decide +kernel
theorem dd_Mo_code_47 : decode bb_Mo_code 47 = .ok (.getfield 386, 3) := by decide +kernel
theorem dd_Mo_code_50 : decode bb_Mo_code 50 = .ok (.iconst 1, 1) := by decide +kernel
theorem dd_Mo_code_51 : decode bb_Mo_code 51 = .ok (.iadd, 1) := by decide +kernel
theorem dd_Mo_code_52 : decode bb_Mo_code 52 = .ok (.putfield 386, 3) := by decide +kernel
theorem dd_Mo_code_55 : decode bb_Mo_code 55 = .ok (.return_, 1) := by decide +kernel
set_option maxRecDepth 100000 in
set_option maxHeartbeats 4000000 in
theorem t_Mo_code_55  (X : zX p s m args cd D cid B bb_Mo_code 3 rr_Mo zT) (H : zH s meth B n0 none "code") {nf : Nat}  {c : Zc} {res : Zc} (h : f_Mo_code_55 nf  c = some res) : Zz p l e (zRm 0 0 0 0) s m args below meth cd (MQ below (zQv D cid B res n0 0) args s 0 0 (fun q => B ≤ q)) D cid B 3 0 0 c 55 [] [] := by
  unfold f_Mo_code_55 at h
  obtain rfl := Option.some.inj h
  exact z_vret X H.1 H.2.1 H.2.2.1 dd_Mo_code_55
set_option maxRecDepth 100000 in
set_option maxHeartbeats 4000000 in
theorem c_Mo_code (l : Launch) {nf : Nat} {a0 : Nat} {a1 : Int32} {a2 : Int32} {c : Zc} {res : Zc} (h : f_Mo_code nf a0 a1 a2 c = some res) : zM l yy_Mo_code ww_Mo_code 0 0 0 0 [.ref a0, .int a1, .int a2] c (fun D cid B => zQv D cid B res c.length 0) := by
  refine z_met (cc := bb_Mo_code) (maxL := 3) (ret := none) (by decide +kernel) rfl (Nat.le_of_ble_eq_true rfl) ?_
  intro p e s m args below meth cd D cid B X h1 h2 h3 h4
  have X : zX p s m args cd D cid B bb_Mo_code 3 rr_Mo zT := X
  have H : zH s meth B c.length none "code" := ⟨h1, h2, h4, h3⟩
  unfold f_Mo_code at h
  show Zz p l e (zRm 0 0 0 0) s m args below meth cd _ D cid B 3 0 0 c 0 [(0, .ref a0), (1, .int a1), (2, .int a2)] []
  refine z_aload_n X dd_Mo_code_0 rfl 0 rfl ?_
  obtain ⟨v1, ev1, h⟩ := zb h
  refine z_get (j := 19) X dd_Mo_code_1 kc_12 ki_12 (by decide) km_1540 (zgi_v ev1) ?_
  refine z_if_ne (tgt := 55) X dd_Mo_code_4 (by decide) (fun q2 => ?_) (fun q2 => ?_)
  · rw [if_neg q2] at h
    refine z_sub [] rfl ?_
    exact t_Mo_code_55 X H h
  · rw [if_pos q2] at h
    refine z_aload_n X dd_Mo_code_7 rfl 0 rfl ?_
    obtain ⟨v3, ev3, h⟩ := zb h
    refine z_get (j := 50) X dd_Mo_code_8 kc_12 ki_12 (by decide) km_1571 (zgr_v ev3) ?_
    refine z_sipush (v := 512) X dd_Mo_code_11 (by decide) ?_
    refine z_aload_n X dd_Mo_code_14 rfl 0 rfl ?_
    obtain ⟨v4, ev4, h⟩ := zb h
    refine z_get (j := 25) X dd_Mo_code_15 kc_12 ki_12 (by decide) km_1546 (zgi_v ev4) ?_
    refine z_imul X dd_Mo_code_18 ?_
    refine z_aload_n X dd_Mo_code_19 rfl 0 rfl ?_
    obtain ⟨v5, ev5, h⟩ := zb h
    refine z_get (j := 52) X dd_Mo_code_20 kc_12 ki_12 (by decide) km_1573 (zgi_v ev5) ?_
    refine z_iadd X dd_Mo_code_23 ?_
    refine z_iload_n X dd_Mo_code_24 rfl 1 rfl ?_
    obtain ⟨c6, ec6, h⟩ := zb h
    refine z_iastore X dd_Mo_code_25 rfl ec6 ?_
    refine z_aload_n X dd_Mo_code_26 rfl 0 rfl ?_
    obtain ⟨v7, ev7, h⟩ := zb h
    refine z_get (j := 51) X dd_Mo_code_27 kc_12 ki_12 (by decide) km_1572 (zgr_v ev7) ?_
    refine z_sipush (v := 512) X dd_Mo_code_30 (by decide) ?_
    refine z_aload_n X dd_Mo_code_33 rfl 0 rfl ?_
    obtain ⟨v8, ev8, h⟩ := zb h
    refine z_get (j := 25) X dd_Mo_code_34 kc_12 ki_12 (by decide) km_1546 (zgi_v ev8) ?_
    refine z_imul X dd_Mo_code_37 ?_
    refine z_aload_n X dd_Mo_code_38 rfl 0 rfl ?_
    obtain ⟨v9, ev9, h⟩ := zb h
    refine z_get (j := 52) X dd_Mo_code_39 kc_12 ki_12 (by decide) km_1573 (zgi_v ev9) ?_
    refine z_iadd X dd_Mo_code_42 ?_
    refine z_iload_n X dd_Mo_code_43 rfl 2 rfl ?_
    obtain ⟨c10, ec10, h⟩ := zb h
    refine z_iastore X dd_Mo_code_44 rfl ec10 ?_
    refine z_aload_n X dd_Mo_code_45 rfl 0 rfl ?_
    refine z_dup X dd_Mo_code_46 rfl ?_
    obtain ⟨v11, ev11, h⟩ := zb h
    refine z_get (j := 52) X dd_Mo_code_47 kc_12 ki_12 (by decide) km_1573 (zgi_v ev11) ?_
    refine z_iconst (v := 1) X dd_Mo_code_50 (by decide) ?_
    refine z_iadd X dd_Mo_code_51 ?_
    obtain ⟨c12, ec12, h⟩ := zb h
    refine z_put (j := 52) X dd_Mo_code_52 kc_12 ki_12 tt_Mo tk_Mo nn_Mo (by decide) km_1573 rfl (tk_Mo 52 (by decide)) rfl rfl ec12 ?_
    refine z_sub [] rfl ?_
    exact t_Mo_code_55 X H h
theorem dd_Mo_frame_0 : decode bb_Mo_frame 0 = .ok (.aload_n 0, 1) := by decide +kernel
theorem dd_Mo_frame_1 : decode bb_Mo_frame 1 = .ok (.getfield 170, 3) := by decide +kernel
theorem dd_Mo_frame_4 : decode bb_Mo_frame 4 = .ok (.aload_n 0, 1) := by decide +kernel
theorem dd_Mo_frame_5 : decode bb_Mo_frame 5 = .ok (.getfield 389, 3) := by decide +kernel
theorem dd_Mo_frame_8 : decode bb_Mo_frame 8 = .ok (.iload_n 1, 1) := by decide +kernel
theorem dd_Mo_frame_9 : decode bb_Mo_frame 9 = .ok (.iastore, 1) := by decide +kernel
theorem dd_Mo_frame_10 : decode bb_Mo_frame 10 = .ok (.aload_n 0, 1) := by decide +kernel
theorem dd_Mo_frame_11 : decode bb_Mo_frame 11 = .ok (.getfield 173, 3) := by decide +kernel
theorem dd_Mo_frame_14 : decode bb_Mo_frame 14 = .ok (.aload_n 0, 1) := by decide +kernel
theorem dd_Mo_frame_15 : decode bb_Mo_frame 15 = .ok (.getfield 389, 3) := by decide +kernel
theorem dd_Mo_frame_18 : decode bb_Mo_frame 18 = .ok (.iconst 0, 1) := by decide +kernel
theorem dd_Mo_frame_19 : decode bb_Mo_frame 19 = .ok (.iastore, 1) := by decide +kernel
theorem dd_Mo_frame_20 : decode bb_Mo_frame 20 = .ok (.aload_n 0, 1) := by decide +kernel
theorem dd_Mo_frame_21 : decode bb_Mo_frame 21 = .ok (.getfield 176, 3) := by decide +kernel
theorem dd_Mo_frame_24 : decode bb_Mo_frame 24 = .ok (.aload_n 0, 1) := by decide +kernel
theorem dd_Mo_frame_25 : decode bb_Mo_frame 25 = .ok (.getfield 389, 3) := by decide +kernel
theorem dd_Mo_frame_28 : decode bb_Mo_frame 28 = .ok (.iconst 0, 1) := by decide +kernel
theorem dd_Mo_frame_29 : decode bb_Mo_frame 29 = .ok (.iastore, 1) := by decide +kernel
theorem dd_Mo_frame_30 : decode bb_Mo_frame 30 = .ok (.aload_n 0, 1) := by decide +kernel
theorem dd_Mo_frame_31 : decode bb_Mo_frame 31 = .ok (.dup, 1) := by decide +kernel
theorem dd_Mo_frame_32 : decode bb_Mo_frame 32 = .ok (.getfield 389, 3) := by decide +kernel
theorem dd_Mo_frame_35 : decode bb_Mo_frame 35 = .ok (.iconst 1, 1) := by decide +kernel
theorem dd_Mo_frame_36 : decode bb_Mo_frame 36 = .ok (.iadd, 1) := by decide +kernel
theorem dd_Mo_frame_37 : decode bb_Mo_frame 37 = .ok (.putfield 389, 3) := by decide +kernel
theorem dd_Mo_frame_40 : decode bb_Mo_frame 40 = .ok (.return_, 1) := by decide +kernel
set_option maxRecDepth 100000 in
set_option maxHeartbeats 4000000 in
theorem c_Mo_frame (l : Launch) {nf : Nat} {a0 : Nat} {a1 : Int32} {c : Zc} {res : Zc} (h : f_Mo_frame nf a0 a1 c = some res) : zM l yy_Mo_frame ww_Mo_frame 0 0 0 0 [.ref a0, .int a1] c (fun D cid B => zQv D cid B res c.length 0) := by
  refine z_met (cc := bb_Mo_frame) (maxL := 2) (ret := none) (by decide +kernel) rfl (Nat.le_of_ble_eq_true rfl) ?_
  intro p e s m args below meth cd D cid B X h1 h2 h3 h4
  have X : zX p s m args cd D cid B bb_Mo_frame 2 rr_Mo zT := X
  have H : zH s meth B c.length none "frame" := ⟨h1, h2, h4, h3⟩
  unfold f_Mo_frame at h
  show Zz p l e (zRm 0 0 0 0) s m args below meth cd _ D cid B 2 0 0 c 0 [(0, .ref a0), (1, .int a1)] []
  refine z_aload_n X dd_Mo_frame_0 rfl 0 rfl ?_
  obtain ⟨v1, ev1, h⟩ := zb h
  refine z_get (j := 66) X dd_Mo_frame_1 kc_12 ki_12 (by decide) km_1587 (zgr_v ev1) ?_
  refine z_aload_n X dd_Mo_frame_4 rfl 0 rfl ?_
  obtain ⟨v2, ev2, h⟩ := zb h
  refine z_get (j := 69) X dd_Mo_frame_5 kc_12 ki_12 (by decide) km_1590 (zgi_v ev2) ?_
  refine z_iload_n X dd_Mo_frame_8 rfl 1 rfl ?_
  obtain ⟨c3, ec3, h⟩ := zb h
  refine z_iastore X dd_Mo_frame_9 rfl ec3 ?_
  refine z_aload_n X dd_Mo_frame_10 rfl 0 rfl ?_
  obtain ⟨v4, ev4, h⟩ := zb h
  refine z_get (j := 67) X dd_Mo_frame_11 kc_12 ki_12 (by decide) km_1588 (zgr_v ev4) ?_
  refine z_aload_n X dd_Mo_frame_14 rfl 0 rfl ?_
  obtain ⟨v5, ev5, h⟩ := zb h
  refine z_get (j := 69) X dd_Mo_frame_15 kc_12 ki_12 (by decide) km_1590 (zgi_v ev5) ?_
  refine z_iconst (v := 0) X dd_Mo_frame_18 (by decide) ?_
  obtain ⟨c6, ec6, h⟩ := zb h
  refine z_iastore X dd_Mo_frame_19 rfl ec6 ?_
  refine z_aload_n X dd_Mo_frame_20 rfl 0 rfl ?_
  obtain ⟨v7, ev7, h⟩ := zb h
  refine z_get (j := 68) X dd_Mo_frame_21 kc_12 ki_12 (by decide) km_1589 (zgr_v ev7) ?_
  refine z_aload_n X dd_Mo_frame_24 rfl 0 rfl ?_
  obtain ⟨v8, ev8, h⟩ := zb h
  refine z_get (j := 69) X dd_Mo_frame_25 kc_12 ki_12 (by decide) km_1590 (zgi_v ev8) ?_
  refine z_iconst (v := 0) X dd_Mo_frame_28 (by decide) ?_
  obtain ⟨c9, ec9, h⟩ := zb h
  refine z_iastore X dd_Mo_frame_29 rfl ec9 ?_
  refine z_aload_n X dd_Mo_frame_30 rfl 0 rfl ?_
  refine z_dup X dd_Mo_frame_31 rfl ?_
  obtain ⟨v10, ev10, h⟩ := zb h
  refine z_get (j := 69) X dd_Mo_frame_32 kc_12 ki_12 (by decide) km_1590 (zgi_v ev10) ?_
  refine z_iconst (v := 1) X dd_Mo_frame_35 (by decide) ?_
  refine z_iadd X dd_Mo_frame_36 ?_
  obtain ⟨c11, ec11, h⟩ := zb h
  refine z_put (j := 69) X dd_Mo_frame_37 kc_12 ki_12 tt_Mo tk_Mo nn_Mo (by decide) km_1590 rfl (tk_Mo 69 (by decide)) rfl rfl ec11 ?_
  obtain rfl := Option.some.inj h
  exact z_vret X H.1 H.2.1 H.2.2.1 dd_Mo_frame_40
theorem dd_Mo_joined_0 : decode bb_Mo_joined 0 = .ok (.aload_n 0, 1) := by decide +kernel
theorem dd_Mo_joined_1 : decode bb_Mo_joined 1 = .ok (.getfield 173, 3) := by decide +kernel
theorem dd_Mo_joined_4 : decode bb_Mo_joined 4 = .ok (.iload_n 1, 1) := by decide +kernel
theorem dd_Mo_joined_5 : decode bb_Mo_joined 5 = .ok (.iaload, 1) := by decide +kernel
theorem dd_Mo_joined_6 : decode bb_Mo_joined 6 = .ok (.iconst 2, 1) := by decide +kernel
theorem dd_Mo_joined_7 : decode bb_Mo_joined 7 = .ok (.if_icmp .ne 10, 3) := by decide +kernel
theorem dd_Mo_joined_10 : decode bb_Mo_joined 10 = .ok (.aload_n 0, 1) := by decide +kernel
theorem dd_Mo_joined_11 : decode bb_Mo_joined 11 = .ok (.iload 4, 2) := by decide +kernel
theorem dd_Mo_joined_13 : decode bb_Mo_joined 13 = .ok (.iconst 0, 1) := by decide +kernel
theorem dd_Mo_joined_14 : decode bb_Mo_joined 14 = .ok (.invokevirtual 408, 3) := by decide +kernel
theorem dd_Mo_joined_17 : decode bb_Mo_joined 17 = .ok (.aload_n 0, 1) := by decide +kernel
theorem dd_Mo_joined_18 : decode bb_Mo_joined 18 = .ok (.getfield 173, 3) := by decide +kernel
theorem dd_Mo_joined_21 : decode bb_Mo_joined 21 = .ok (.iload_n 1, 1) := by decide +kernel
theorem dd_Mo_joined_22 : decode bb_Mo_joined 22 = .ok (.iaload, 1) := by decide +kernel
theorem dd_Mo_joined_23 : decode bb_Mo_joined 23 = .ok (.ifCond .eq 11, 3) := by decide +kernel
theorem dd_Mo_joined_26 : decode bb_Mo_joined 26 = .ok (.aload_n 0, 1) := by decide +kernel
theorem dd_Mo_joined_27 : decode bb_Mo_joined 27 = .ok (.iload_n 3, 1) := by decide +kernel
theorem dd_Mo_joined_28 : decode bb_Mo_joined 28 = .ok (.invokevirtual 316, 3) := by decide +kernel
theorem dd_Mo_joined_31 : decode bb_Mo_joined 31 = .ok (.ifCond .eq 47, 3) := by decide +kernel
theorem dd_Mo_joined_34 : decode bb_Mo_joined 34 = .ok (.aload_n 0, 1) := by decide +kernel
theorem dd_Mo_joined_35 : decode bb_Mo_joined 35 = .ok (.getfield 173, 3) := by decide +kernel
theorem dd_Mo_joined_38 : decode bb_Mo_joined 38 = .ok (.iload_n 1, 1) := by decide +kernel
theorem dd_Mo_joined_39 : decode bb_Mo_joined 39 = .ok (.dup2, 1) := by decide +kernel
theorem dd_Mo_joined_40 : decode bb_Mo_joined 40 = .ok (.iaload, 1) := by decide +kernel
theorem dd_Mo_joined_41 : decode bb_Mo_joined 41 = .ok (.iconst 1, 1) := by decide +kernel
theorem dd_Mo_joined_42 : decode bb_Mo_joined 42 = .ok (.iadd, 1) := by decide +kernel
theorem dd_Mo_joined_43 : decode bb_Mo_joined 43 = .ok (.iastore, 1) := by decide +kernel
theorem dd_Mo_joined_44 : decode bb_Mo_joined 44 = .ok (.aload_n 0, 1) := by decide +kernel
theorem dd_Mo_joined_45 : decode bb_Mo_joined 45 = .ok (.getfield 173, 3) := by decide +kernel
theorem dd_Mo_joined_48 : decode bb_Mo_joined 48 = .ok (.iload_n 1, 1) := by decide +kernel
theorem dd_Mo_joined_49 : decode bb_Mo_joined 49 = .ok (.aload_n 0, 1) := by decide +kernel
theorem dd_Mo_joined_50 : decode bb_Mo_joined 50 = .ok (.getfield 173, 3) := by decide +kernel
theorem dd_Mo_joined_53 : decode bb_Mo_joined 53 = .ok (.iload_n 1, 1) := by decide +kernel
theorem dd_Mo_joined_54 : decode bb_Mo_joined 54 = .ok (.iaload, 1) := by decide +kernel
theorem dd_Mo_joined_55 : decode bb_Mo_joined 55 = .ok (.iconst 2, 1) := by decide +kernel
theorem dd_Mo_joined_56 : decode bb_Mo_joined 56 = .ok (.if_icmp .le 7, 3) := by decide +kernel
theorem dd_Mo_joined_59 : decode bb_Mo_joined 59 = .ok (.iconst 2, 1) := by decide +kernel
theorem dd_Mo_joined_60 : decode bb_Mo_joined 60 = .ok (.goto 9, 3) := by decide +kernel
theorem dd_Mo_joined_63 : decode bb_Mo_joined 63 = .ok (.aload_n 0, 1) := by decide +kernel
theorem dd_Mo_joined_64 : decode bb_Mo_joined 64 = .ok (.getfield 173, 3) := by decide +kernel
theorem dd_Mo_joined_67 : decode bb_Mo_joined 67 = .ok (.iload_n 1, 1) := by decide +kernel
theorem dd_Mo_joined_68 : decode bb_Mo_joined 68 = .ok (.iaload, 1) := by decide +kernel
theorem dd_Mo_joined_69 : decode bb_Mo_joined 69 = .ok (.iastore, 1) := by decide +kernel
theorem dd_Mo_joined_70 : decode bb_Mo_joined 70 = .ok (.aload_n 0, 1) := by decide +kernel
theorem dd_Mo_joined_71 : decode bb_Mo_joined 71 = .ok (.iload_n 2, 1) := by decide +kernel
theorem dd_Mo_joined_72 : decode bb_Mo_joined 72 = .ok (.invokevirtual 392, 3) := by decide +kernel
theorem dd_Mo_joined_75 : decode bb_Mo_joined 75 = .ok (.goto 13, 3) := by decide +kernel
theorem dd_Mo_joined_78 : decode bb_Mo_joined 78 = .ok (.aload_n 0, 1) := by decide +kernel
theorem dd_Mo_joined_79 : decode bb_Mo_joined 79 = .ok (.dup, 1) := by decide +kernel
theorem dd_Mo_joined_80 : decode bb_Mo_joined 80 = .ok (.getfield 389, 3) := by decide +kernel
theorem dd_Mo_joined_83 : decode bb_Mo_joined 83 = .ok (.iconst 1, 1) := by decide +kernel
theorem dd_Mo_joined_84 : decode bb_Mo_joined 84 = .ok (.isub, 1) := by decide +kernel
theorem dd_Mo_joined_85 : decode bb_Mo_joined 85 = .ok (.putfield 389, 3) := by decide +kernel
theorem dd_Mo_joined_88 : decode bb_Mo_joined 88 = .ok (.return_, 1) := by decide +kernel
set_option maxRecDepth 100000 in
set_option maxHeartbeats 4000000 in
theorem t_Mo_joined_88  (X : zX p s m args cd D cid B bb_Mo_joined 5 rr_Mo zT) (H : zH s meth B n0 none "joined") {nf : Nat}  {c : Zc} {res : Zc} (h : f_Mo_joined_88 nf  c = some res) : Zz p l e (zRm 4 83 0 0) s m args below meth cd (MQ below (zQv D cid B res n0 0) args s 0 0 (fun q => B ≤ q)) D cid B 5 0 0 c 88 [] [] := by
  unfold f_Mo_joined_88 at h
  obtain rfl := Option.some.inj h
  exact z_vret X H.1 H.2.1 H.2.2.1 dd_Mo_joined_88
set_option maxRecDepth 100000 in
set_option maxHeartbeats 4000000 in
theorem t_Mo_joined_69  (X : zX p s m args cd D cid B bb_Mo_joined 5 rr_Mo zT) (H : zH s meth B n0 none "joined") {nf : Nat} {x0 : Nat} {x2 : Int32} {s0 : Nat} {s1 : Int32} {s2 : Int32} {c : Zc} {res : Zc} (h : f_Mo_joined_69 nf x0 x2 s0 s1 s2 c = some res) : Zz p l e (zRm 4 83 0 0) s m args below meth cd (MQ below (zQv D cid B res n0 0) args s 0 0 (fun q => B ≤ q)) D cid B 5 0 0 c 69 [(0, .ref x0), (2, .int x2)] [.int s2, .int s1, .ref s0] := by
  unfold f_Mo_joined_69 at h
  obtain ⟨c16, ec16, h⟩ := zb h
  refine z_iastore X dd_Mo_joined_69 rfl ec16 ?_
  refine z_aload_n X dd_Mo_joined_70 rfl 0 rfl ?_
  refine z_iload_n X dd_Mo_joined_71 rfl 1 rfl ?_
  obtain ⟨w18, ew18, h⟩ := zb h
  obtain ⟨q17, eq17, h⟩ := zb h
  refine z_callVv X [.int x2] rfl dd_Mo_joined_72 (c_Mo_frame l eq17) (cwV 1 X.1.2.2.2.2 (zg_V km_1996 km_1998 km_91 km_138 km_1999) rfl rfl rfl (by decide +kernel) ⟨Nat.le_of_ble_eq_true rfl, Nat.le_of_ble_eq_true rfl⟩) (zob_s ew18) kc_12 rfl (Nat.le_of_ble_eq_true rfl) ⟨Nat.le_of_ble_eq_true rfl, Nat.le_of_ble_eq_true rfl⟩ ?_
  refine z_goto (tgt := 88) X dd_Mo_joined_75 (by decide) ?_
  refine z_sub [] rfl ?_
  exact t_Mo_joined_88 X H h
set_option maxRecDepth 100000 in
set_option maxHeartbeats 4000000 in
theorem t_Mo_joined_34  (X : zX p s m args cd D cid B bb_Mo_joined 5 rr_Mo zT) (H : zH s meth B n0 none "joined") {nf : Nat} {x0 : Nat} {x1 : Int32} {x2 : Int32} {c : Zc} {res : Zc} (h : f_Mo_joined_34 nf x0 x1 x2 c = some res) : Zz p l e (zRm 4 83 0 0) s m args below meth cd (MQ below (zQv D cid B res n0 0) args s 0 0 (fun q => B ≤ q)) D cid B 5 0 0 c 34 [(0, .ref x0), (1, .int x1), (2, .int x2)] [] := by
  unfold f_Mo_joined_34 at h
  refine z_aload_n X dd_Mo_joined_34 rfl 0 rfl ?_
  obtain ⟨v7, ev7, h⟩ := zb h
  refine z_get (j := 67) X dd_Mo_joined_35 kc_12 ki_12 (by decide) km_1588 (zgr_v ev7) ?_
  refine z_iload_n X dd_Mo_joined_38 rfl 1 rfl ?_
  refine z_dup2_11 X dd_Mo_joined_39 rfl rfl ?_
  obtain ⟨v8, ev8, h⟩ := zb h
  refine z_iaload X dd_Mo_joined_40 rfl ev8 ?_
  refine z_iconst (v := 1) X dd_Mo_joined_41 (by decide) ?_
  refine z_iadd X dd_Mo_joined_42 ?_
  obtain ⟨c9, ec9, h⟩ := zb h
  refine z_iastore X dd_Mo_joined_43 rfl ec9 ?_
  refine z_aload_n X dd_Mo_joined_44 rfl 0 rfl ?_
  obtain ⟨v10, ev10, h⟩ := zb h
  refine z_get (j := 67) X dd_Mo_joined_45 kc_12 ki_12 (by decide) km_1588 (zgr_v ev10) ?_
  refine z_iload_n X dd_Mo_joined_48 rfl 1 rfl ?_
  refine z_aload_n X dd_Mo_joined_49 rfl 0 rfl ?_
  obtain ⟨v11, ev11, h⟩ := zb h
  refine z_get (j := 67) X dd_Mo_joined_50 kc_12 ki_12 (by decide) km_1588 (zgr_v ev11) ?_
  refine z_iload_n X dd_Mo_joined_53 rfl 1 rfl ?_
  obtain ⟨v12, ev12, h⟩ := zb h
  refine z_iaload X dd_Mo_joined_54 rfl ev12 ?_
  refine z_iconst (v := 2) X dd_Mo_joined_55 (by decide) ?_
  refine z_icmp_le (tgt := 63) X dd_Mo_joined_56 (by decide) (fun q13 => ?_) (fun q13 => ?_)
  · rw [if_pos q13] at h
    refine z_aload_n X dd_Mo_joined_63 rfl 0 rfl ?_
    obtain ⟨v14, ev14, h⟩ := zb h
    refine z_get (j := 67) X dd_Mo_joined_64 kc_12 ki_12 (by decide) km_1588 (zgr_v ev14) ?_
    refine z_iload_n X dd_Mo_joined_67 rfl 1 rfl ?_
    obtain ⟨v15, ev15, h⟩ := zb h
    refine z_iaload X dd_Mo_joined_68 rfl ev15 ?_
    refine z_sub [0, 2] rfl ?_
    exact t_Mo_joined_69 X H h
  · rw [if_neg q13] at h
    refine z_iconst (v := 2) X dd_Mo_joined_59 (by decide) ?_
    refine z_goto (tgt := 69) X dd_Mo_joined_60 (by decide) ?_
    refine z_sub [0, 2] rfl ?_
    exact t_Mo_joined_69 X H h
set_option maxRecDepth 100000 in
set_option maxHeartbeats 4000000 in
theorem t_Mo_joined_17  (X : zX p s m args cd D cid B bb_Mo_joined 5 rr_Mo zT) (H : zH s meth B n0 none "joined") {nf : Nat} {x0 : Nat} {x1 : Int32} {x2 : Int32} {x3 : Int32} {c : Zc} {res : Zc} (h : f_Mo_joined_17 nf x0 x1 x2 x3 c = some res) : Zz p l e (zRm 4 83 0 0) s m args below meth cd (MQ below (zQv D cid B res n0 0) args s 0 0 (fun q => B ≤ q)) D cid B 5 0 0 c 17 [(0, .ref x0), (1, .int x1), (2, .int x2), (3, .int x3)] [] := by
  unfold f_Mo_joined_17 at h
  refine z_aload_n X dd_Mo_joined_17 rfl 0 rfl ?_
  obtain ⟨v4, ev4, h⟩ := zb h
  refine z_get (j := 67) X dd_Mo_joined_18 kc_12 ki_12 (by decide) km_1588 (zgr_v ev4) ?_
  refine z_iload_n X dd_Mo_joined_21 rfl 1 rfl ?_
  obtain ⟨v5, ev5, h⟩ := zb h
  refine z_iaload X dd_Mo_joined_22 rfl ev5 ?_
  refine z_if_eq (tgt := 34) X dd_Mo_joined_23 (by decide) (fun q6 => ?_) (fun q6 => ?_)
  · rw [if_pos q6] at h
    refine z_sub [0, 1, 2] rfl ?_
    exact t_Mo_joined_34 X H h
  · rw [if_neg q6] at h
    refine z_aload_n X dd_Mo_joined_26 rfl 0 rfl ?_
    refine z_iload_n X dd_Mo_joined_27 rfl 3 rfl ?_
    obtain ⟨w20, ew20, h⟩ := zb h
    obtain ⟨q19, eq19, h⟩ := zb h
    refine z_callVi X [.int x3] rfl dd_Mo_joined_28 (c_Mo_takes l eq19) (cwV 1 X.1.2.2.2.2 (zg_V km_1908 km_1910 km_69 km_138 km_1911) rfl rfl rfl (by decide +kernel) ⟨Nat.le_of_ble_eq_true rfl, Nat.le_of_ble_eq_true rfl⟩) (zob_s ew20) kc_12 rfl (Nat.le_of_ble_eq_true rfl) ⟨Nat.le_of_ble_eq_true rfl, Nat.le_of_ble_eq_true rfl⟩ ?_
    refine z_if_eq (tgt := 78) X dd_Mo_joined_31 (by decide) (fun q21 => ?_) (fun q21 => ?_)
    · rw [if_pos q21] at h
      refine z_aload_n X dd_Mo_joined_78 rfl 0 rfl ?_
      refine z_dup X dd_Mo_joined_79 rfl ?_
      obtain ⟨v22, ev22, h⟩ := zb h
      refine z_get (j := 69) X dd_Mo_joined_80 kc_12 ki_12 (by decide) km_1590 (zgi_v ev22) ?_
      refine z_iconst (v := 1) X dd_Mo_joined_83 (by decide) ?_
      refine z_isub X dd_Mo_joined_84 ?_
      obtain ⟨c23, ec23, h⟩ := zb h
      refine z_put (j := 69) X dd_Mo_joined_85 kc_12 ki_12 tt_Mo tk_Mo nn_Mo (by decide) km_1590 rfl (tk_Mo 69 (by decide)) rfl rfl ec23 ?_
      refine z_sub [] rfl ?_
      exact t_Mo_joined_88 X H h
    · rw [if_neg q21] at h
      refine z_sub [0, 1, 2] rfl ?_
      exact t_Mo_joined_34 X H h
set_option maxRecDepth 100000 in
set_option maxHeartbeats 4000000 in
theorem c_Mo_joined (l : Launch) {nf : Nat} {a0 : Nat} {a1 : Int32} {a2 : Int32} {a3 : Int32} {a4 : Int32} {c : Zc} {res : Zc} (h : f_Mo_joined nf a0 a1 a2 a3 a4 c = some res) : zM l yy_Mo_joined ww_Mo_joined 4 83 0 0 [.ref a0, .int a1, .int a2, .int a3, .int a4] c (fun D cid B => zQv D cid B res c.length 0) := by
  refine z_met (cc := bb_Mo_joined) (maxL := 5) (ret := none) (by decide +kernel) rfl (Nat.le_of_ble_eq_true rfl) ?_
  intro p e s m args below meth cd D cid B X h1 h2 h3 h4
  have X : zX p s m args cd D cid B bb_Mo_joined 5 rr_Mo zT := X
  have H : zH s meth B c.length none "joined" := ⟨h1, h2, h4, h3⟩
  unfold f_Mo_joined at h
  show Zz p l e (zRm 4 83 0 0) s m args below meth cd _ D cid B 5 0 0 c 0 [(0, .ref a0), (1, .int a1), (2, .int a2), (3, .int a3), (4, .int a4)] []
  refine z_aload_n X dd_Mo_joined_0 rfl 0 rfl ?_
  obtain ⟨v1, ev1, h⟩ := zb h
  refine z_get (j := 67) X dd_Mo_joined_1 kc_12 ki_12 (by decide) km_1588 (zgr_v ev1) ?_
  refine z_iload_n X dd_Mo_joined_4 rfl 1 rfl ?_
  obtain ⟨v2, ev2, h⟩ := zb h
  refine z_iaload X dd_Mo_joined_5 rfl ev2 ?_
  refine z_iconst (v := 2) X dd_Mo_joined_6 (by decide) ?_
  refine z_icmp_ne (tgt := 17) X dd_Mo_joined_7 (by decide) (fun q3 => ?_) (fun q3 => ?_)
  · rw [if_neg q3] at h
    refine z_sub [0, 1, 2, 3] rfl ?_
    exact t_Mo_joined_17 X H h
  · rw [if_pos q3] at h
    refine z_aload_n X dd_Mo_joined_10 rfl 0 rfl ?_
    refine z_iload X dd_Mo_joined_11 4 rfl ?_
    refine z_iconst (v := 0) X dd_Mo_joined_13 (by decide) ?_
    obtain ⟨w25, ew25, h⟩ := zb h
    obtain ⟨q24, eq24, h⟩ := zb h
    refine z_callVv X [.int a4, .int 0] rfl dd_Mo_joined_14 (c_Mo_code l eq24) (cwV 2 X.1.2.2.2.2 (zg_V km_2004 km_2006 km_93 km_138 km_2007) rfl rfl rfl (by decide +kernel) ⟨Nat.le_of_ble_eq_true rfl, Nat.le_of_ble_eq_true rfl⟩) (zob_s ew25) kc_12 rfl (Nat.le_of_ble_eq_true rfl) ⟨Nat.le_of_ble_eq_true rfl, Nat.le_of_ble_eq_true rfl⟩ ?_
    refine z_sub [0, 1, 2, 3] rfl ?_
    exact t_Mo_joined_17 X H h
theorem dd_Mo_without_0 : decode bb_Mo_without 0 = .ok (.aload_n 0, 1) := by decide +kernel
theorem dd_Mo_without_1 : decode bb_Mo_without 1 = .ok (.getfield 71, 3) := by decide +kernel
theorem dd_Mo_without_4 : decode bb_Mo_without 4 = .ok (.aload_n 0, 1) := by decide +kernel
theorem dd_Mo_without_5 : decode bb_Mo_without 5 = .ok (.getfield 331, 3) := by decide +kernel
theorem dd_Mo_without_8 : decode bb_Mo_without 8 = .ok (.dup2, 1) := by decide +kernel
theorem dd_Mo_without_9 : decode bb_Mo_without 9 = .ok (.iaload, 1) := by decide +kernel
theorem dd_Mo_without_10 : decode bb_Mo_without 10 = .ok (.iconst 1, 1) := by decide +kernel
theorem dd_Mo_without_11 : decode bb_Mo_without 11 = .ok (.iadd, 1) := by decide +kernel
theorem dd_Mo_without_12 : decode bb_Mo_without 12 = .ok (.iastore, 1) := by decide +kernel
theorem dd_Mo_without_13 : decode bb_Mo_without 13 = .ok (.aload_n 0, 1) := by decide +kernel
theorem dd_Mo_without_14 : decode bb_Mo_without 14 = .ok (.aload_n 0, 1) := by decide +kernel
theorem dd_Mo_without_15 : decode bb_Mo_without 15 = .ok (.getfield 71, 3) := by decide +kernel
theorem dd_Mo_without_18 : decode bb_Mo_without 18 = .ok (.aload_n 0, 1) := by decide +kernel
theorem dd_Mo_without_19 : decode bb_Mo_without 19 = .ok (.getfield 331, 3) := by decide +kernel
theorem dd_Mo_without_22 : decode bb_Mo_without 22 = .ok (.iaload, 1) := by decide +kernel
theorem dd_Mo_without_23 : decode bb_Mo_without 23 = .ok (.putfield 325, 3) := by decide +kernel
theorem dd_Mo_without_26 : decode bb_Mo_without 26 = .ok (.iconst 0, 1) := by decide +kernel
theorem dd_Mo_without_27 : decode bb_Mo_without 27 = .ok (.istore_n 1, 1) := by decide +kernel
theorem dd_Mo_without_28 : decode bb_Mo_without 28 = .ok (.iload_n 1, 1) := by decide +kernel
theorem dd_Mo_without_29 : decode bb_Mo_without 29 = .ok (.bipush 66, 2) := by decide +kernel
theorem dd_Mo_without_31 : decode bb_Mo_without 31 = .ok (.if_icmp .ge 16, 3) := by decide +kernel
theorem dd_Mo_without_34 : decode bb_Mo_without 34 = .ok (.aload_n 0, 1) := by decide +kernel
theorem dd_Mo_without_35 : decode bb_Mo_without 35 = .ok (.getfield 146, 3) := by decide +kernel
theorem dd_Mo_without_38 : decode bb_Mo_without 38 = .ok (.iload_n 1, 1) := by decide +kernel
theorem dd_Mo_without_39 : decode bb_Mo_without 39 = .ok (.iconst (-1), 1) := by decide +kernel
theorem dd_Mo_without_40 : decode bb_Mo_without 40 = .ok (.iastore, 1) := by decide +kernel
theorem dd_Mo_without_41 : decode bb_Mo_without 41 = .ok (.iinc 1 1, 3) := by decide +kernel
theorem dd_Mo_without_44 : decode bb_Mo_without 44 = .ok (.goto (-16), 3) := by decide +kernel
theorem dd_Mo_without_47 : decode bb_Mo_without 47 = .ok (.aload_n 0, 1) := by decide +kernel
theorem dd_Mo_without_48 : decode bb_Mo_without 48 = .ok (.invokevirtual 420, 3) := by decide +kernel
theorem dd_Mo_without_51 : decode bb_Mo_without 51 = .ok (.aload_n 0, 1) := by decide +kernel
theorem dd_Mo_without_52 : decode bb_Mo_without 52 = .ok (.bipush 19, 2) := by decide +kernel
theorem dd_Mo_without_54 : decode bb_Mo_without 54 = .ok (.aload_n 0, 1) := by decide +kernel
theorem dd_Mo_without_55 : decode bb_Mo_without 55 = .ok (.getfield 325, 3) := by decide +kernel
theorem dd_Mo_without_58 : decode bb_Mo_without 58 = .ok (.invokevirtual 408, 3) := by decide +kernel
theorem dd_Mo_without_61 : decode bb_Mo_without 61 = .ok (.aload_n 0, 1) := by decide +kernel
theorem dd_Mo_without_62 : decode bb_Mo_without 62 = .ok (.iconst 0, 1) := by decide +kernel
theorem dd_Mo_without_63 : decode bb_Mo_without 63 = .ok (.putfield 325, 3) := by decide +kernel
theorem dd_Mo_without_66 : decode bb_Mo_without 66 = .ok (.return_, 1) := by decide +kernel
set_option maxRecDepth 100000 in
set_option maxHeartbeats 4000000 in
theorem u_Mo_without_28  (X : zX p s m args cd D cid B bb_Mo_without 2 rr_Mo zT) (H : zH s meth B n0 none "without") {nf : Nat} {x0 : Nat} {x1 : Int32} {c : Zc} {r : (Nat × Int32 × Zc) ⊕ (Nat × Zc)} (h : g_Mo_without_28 nf x0 x1 c = some r) (k0 : ∀ a, r = .inl a → (fun a : Nat × Int32 × Zc => Zz p l e (zRm 9 203 0 0) s m args below meth cd Q D cid B 2 0 0 a.2.2 28 [(0, .ref a.1), (1, .int a.2.1)] []) a) (k1 : ∀ b, r = .inr b → (fun b : Nat × Zc => Zz p l e (zRm 9 203 0 0) s m args below meth cd Q D cid B 2 0 0 b.2 47 [(0, .ref b.1)] []) b) : Zz p l e (zRm 9 203 0 0) s m args below meth cd Q D cid B 2 0 0 c 28 [(0, .ref x0), (1, .int x1)] [] := by
  unfold g_Mo_without_28 at h
  refine z_iload_n X dd_Mo_without_28 rfl 1 rfl ?_
  refine z_bipush (v := 66) X dd_Mo_without_29 (by decide) ?_
  refine z_icmp_ge (tgt := 47) X dd_Mo_without_31 (by decide) (fun q9 => ?_) (fun q9 => ?_)
  · rw [if_pos q9] at h
    refine z_sub [0] rfl ?_
    obtain rfl := Option.some.inj h
    exact k1 _ rfl
  · rw [if_neg q9] at h
    refine z_aload_n X dd_Mo_without_34 rfl 0 rfl ?_
    obtain ⟨v10, ev10, h⟩ := zb h
    refine z_get (j := 55) X dd_Mo_without_35 kc_12 ki_12 (by decide) km_1576 (zgr_v ev10) ?_
    refine z_iload_n X dd_Mo_without_38 rfl 1 rfl ?_
    refine z_iconst (v := (-1)) X dd_Mo_without_39 (by decide) ?_
    obtain ⟨c11, ec11, h⟩ := zb h
    refine z_iastore X dd_Mo_without_40 rfl ec11 ?_
    refine z_iinc (v := (x1 + 1)) (lv' := [(1, .int (x1 + 1)), (0, .ref x0)]) X dd_Mo_without_41 1 rfl rfl (by decide) rfl ?_
    refine z_goto (tgt := 28) X dd_Mo_without_44 (by decide) ?_
    refine z_sub [1, 0] rfl ?_
    obtain rfl := Option.some.inj h
    exact k0 _ rfl
set_option maxRecDepth 100000 in
set_option maxHeartbeats 4000000 in
theorem t_Mo_without_28  (X : zX p s m args cd D cid B bb_Mo_without 2 rr_Mo zT) (H : zH s meth B n0 none "without") {nf : Nat} {x0 : Nat} {x1 : Int32} {c : Zc} {res : Zc} (h : f_Mo_without_28 nf x0 x1 c = some res) : Zz p l e (zRm 9 203 0 0) s m args below meth cd (MQ below (zQv D cid B res n0 0) args s 0 0 (fun q => B ≤ q)) D cid B 2 0 0 c 28 [(0, .ref x0), (1, .int x1)] [] := by
  unfold f_Mo_without_28 at h
  obtain ⟨b, eb, h⟩ := zb h
  refine zlp_ok (P := fun a : Nat × Int32 × Zc => Zz p l e (zRm 9 203 0 0) s m args below meth cd _ D cid B 2 0 0 a.2.2 28 [(0, .ref a.1), (1, .int a.2.1)] []) (G := fun b : Nat × Zc => Zz p l e (zRm 9 203 0 0) s m args below meth cd _ D cid B 2 0 0 b.2 47 [(0, .ref b.1)] []) (fun a r ha k0 k1 => u_Mo_without_28 X H ha k0 k1) nf _ b eb ?_
  refine z_aload_n X dd_Mo_without_47 rfl 0 rfl ?_
  obtain ⟨w13, ew13, h⟩ := zb h
  obtain ⟨q12, eq12, h⟩ := zb h
  refine z_callVv X [] rfl dd_Mo_without_48 (c_Mo_pattern l eq12) (cwV 0 X.1.2.2.2.2 (zg_V km_1932 km_1934 km_75 km_138 km_1935) rfl rfl rfl (by decide +kernel) ⟨Nat.le_of_ble_eq_true rfl, Nat.le_of_ble_eq_true rfl⟩) (zob_s ew13) kc_12 rfl (Nat.le_of_ble_eq_true rfl) ⟨Nat.le_of_ble_eq_true rfl, Nat.le_of_ble_eq_true rfl⟩ ?_
  refine z_aload_n X dd_Mo_without_51 rfl 0 rfl ?_
  refine z_bipush (v := 19) X dd_Mo_without_52 (by decide) ?_
  refine z_aload_n X dd_Mo_without_54 rfl 0 rfl ?_
  obtain ⟨v14, ev14, h⟩ := zb h
  refine z_get (j := 56) X dd_Mo_without_55 kc_12 ki_12 (by decide) km_1577 (zgi_v ev14) ?_
  obtain ⟨w16, ew16, h⟩ := zb h
  obtain ⟨q15, eq15, h⟩ := zb h
  refine z_callVv X [.int 19, .int v14] rfl dd_Mo_without_58 (c_Mo_code l eq15) (cwV 2 X.1.2.2.2.2 (zg_V km_2004 km_2006 km_93 km_138 km_2007) rfl rfl rfl (by decide +kernel) ⟨Nat.le_of_ble_eq_true rfl, Nat.le_of_ble_eq_true rfl⟩) (zob_s ew16) kc_12 rfl (Nat.le_of_ble_eq_true rfl) ⟨Nat.le_of_ble_eq_true rfl, Nat.le_of_ble_eq_true rfl⟩ ?_
  refine z_aload_n X dd_Mo_without_61 rfl 0 rfl ?_
  refine z_iconst (v := 0) X dd_Mo_without_62 (by decide) ?_
  obtain ⟨c17, ec17, h⟩ := zb h
  refine z_put (j := 56) X dd_Mo_without_63 kc_12 ki_12 tt_Mo tk_Mo nn_Mo (by decide) km_1577 rfl (tk_Mo 56 (by decide)) rfl rfl ec17 ?_
  obtain rfl := Option.some.inj h
  exact z_vret X H.1 H.2.1 H.2.2.1 dd_Mo_without_66
set_option maxRecDepth 100000 in
set_option maxHeartbeats 4000000 in
theorem c_Mo_without (l : Launch) {nf : Nat} {a0 : Nat} {c : Zc} {res : Zc} (h : f_Mo_without nf a0 c = some res) : zM l yy_Mo_without ww_Mo_without 9 203 0 0 [.ref a0] c (fun D cid B => zQv D cid B res c.length 0) := by
  refine z_met (cc := bb_Mo_without) (maxL := 2) (ret := none) (by decide +kernel) rfl (Nat.le_of_ble_eq_true rfl) ?_
  intro p e s m args below meth cd D cid B X h1 h2 h3 h4
  have X : zX p s m args cd D cid B bb_Mo_without 2 rr_Mo zT := X
  have H : zH s meth B c.length none "without" := ⟨h1, h2, h4, h3⟩
  unfold f_Mo_without at h
  show Zz p l e (zRm 9 203 0 0) s m args below meth cd _ D cid B 2 0 0 c 0 [(0, .ref a0)] []
  refine z_aload_n X dd_Mo_without_0 rfl 0 rfl ?_
  obtain ⟨v1, ev1, h⟩ := zb h
  refine z_get (j := 28) X dd_Mo_without_1 kc_12 ki_12 (by decide) km_1549 (zgr_v ev1) ?_
  refine z_aload_n X dd_Mo_without_4 rfl 0 rfl ?_
  obtain ⟨v2, ev2, h⟩ := zb h
  refine z_get (j := 25) X dd_Mo_without_5 kc_12 ki_12 (by decide) km_1546 (zgi_v ev2) ?_
  refine z_dup2_11 X dd_Mo_without_8 rfl rfl ?_
  obtain ⟨v3, ev3, h⟩ := zb h
  refine z_iaload X dd_Mo_without_9 rfl ev3 ?_
  refine z_iconst (v := 1) X dd_Mo_without_10 (by decide) ?_
  refine z_iadd X dd_Mo_without_11 ?_
  obtain ⟨c4, ec4, h⟩ := zb h
  refine z_iastore X dd_Mo_without_12 rfl ec4 ?_
  refine z_aload_n X dd_Mo_without_13 rfl 0 rfl ?_
  refine z_aload_n X dd_Mo_without_14 rfl 0 rfl ?_
  obtain ⟨v5, ev5, h⟩ := zb h
  refine z_get (j := 28) X dd_Mo_without_15 kc_12 ki_12 (by decide) km_1549 (zgr_v ev5) ?_
  refine z_aload_n X dd_Mo_without_18 rfl 0 rfl ?_
  obtain ⟨v6, ev6, h⟩ := zb h
  refine z_get (j := 25) X dd_Mo_without_19 kc_12 ki_12 (by decide) km_1546 (zgi_v ev6) ?_
  obtain ⟨v7, ev7, h⟩ := zb h
  refine z_iaload X dd_Mo_without_22 rfl ev7 ?_
  obtain ⟨c8, ec8, h⟩ := zb h
  refine z_put (j := 56) X dd_Mo_without_23 kc_12 ki_12 tt_Mo tk_Mo nn_Mo (by decide) km_1577 rfl (tk_Mo 56 (by decide)) rfl rfl ec8 ?_
  refine z_iconst (v := 0) X dd_Mo_without_26 (by decide) ?_
  refine z_istore_n (lv' := [(1, .int 0), (0, .ref a0)]) X dd_Mo_without_27 rfl (by decide) rfl ?_
  refine z_sub [1, 0] rfl ?_
  exact t_Mo_without_28 X H h
theorem dd_Mo_factBegins_0 : decode bb_Mo_factBegins 0 = .ok (.aload_n 0, 1) := by decide +kernel
theorem dd_Mo_factBegins_1 : decode bb_Mo_factBegins 1 = .ok (.bipush 106, 2) := by decide +kernel
theorem dd_Mo_factBegins_3 : decode bb_Mo_factBegins 3 = .ok (.invokevirtual 316, 3) := by decide +kernel
theorem dd_Mo_factBegins_6 : decode bb_Mo_factBegins 6 = .ok (.ifCond .eq 22, 3) := by decide +kernel
theorem dd_Mo_factBegins_9 : decode bb_Mo_factBegins 9 = .ok (.aload_n 0, 1) := by decide +kernel
theorem dd_Mo_factBegins_10 : decode bb_Mo_factBegins 10 = .ok (.invokevirtual 373, 3) := by decide +kernel
theorem dd_Mo_factBegins_13 : decode bb_Mo_factBegins 13 = .ok (.aload_n 0, 1) := by decide +kernel
theorem dd_Mo_factBegins_14 : decode bb_Mo_factBegins 14 = .ok (.getfield 173, 3) := by decide +kernel
theorem dd_Mo_factBegins_17 : decode bb_Mo_factBegins 17 = .ok (.iload_n 1, 1) := by decide +kernel
theorem dd_Mo_factBegins_18 : decode bb_Mo_factBegins 18 = .ok (.iconst 1, 1) := by decide +kernel
theorem dd_Mo_factBegins_19 : decode bb_Mo_factBegins 19 = .ok (.iastore, 1) := by decide +kernel
theorem dd_Mo_factBegins_20 : decode bb_Mo_factBegins 20 = .ok (.aload_n 0, 1) := by decide +kernel
theorem dd_Mo_factBegins_21 : decode bb_Mo_factBegins 21 = .ok (.iconst 2, 1) := by decide +kernel
theorem dd_Mo_factBegins_22 : decode bb_Mo_factBegins 22 = .ok (.invokevirtual 392, 3) := by decide +kernel
theorem dd_Mo_factBegins_25 : decode bb_Mo_factBegins 25 = .ok (.goto 69, 3) := by decide +kernel
theorem dd_Mo_factBegins_28 : decode bb_Mo_factBegins 28 = .ok (.aload_n 0, 1) := by decide +kernel
theorem dd_Mo_factBegins_29 : decode bb_Mo_factBegins 29 = .ok (.bipush 107, 2) := by decide +kernel
theorem dd_Mo_factBegins_31 : decode bb_Mo_factBegins 31 = .ok (.invokevirtual 316, 3) := by decide +kernel
theorem dd_Mo_factBegins_34 : decode bb_Mo_factBegins 34 = .ok (.ifCond .eq 20, 3) := by decide +kernel
theorem dd_Mo_factBegins_37 : decode bb_Mo_factBegins 37 = .ok (.aload_n 0, 1) := by decide +kernel
theorem dd_Mo_factBegins_38 : decode bb_Mo_factBegins 38 = .ok (.invokevirtual 417, 3) := by decide +kernel
theorem dd_Mo_factBegins_41 : decode bb_Mo_factBegins 41 = .ok (.aload_n 0, 1) := by decide +kernel
theorem dd_Mo_factBegins_42 : decode bb_Mo_factBegins 42 = .ok (.dup, 1) := by decide +kernel
theorem dd_Mo_factBegins_43 : decode bb_Mo_factBegins 43 = .ok (.getfield 389, 3) := by decide +kernel
theorem dd_Mo_factBegins_46 : decode bb_Mo_factBegins 46 = .ok (.iconst 1, 1) := by decide +kernel
theorem dd_Mo_factBegins_47 : decode bb_Mo_factBegins 47 = .ok (.isub, 1) := by decide +kernel
theorem dd_Mo_factBegins_48 : decode bb_Mo_factBegins 48 = .ok (.putfield 389, 3) := by decide +kernel
theorem dd_Mo_factBegins_51 : decode bb_Mo_factBegins 51 = .ok (.goto 43, 3) := by decide +kernel
theorem dd_Mo_factBegins_54 : decode bb_Mo_factBegins 54 = .ok (.aload_n 0, 1) := by decide +kernel
theorem dd_Mo_factBegins_55 : decode bb_Mo_factBegins 55 = .ok (.bipush 91, 2) := by decide +kernel
theorem dd_Mo_factBegins_57 : decode bb_Mo_factBegins 57 = .ok (.invokevirtual 316, 3) := by decide +kernel
theorem dd_Mo_factBegins_60 : decode bb_Mo_factBegins 60 = .ok (.ifCond .eq 22, 3) := by decide +kernel
theorem dd_Mo_factBegins_63 : decode bb_Mo_factBegins 63 = .ok (.aload_n 0, 1) := by decide +kernel
theorem dd_Mo_factBegins_64 : decode bb_Mo_factBegins 64 = .ok (.invokevirtual 373, 3) := by decide +kernel
theorem dd_Mo_factBegins_67 : decode bb_Mo_factBegins 67 = .ok (.aload_n 0, 1) := by decide +kernel
theorem dd_Mo_factBegins_68 : decode bb_Mo_factBegins 68 = .ok (.getfield 173, 3) := by decide +kernel
theorem dd_Mo_factBegins_71 : decode bb_Mo_factBegins 71 = .ok (.iload_n 1, 1) := by decide +kernel
theorem dd_Mo_factBegins_72 : decode bb_Mo_factBegins 72 = .ok (.iconst 2, 1) := by decide +kernel
theorem dd_Mo_factBegins_73 : decode bb_Mo_factBegins 73 = .ok (.iastore, 1) := by decide +kernel
theorem dd_Mo_factBegins_74 : decode bb_Mo_factBegins 74 = .ok (.aload_n 0, 1) := by decide +kernel
theorem dd_Mo_factBegins_75 : decode bb_Mo_factBegins 75 = .ok (.iconst 0, 1) := by decide +kernel
theorem dd_Mo_factBegins_76 : decode bb_Mo_factBegins 76 = .ok (.invokevirtual 392, 3) := by decide +kernel
theorem dd_Mo_factBegins_79 : decode bb_Mo_factBegins 79 = .ok (.goto 15, 3) := by decide +kernel
theorem dd_Mo_factBegins_82 : decode bb_Mo_factBegins 82 = .ok (.aload_n 0, 1) := by decide +kernel
theorem dd_Mo_factBegins_83 : decode bb_Mo_factBegins 83 = .ok (.getfield 173, 3) := by decide +kernel
theorem dd_Mo_factBegins_86 : decode bb_Mo_factBegins 86 = .ok (.iload_n 1, 1) := by decide +kernel
theorem dd_Mo_factBegins_87 : decode bb_Mo_factBegins 87 = .ok (.iconst 3, 1) := by decide +kernel
theorem dd_Mo_factBegins_88 : decode bb_Mo_factBegins 88 = .ok (.iastore, 1) := by decide +kernel
theorem dd_Mo_factBegins_89 : decode bb_Mo_factBegins 89 = .ok (.aload_n 0, 1) := by decide +kernel
theorem dd_Mo_factBegins_90 : decode bb_Mo_factBegins 90 = .ok (.iconst 3, 1) := by decide +kernel
theorem dd_Mo_factBegins_91 : decode bb_Mo_factBegins 91 = .ok (.invokevirtual 392, 3) := by decide +kernel
theorem dd_Mo_factBegins_94 : decode bb_Mo_factBegins 94 = .ok (.return_, 1) := by decide +kernel
set_option maxRecDepth 100000 in
set_option maxHeartbeats 4000000 in
theorem t_Mo_factBegins_94  (X : zX p s m args cd D cid B bb_Mo_factBegins 2 rr_Mo zT) (H : zH s meth B n0 none "factBegins") {nf : Nat}  {c : Zc} {res : Zc} (h : f_Mo_factBegins_94 nf  c = some res) : Zz p l e (zRm 10 224 0 0) s m args below meth cd (MQ below (zQv D cid B res n0 0) args s 0 0 (fun q => B ≤ q)) D cid B 2 0 0 c 94 [] [] := by
  unfold f_Mo_factBegins_94 at h
  obtain rfl := Option.some.inj h
  exact z_vret X H.1 H.2.1 H.2.2.1 dd_Mo_factBegins_94
set_option maxRecDepth 100000 in
set_option maxHeartbeats 4000000 in
theorem c_Mo_factBegins (l : Launch) {nf : Nat} {a0 : Nat} {a1 : Int32} {c : Zc} {res : Zc} (h : f_Mo_factBegins nf a0 a1 c = some res) : zM l yy_Mo_factBegins ww_Mo_factBegins 10 224 0 0 [.ref a0, .int a1] c (fun D cid B => zQv D cid B res c.length 0) := by
  refine z_met (cc := bb_Mo_factBegins) (maxL := 2) (ret := none) (by decide +kernel) rfl (Nat.le_of_ble_eq_true rfl) ?_
  intro p e s m args below meth cd D cid B X h1 h2 h3 h4
  have X : zX p s m args cd D cid B bb_Mo_factBegins 2 rr_Mo zT := X
  have H : zH s meth B c.length none "factBegins" := ⟨h1, h2, h4, h3⟩
  unfold f_Mo_factBegins at h
  show Zz p l e (zRm 10 224 0 0) s m args below meth cd _ D cid B 2 0 0 c 0 [(0, .ref a0), (1, .int a1)] []
  refine z_aload_n X dd_Mo_factBegins_0 rfl 0 rfl ?_
  refine z_bipush (v := 106) X dd_Mo_factBegins_1 (by decide) ?_
  obtain ⟨w2, ew2, h⟩ := zb h
  obtain ⟨q1, eq1, h⟩ := zb h
  refine z_callVi X [.int 106] rfl dd_Mo_factBegins_3 (c_Mo_takes l eq1) (cwV 1 X.1.2.2.2.2 (zg_V km_1908 km_1910 km_69 km_138 km_1911) rfl rfl rfl (by decide +kernel) ⟨Nat.le_of_ble_eq_true rfl, Nat.le_of_ble_eq_true rfl⟩) (zob_s ew2) kc_12 rfl (Nat.le_of_ble_eq_true rfl) ⟨Nat.le_of_ble_eq_true rfl, Nat.le_of_ble_eq_true rfl⟩ ?_
  refine z_if_eq (tgt := 28) X dd_Mo_factBegins_6 (by decide) (fun q3 => ?_) (fun q3 => ?_)
  · rw [if_pos q3] at h
    refine z_aload_n X dd_Mo_factBegins_28 rfl 0 rfl ?_
    refine z_bipush (v := 107) X dd_Mo_factBegins_29 (by decide) ?_
    obtain ⟨w5, ew5, h⟩ := zb h
    obtain ⟨q4, eq4, h⟩ := zb h
    refine z_callVi X [.int 107] rfl dd_Mo_factBegins_31 (c_Mo_takes l eq4) (cwV 1 X.1.2.2.2.2 (zg_V km_1908 km_1910 km_69 km_138 km_1911) rfl rfl rfl (by decide +kernel) ⟨Nat.le_of_ble_eq_true rfl, Nat.le_of_ble_eq_true rfl⟩) (zob_s ew5) kc_12 rfl (Nat.le_of_ble_eq_true rfl) ⟨Nat.le_of_ble_eq_true rfl, Nat.le_of_ble_eq_true rfl⟩ ?_
    refine z_if_eq (tgt := 54) X dd_Mo_factBegins_34 (by decide) (fun q6 => ?_) (fun q6 => ?_)
    · rw [if_pos q6] at h
      refine z_aload_n X dd_Mo_factBegins_54 rfl 0 rfl ?_
      refine z_bipush (v := 91) X dd_Mo_factBegins_55 (by decide) ?_
      obtain ⟨w8, ew8, h⟩ := zb h
      obtain ⟨q7, eq7, h⟩ := zb h
      refine z_callVi X [.int 91] rfl dd_Mo_factBegins_57 (c_Mo_takes l eq7) (cwV 1 X.1.2.2.2.2 (zg_V km_1908 km_1910 km_69 km_138 km_1911) rfl rfl rfl (by decide +kernel) ⟨Nat.le_of_ble_eq_true rfl, Nat.le_of_ble_eq_true rfl⟩) (zob_s ew8) kc_12 rfl (Nat.le_of_ble_eq_true rfl) ⟨Nat.le_of_ble_eq_true rfl, Nat.le_of_ble_eq_true rfl⟩ ?_
      refine z_if_eq (tgt := 82) X dd_Mo_factBegins_60 (by decide) (fun q9 => ?_) (fun q9 => ?_)
      · rw [if_pos q9] at h
        refine z_aload_n X dd_Mo_factBegins_82 rfl 0 rfl ?_
        obtain ⟨v10, ev10, h⟩ := zb h
        refine z_get (j := 67) X dd_Mo_factBegins_83 kc_12 ki_12 (by decide) km_1588 (zgr_v ev10) ?_
        refine z_iload_n X dd_Mo_factBegins_86 rfl 1 rfl ?_
        refine z_iconst (v := 3) X dd_Mo_factBegins_87 (by decide) ?_
        obtain ⟨c11, ec11, h⟩ := zb h
        refine z_iastore X dd_Mo_factBegins_88 rfl ec11 ?_
        refine z_aload_n X dd_Mo_factBegins_89 rfl 0 rfl ?_
        refine z_iconst (v := 3) X dd_Mo_factBegins_90 (by decide) ?_
        obtain ⟨w13, ew13, h⟩ := zb h
        obtain ⟨q12, eq12, h⟩ := zb h
        refine z_callVv X [.int 3] rfl dd_Mo_factBegins_91 (c_Mo_frame l eq12) (cwV 1 X.1.2.2.2.2 (zg_V km_1996 km_1998 km_91 km_138 km_1999) rfl rfl rfl (by decide +kernel) ⟨Nat.le_of_ble_eq_true rfl, Nat.le_of_ble_eq_true rfl⟩) (zob_s ew13) kc_12 rfl (Nat.le_of_ble_eq_true rfl) ⟨Nat.le_of_ble_eq_true rfl, Nat.le_of_ble_eq_true rfl⟩ ?_
        refine z_sub [] rfl ?_
        exact t_Mo_factBegins_94 X H h
      · rw [if_neg q9] at h
        refine z_aload_n X dd_Mo_factBegins_63 rfl 0 rfl ?_
        obtain ⟨w15, ew15, h⟩ := zb h
        obtain ⟨q14, eq14, h⟩ := zb h
        refine z_callVv X [] rfl dd_Mo_factBegins_64 (c_Mo_within l eq14) (cwV 0 X.1.2.2.2.2 (zg_V km_1972 km_1974 km_85 km_138 km_1975) rfl rfl rfl (by decide +kernel) ⟨Nat.le_of_ble_eq_true rfl, Nat.le_of_ble_eq_true rfl⟩) (zob_s ew15) kc_12 rfl (Nat.le_of_ble_eq_true rfl) ⟨Nat.le_of_ble_eq_true rfl, Nat.le_of_ble_eq_true rfl⟩ ?_
        refine z_aload_n X dd_Mo_factBegins_67 rfl 0 rfl ?_
        obtain ⟨v16, ev16, h⟩ := zb h
        refine z_get (j := 67) X dd_Mo_factBegins_68 kc_12 ki_12 (by decide) km_1588 (zgr_v ev16) ?_
        refine z_iload_n X dd_Mo_factBegins_71 rfl 1 rfl ?_
        refine z_iconst (v := 2) X dd_Mo_factBegins_72 (by decide) ?_
        obtain ⟨c17, ec17, h⟩ := zb h
        refine z_iastore X dd_Mo_factBegins_73 rfl ec17 ?_
        refine z_aload_n X dd_Mo_factBegins_74 rfl 0 rfl ?_
        refine z_iconst (v := 0) X dd_Mo_factBegins_75 (by decide) ?_
        obtain ⟨w19, ew19, h⟩ := zb h
        obtain ⟨q18, eq18, h⟩ := zb h
        refine z_callVv X [.int 0] rfl dd_Mo_factBegins_76 (c_Mo_frame l eq18) (cwV 1 X.1.2.2.2.2 (zg_V km_1996 km_1998 km_91 km_138 km_1999) rfl rfl rfl (by decide +kernel) ⟨Nat.le_of_ble_eq_true rfl, Nat.le_of_ble_eq_true rfl⟩) (zob_s ew19) kc_12 rfl (Nat.le_of_ble_eq_true rfl) ⟨Nat.le_of_ble_eq_true rfl, Nat.le_of_ble_eq_true rfl⟩ ?_
        refine z_goto (tgt := 94) X dd_Mo_factBegins_79 (by decide) ?_
        refine z_sub [] rfl ?_
        exact t_Mo_factBegins_94 X H h
    · rw [if_neg q6] at h
      refine z_aload_n X dd_Mo_factBegins_37 rfl 0 rfl ?_
      obtain ⟨w21, ew21, h⟩ := zb h
      obtain ⟨q20, eq20, h⟩ := zb h
      refine z_callVv X [] rfl dd_Mo_factBegins_38 (c_Mo_without l eq20) (cwV 0 X.1.2.2.2.2 (zg_V km_2016 km_2018 km_96 km_138 km_2019) rfl rfl rfl (by decide +kernel) ⟨Nat.le_of_ble_eq_true rfl, Nat.le_of_ble_eq_true rfl⟩) (zob_s ew21) kc_12 rfl (Nat.le_of_ble_eq_true rfl) ⟨Nat.le_of_ble_eq_true rfl, Nat.le_of_ble_eq_true rfl⟩ ?_
      refine z_aload_n X dd_Mo_factBegins_41 rfl 0 rfl ?_
      refine z_dup X dd_Mo_factBegins_42 rfl ?_
      obtain ⟨v22, ev22, h⟩ := zb h
      refine z_get (j := 69) X dd_Mo_factBegins_43 kc_12 ki_12 (by decide) km_1590 (zgi_v ev22) ?_
      refine z_iconst (v := 1) X dd_Mo_factBegins_46 (by decide) ?_
      refine z_isub X dd_Mo_factBegins_47 ?_
      obtain ⟨c23, ec23, h⟩ := zb h
      refine z_put (j := 69) X dd_Mo_factBegins_48 kc_12 ki_12 tt_Mo tk_Mo nn_Mo (by decide) km_1590 rfl (tk_Mo 69 (by decide)) rfl rfl ec23 ?_
      refine z_goto (tgt := 94) X dd_Mo_factBegins_51 (by decide) ?_
      refine z_sub [] rfl ?_
      exact t_Mo_factBegins_94 X H h
  · rw [if_neg q3] at h
    refine z_aload_n X dd_Mo_factBegins_9 rfl 0 rfl ?_
    obtain ⟨w25, ew25, h⟩ := zb h
    obtain ⟨q24, eq24, h⟩ := zb h
    refine z_callVv X [] rfl dd_Mo_factBegins_10 (c_Mo_within l eq24) (cwV 0 X.1.2.2.2.2 (zg_V km_1972 km_1974 km_85 km_138 km_1975) rfl rfl rfl (by decide +kernel) ⟨Nat.le_of_ble_eq_true rfl, Nat.le_of_ble_eq_true rfl⟩) (zob_s ew25) kc_12 rfl (Nat.le_of_ble_eq_true rfl) ⟨Nat.le_of_ble_eq_true rfl, Nat.le_of_ble_eq_true rfl⟩ ?_
    refine z_aload_n X dd_Mo_factBegins_13 rfl 0 rfl ?_
    obtain ⟨v26, ev26, h⟩ := zb h
    refine z_get (j := 67) X dd_Mo_factBegins_14 kc_12 ki_12 (by decide) km_1588 (zgr_v ev26) ?_
    refine z_iload_n X dd_Mo_factBegins_17 rfl 1 rfl ?_
    refine z_iconst (v := 1) X dd_Mo_factBegins_18 (by decide) ?_
    obtain ⟨c27, ec27, h⟩ := zb h
    refine z_iastore X dd_Mo_factBegins_19 rfl ec27 ?_
    refine z_aload_n X dd_Mo_factBegins_20 rfl 0 rfl ?_
    refine z_iconst (v := 2) X dd_Mo_factBegins_21 (by decide) ?_
    obtain ⟨w29, ew29, h⟩ := zb h
    obtain ⟨q28, eq28, h⟩ := zb h
    refine z_callVv X [.int 2] rfl dd_Mo_factBegins_22 (c_Mo_frame l eq28) (cwV 1 X.1.2.2.2.2 (zg_V km_1996 km_1998 km_91 km_138 km_1999) rfl rfl rfl (by decide +kernel) ⟨Nat.le_of_ble_eq_true rfl, Nat.le_of_ble_eq_true rfl⟩) (zob_s ew29) kc_12 rfl (Nat.le_of_ble_eq_true rfl) ⟨Nat.le_of_ble_eq_true rfl, Nat.le_of_ble_eq_true rfl⟩ ?_
    refine z_goto (tgt := 94) X dd_Mo_factBegins_25 (by decide) ?_
    refine z_sub [] rfl ?_
    exact t_Mo_factBegins_94 X H h
theorem dd_Mo_relation_0 : decode bb_Mo_relation 0 = .ok (.iload_n 0, 1) := by decide +kernel
theorem dd_Mo_relation_1 : decode bb_Mo_relation 1 = .ok (.bipush 61, 2) := by decide +kernel
theorem dd_Mo_relation_3 : decode bb_Mo_relation 3 = .ok (.if_icmp .ne 8, 3) := by decide +kernel
theorem dd_Mo_relation_6 : decode bb_Mo_relation 6 = .ok (.bipush 10, 2) := by decide +kernel
theorem dd_Mo_relation_8 : decode bb_Mo_relation 8 = .ok (.goto 62, 3) := by decide +kernel
theorem dd_Mo_relation_11 : decode bb_Mo_relation 11 = .ok (.iload_n 0, 1) := by decide +kernel
theorem dd_Mo_relation_12 : decode bb_Mo_relation 12 = .ok (.sipush 203, 3) := by decide +kernel
theorem dd_Mo_relation_15 : decode bb_Mo_relation 15 = .ok (.if_icmp .ne 8, 3) := by decide +kernel
theorem dd_Mo_relation_18 : decode bb_Mo_relation 18 = .ok (.bipush 11, 2) := by decide +kernel
theorem dd_Mo_relation_20 : decode bb_Mo_relation 20 = .ok (.goto 50, 3) := by decide +kernel
theorem dd_Mo_relation_23 : decode bb_Mo_relation 23 = .ok (.iload_n 0, 1) := by decide +kernel
theorem dd_Mo_relation_24 : decode bb_Mo_relation 24 = .ok (.bipush 60, 2) := by decide +kernel
theorem dd_Mo_relation_26 : decode bb_Mo_relation 26 = .ok (.if_icmp .ne 8, 3) := by decide +kernel
theorem dd_Mo_relation_29 : decode bb_Mo_relation 29 = .ok (.bipush 12, 2) := by decide +kernel
theorem dd_Mo_relation_31 : decode bb_Mo_relation 31 = .ok (.goto 39, 3) := by decide +kernel
theorem dd_Mo_relation_34 : decode bb_Mo_relation 34 = .ok (.iload_n 0, 1) := by decide +kernel
theorem dd_Mo_relation_35 : decode bb_Mo_relation 35 = .ok (.sipush 204, 3) := by decide +kernel
theorem dd_Mo_relation_38 : decode bb_Mo_relation 38 = .ok (.if_icmp .ne 8, 3) := by decide +kernel
theorem dd_Mo_relation_41 : decode bb_Mo_relation 41 = .ok (.bipush 13, 2) := by decide +kernel
theorem dd_Mo_relation_43 : decode bb_Mo_relation 43 = .ok (.goto 27, 3) := by decide +kernel
theorem dd_Mo_relation_46 : decode bb_Mo_relation 46 = .ok (.iload_n 0, 1) := by decide +kernel
theorem dd_Mo_relation_47 : decode bb_Mo_relation 47 = .ok (.bipush 62, 2) := by decide +kernel
theorem dd_Mo_relation_49 : decode bb_Mo_relation 49 = .ok (.if_icmp .ne 8, 3) := by decide +kernel
theorem dd_Mo_relation_52 : decode bb_Mo_relation 52 = .ok (.bipush 14, 2) := by decide +kernel
theorem dd_Mo_relation_54 : decode bb_Mo_relation 54 = .ok (.goto 16, 3) := by decide +kernel
theorem dd_Mo_relation_57 : decode bb_Mo_relation 57 = .ok (.iload_n 0, 1) := by decide +kernel
theorem dd_Mo_relation_58 : decode bb_Mo_relation 58 = .ok (.sipush 205, 3) := by decide +kernel
theorem dd_Mo_relation_61 : decode bb_Mo_relation 61 = .ok (.if_icmp .ne 8, 3) := by decide +kernel
theorem dd_Mo_relation_64 : decode bb_Mo_relation 64 = .ok (.bipush 15, 2) := by decide +kernel
theorem dd_Mo_relation_66 : decode bb_Mo_relation 66 = .ok (.goto 4, 3) := by decide +kernel
theorem dd_Mo_relation_69 : decode bb_Mo_relation 69 = .ok (.iconst (-1), 1) := by decide +kernel
theorem dd_Mo_relation_70 : decode bb_Mo_relation 70 = .ok (.ireturn, 1) := by decide +kernel
set_option maxRecDepth 100000 in
set_option maxHeartbeats 4000000 in
theorem t_Mo_relation_70  (X : zX p s m args cd D cid B bb_Mo_relation 1 rr_Mo zT) (H : zH s meth B n0 (some (.int)) "relation") {nf : Nat} {s0 : Int32} {c : Zc} {res : Int32 × Zc} (h : f_Mo_relation_70 nf s0 c = some res) : Zz p l e (zRm 0 0 0 0) s m args below meth cd (MQ below (zQi D cid B res.1 res.2 n0 0) args s 0 0 (fun q => B ≤ q)) D cid B 1 0 0 c 70 [] [.int s0] := by
  unfold f_Mo_relation_70 at h
  obtain rfl := Option.some.inj h
  exact z_iret X H.1 H.2.1 H.2.2.1 dd_Mo_relation_70
set_option maxRecDepth 100000 in
set_option maxHeartbeats 4000000 in
theorem c_Mo_relation (l : Launch) {nf : Nat} {a0 : Int32} {c : Zc} {res : Int32 × Zc} (h : f_Mo_relation nf a0 c = some res) : zM l yy_Mo_relation ww_Mo_relation 0 0 0 0 [.int a0] c (fun D cid B => zQi D cid B res.1 res.2 c.length 0) := by
  refine z_met (cc := bb_Mo_relation) (maxL := 1) (ret := (some (.int))) (by decide +kernel) rfl (Nat.le_of_ble_eq_true rfl) ?_
  intro p e s m args below meth cd D cid B X h1 h2 h3 h4
  have X : zX p s m args cd D cid B bb_Mo_relation 1 rr_Mo zT := X
  have H : zH s meth B c.length (some (.int)) "relation" := ⟨h1, h2, h4, h3⟩
  unfold f_Mo_relation at h
  show Zz p l e (zRm 0 0 0 0) s m args below meth cd _ D cid B 1 0 0 c 0 [(0, .int a0)] []
  refine z_iload_n X dd_Mo_relation_0 rfl 0 rfl ?_
  refine z_bipush (v := 61) X dd_Mo_relation_1 (by decide) ?_
  refine z_icmp_ne (tgt := 11) X dd_Mo_relation_3 (by decide) (fun q1 => ?_) (fun q1 => ?_)
  · rw [if_neg q1] at h
    refine z_iload_n X dd_Mo_relation_11 rfl 0 rfl ?_
    refine z_sipush (v := 203) X dd_Mo_relation_12 (by decide) ?_
    refine z_icmp_ne (tgt := 23) X dd_Mo_relation_15 (by decide) (fun q2 => ?_) (fun q2 => ?_)
    · rw [if_neg q2] at h
      refine z_iload_n X dd_Mo_relation_23 rfl 0 rfl ?_
      refine z_bipush (v := 60) X dd_Mo_relation_24 (by decide) ?_
      refine z_icmp_ne (tgt := 34) X dd_Mo_relation_26 (by decide) (fun q3 => ?_) (fun q3 => ?_)
      · rw [if_neg q3] at h
        refine z_iload_n X dd_Mo_relation_34 rfl 0 rfl ?_
        refine z_sipush (v := 204) X dd_Mo_relation_35 (by decide) ?_
        refine z_icmp_ne (tgt := 46) X dd_Mo_relation_38 (by decide) (fun q4 => ?_) (fun q4 => ?_)
        · rw [if_neg q4] at h
          refine z_iload_n X dd_Mo_relation_46 rfl 0 rfl ?_
          refine z_bipush (v := 62) X dd_Mo_relation_47 (by decide) ?_
          refine z_icmp_ne (tgt := 57) X dd_Mo_relation_49 (by decide) (fun q5 => ?_) (fun q5 => ?_)
          · rw [if_neg q5] at h
            refine z_iload_n X dd_Mo_relation_57 rfl 0 rfl ?_
            refine z_sipush (v := 205) X dd_Mo_relation_58 (by decide) ?_
            refine z_icmp_ne (tgt := 69) X dd_Mo_relation_61 (by decide) (fun q6 => ?_) (fun q6 => ?_)
            · rw [if_neg q6] at h
              refine z_iconst (v := (-1)) X dd_Mo_relation_69 (by decide) ?_
              refine z_sub [] rfl ?_
              exact t_Mo_relation_70 X H h
            · rw [if_pos q6] at h
              refine z_bipush (v := 15) X dd_Mo_relation_64 (by decide) ?_
              refine z_goto (tgt := 70) X dd_Mo_relation_66 (by decide) ?_
              refine z_sub [] rfl ?_
              exact t_Mo_relation_70 X H h
          · rw [if_pos q5] at h
            refine z_bipush (v := 14) X dd_Mo_relation_52 (by decide) ?_
            refine z_goto (tgt := 70) X dd_Mo_relation_54 (by decide) ?_
            refine z_sub [] rfl ?_
            exact t_Mo_relation_70 X H h
        · rw [if_pos q4] at h
          refine z_bipush (v := 13) X dd_Mo_relation_41 (by decide) ?_
          refine z_goto (tgt := 70) X dd_Mo_relation_43 (by decide) ?_
          refine z_sub [] rfl ?_
          exact t_Mo_relation_70 X H h
      · rw [if_pos q3] at h
        refine z_bipush (v := 12) X dd_Mo_relation_29 (by decide) ?_
        refine z_goto (tgt := 70) X dd_Mo_relation_31 (by decide) ?_
        refine z_sub [] rfl ?_
        exact t_Mo_relation_70 X H h
    · rw [if_pos q2] at h
      refine z_bipush (v := 11) X dd_Mo_relation_18 (by decide) ?_
      refine z_goto (tgt := 70) X dd_Mo_relation_20 (by decide) ?_
      refine z_sub [] rfl ?_
      exact t_Mo_relation_70 X H h
  · rw [if_pos q1] at h
    refine z_bipush (v := 10) X dd_Mo_relation_6 (by decide) ?_
    refine z_goto (tgt := 70) X dd_Mo_relation_8 (by decide) ?_
    refine z_sub [] rfl ?_
    exact t_Mo_relation_70 X H h
theorem dd_Mo_fact_0 : decode bb_Mo_fact 0 = .ok (.aload_n 0, 1) := by decide +kernel
theorem dd_Mo_fact_1 : decode bb_Mo_fact 1 = .ok (.getfield 173, 3) := by decide +kernel
theorem dd_Mo_fact_4 : decode bb_Mo_fact 4 = .ok (.iload_n 1, 1) := by decide +kernel
theorem dd_Mo_fact_5 : decode bb_Mo_fact 5 = .ok (.iaload, 1) := by decide +kernel
theorem dd_Mo_fact_6 : decode bb_Mo_fact 6 = .ok (.tableswitch 119 0 3 #[30, 36, 56, 75], 30) := by decide +kernel
theorem dd_Mo_fact_36 : decode bb_Mo_fact 36 = .ok (.aload_n 0, 1) := by decide +kernel
theorem dd_Mo_fact_37 : decode bb_Mo_fact 37 = .ok (.iload_n 1, 1) := by decide +kernel
theorem dd_Mo_fact_38 : decode bb_Mo_fact 38 = .ok (.invokevirtual 411, 3) := by decide +kernel
theorem dd_Mo_fact_41 : decode bb_Mo_fact 41 = .ok (.return_, 1) := by decide +kernel
theorem dd_Mo_fact_42 : decode bb_Mo_fact 42 = .ok (.aload_n 0, 1) := by decide +kernel
theorem dd_Mo_fact_43 : decode bb_Mo_fact 43 = .ok (.bipush 18, 2) := by decide +kernel
theorem dd_Mo_fact_45 : decode bb_Mo_fact 45 = .ok (.iconst 0, 1) := by decide +kernel
theorem dd_Mo_fact_46 : decode bb_Mo_fact 46 = .ok (.invokevirtual 408, 3) := by decide +kernel
theorem dd_Mo_fact_49 : decode bb_Mo_fact 49 = .ok (.aload_n 0, 1) := by decide +kernel
theorem dd_Mo_fact_50 : decode bb_Mo_fact 50 = .ok (.dup, 1) := by decide +kernel
theorem dd_Mo_fact_51 : decode bb_Mo_fact 51 = .ok (.getfield 322, 3) := by decide +kernel
theorem dd_Mo_fact_54 : decode bb_Mo_fact 54 = .ok (.iconst 1, 1) := by decide +kernel
theorem dd_Mo_fact_55 : decode bb_Mo_fact 55 = .ok (.isub, 1) := by decide +kernel
theorem dd_Mo_fact_56 : decode bb_Mo_fact 56 = .ok (.putfield 322, 3) := by decide +kernel
theorem dd_Mo_fact_59 : decode bb_Mo_fact 59 = .ok (.goto 77, 3) := by decide +kernel
theorem dd_Mo_fact_62 : decode bb_Mo_fact 62 = .ok (.aload_n 0, 1) := by decide +kernel
theorem dd_Mo_fact_63 : decode bb_Mo_fact 63 = .ok (.bipush 93, 2) := by decide +kernel
theorem dd_Mo_fact_65 : decode bb_Mo_fact 65 = .ok (.invokevirtual 334, 3) := by decide +kernel
theorem dd_Mo_fact_68 : decode bb_Mo_fact 68 = .ok (.aload_n 0, 1) := by decide +kernel
theorem dd_Mo_fact_69 : decode bb_Mo_fact 69 = .ok (.dup, 1) := by decide +kernel
theorem dd_Mo_fact_70 : decode bb_Mo_fact 70 = .ok (.getfield 322, 3) := by decide +kernel
theorem dd_Mo_fact_73 : decode bb_Mo_fact 73 = .ok (.iconst 1, 1) := by decide +kernel
theorem dd_Mo_fact_74 : decode bb_Mo_fact 74 = .ok (.isub, 1) := by decide +kernel
theorem dd_Mo_fact_75 : decode bb_Mo_fact 75 = .ok (.putfield 322, 3) := by decide +kernel
theorem dd_Mo_fact_78 : decode bb_Mo_fact 78 = .ok (.goto 58, 3) := by decide +kernel
theorem dd_Mo_fact_81 : decode bb_Mo_fact 81 = .ok (.aload_n 0, 1) := by decide +kernel
theorem dd_Mo_fact_82 : decode bb_Mo_fact 82 = .ok (.getfield 176, 3) := by decide +kernel
theorem dd_Mo_fact_85 : decode bb_Mo_fact 85 = .ok (.iload_n 1, 1) := by decide +kernel
theorem dd_Mo_fact_86 : decode bb_Mo_fact 86 = .ok (.aload_n 0, 1) := by decide +kernel
theorem dd_Mo_fact_87 : decode bb_Mo_fact 87 = .ok (.invokevirtual 306, 3) := by decide +kernel
theorem dd_Mo_fact_90 : decode bb_Mo_fact 90 = .ok (.invokestatic 414, 3) := by decide +kernel
theorem dd_Mo_fact_93 : decode bb_Mo_fact 93 = .ok (.iastore, 1) := by decide +kernel
theorem dd_Mo_fact_94 : decode bb_Mo_fact 94 = .ok (.aload_n 0, 1) := by decide +kernel
theorem dd_Mo_fact_95 : decode bb_Mo_fact 95 = .ok (.getfield 176, 3) := by decide +kernel
theorem dd_Mo_fact_98 : decode bb_Mo_fact 98 = .ok (.iload_n 1, 1) := by decide +kernel
theorem dd_Mo_fact_99 : decode bb_Mo_fact 99 = .ok (.iaload, 1) := by decide +kernel
theorem dd_Mo_fact_100 : decode bb_Mo_fact 100 = .ok (.ifCond .ge 8, 3) := by decide +kernel
theorem dd_Mo_fact_103 : decode bb_Mo_fact 103 = .ok (.aload_n 0, 1) := by decide +kernel
theorem dd_Mo_fact_104 : decode bb_Mo_fact 104 = .ok (.invokevirtual 319, 3) := by decide +kernel
theorem dd_Mo_fact_107 : decode bb_Mo_fact 107 = .ok (.return_, 1) := by decide +kernel
theorem dd_Mo_fact_108 : decode bb_Mo_fact 108 = .ok (.aload_n 0, 1) := by decide +kernel
theorem dd_Mo_fact_109 : decode bb_Mo_fact 109 = .ok (.invokevirtual 313, 3) := by decide +kernel
theorem dd_Mo_fact_112 : decode bb_Mo_fact 112 = .ok (.aload_n 0, 1) := by decide +kernel
theorem dd_Mo_fact_113 : decode bb_Mo_fact 113 = .ok (.getfield 173, 3) := by decide +kernel
theorem dd_Mo_fact_116 : decode bb_Mo_fact 116 = .ok (.iload_n 1, 1) := by decide +kernel
theorem dd_Mo_fact_117 : decode bb_Mo_fact 117 = .ok (.iconst 4, 1) := by decide +kernel
theorem dd_Mo_fact_118 : decode bb_Mo_fact 118 = .ok (.iastore, 1) := by decide +kernel
theorem dd_Mo_fact_119 : decode bb_Mo_fact 119 = .ok (.aload_n 0, 1) := by decide +kernel
theorem dd_Mo_fact_120 : decode bb_Mo_fact 120 = .ok (.iconst 3, 1) := by decide +kernel
theorem dd_Mo_fact_121 : decode bb_Mo_fact 121 = .ok (.invokevirtual 392, 3) := by decide +kernel
theorem dd_Mo_fact_124 : decode bb_Mo_fact 124 = .ok (.return_, 1) := by decide +kernel
theorem dd_Mo_fact_125 : decode bb_Mo_fact 125 = .ok (.aload_n 0, 1) := by decide +kernel
theorem dd_Mo_fact_126 : decode bb_Mo_fact 126 = .ok (.aload_n 0, 1) := by decide +kernel
theorem dd_Mo_fact_127 : decode bb_Mo_fact 127 = .ok (.getfield 176, 3) := by decide +kernel
theorem dd_Mo_fact_130 : decode bb_Mo_fact 130 = .ok (.iload_n 1, 1) := by decide +kernel
theorem dd_Mo_fact_131 : decode bb_Mo_fact 131 = .ok (.iaload, 1) := by decide +kernel
theorem dd_Mo_fact_132 : decode bb_Mo_fact 132 = .ok (.iconst 0, 1) := by decide +kernel
theorem dd_Mo_fact_133 : decode bb_Mo_fact 133 = .ok (.invokevirtual 408, 3) := by decide +kernel
theorem dd_Mo_fact_136 : decode bb_Mo_fact 136 = .ok (.aload_n 0, 1) := by decide +kernel
theorem dd_Mo_fact_137 : decode bb_Mo_fact 137 = .ok (.dup, 1) := by decide +kernel
theorem dd_Mo_fact_138 : decode bb_Mo_fact 138 = .ok (.getfield 389, 3) := by decide +kernel
theorem dd_Mo_fact_141 : decode bb_Mo_fact 141 = .ok (.iconst 1, 1) := by decide +kernel
theorem dd_Mo_fact_142 : decode bb_Mo_fact 142 = .ok (.isub, 1) := by decide +kernel
theorem dd_Mo_fact_143 : decode bb_Mo_fact 143 = .ok (.putfield 389, 3) := by decide +kernel
theorem dd_Mo_fact_146 : decode bb_Mo_fact 146 = .ok (.return_, 1) := by decide +kernel
set_option maxRecDepth 100000 in
set_option maxHeartbeats 4000000 in
theorem t_Mo_fact_136  (X : zX p s m args cd D cid B bb_Mo_fact 2 rr_Mo zT) (H : zH s meth B n0 none "fact") {nf : Nat} {x0 : Nat} {c : Zc} {res : Zc} (h : f_Mo_fact_136 nf x0 c = some res) : Zz p l e (zRm 11 245 0 0) s m args below meth cd (MQ below (zQv D cid B res n0 0) args s 0 0 (fun q => B ≤ q)) D cid B 2 0 0 c 136 [(0, .ref x0)] [] := by
  unfold f_Mo_fact_136 at h
  refine z_aload_n X dd_Mo_fact_136 rfl 0 rfl ?_
  refine z_dup X dd_Mo_fact_137 rfl ?_
  obtain ⟨v11, ev11, h⟩ := zb h
  refine z_get (j := 69) X dd_Mo_fact_138 kc_12 ki_12 (by decide) km_1590 (zgi_v ev11) ?_
  refine z_iconst (v := 1) X dd_Mo_fact_141 (by decide) ?_
  refine z_isub X dd_Mo_fact_142 ?_
  obtain ⟨c12, ec12, h⟩ := zb h
  refine z_put (j := 69) X dd_Mo_fact_143 kc_12 ki_12 tt_Mo tk_Mo nn_Mo (by decide) km_1590 rfl (tk_Mo 69 (by decide)) rfl rfl ec12 ?_
  obtain rfl := Option.some.inj h
  exact z_vret X H.1 H.2.1 H.2.2.1 dd_Mo_fact_146
set_option maxRecDepth 100000 in
set_option maxHeartbeats 4000000 in
theorem c_Mo_fact (l : Launch) {nf : Nat} {a0 : Nat} {a1 : Int32} {c : Zc} {res : Zc} (h : f_Mo_fact nf a0 a1 c = some res) : zM l yy_Mo_fact ww_Mo_fact 11 245 0 0 [.ref a0, .int a1] c (fun D cid B => zQv D cid B res c.length 0) := by
  refine z_met (cc := bb_Mo_fact) (maxL := 2) (ret := none) (by decide +kernel) rfl (Nat.le_of_ble_eq_true rfl) ?_
  intro p e s m args below meth cd D cid B X h1 h2 h3 h4
  have X : zX p s m args cd D cid B bb_Mo_fact 2 rr_Mo zT := X
  have H : zH s meth B c.length none "fact" := ⟨h1, h2, h4, h3⟩
  unfold f_Mo_fact at h
  show Zz p l e (zRm 11 245 0 0) s m args below meth cd _ D cid B 2 0 0 c 0 [(0, .ref a0), (1, .int a1)] []
  refine z_aload_n X dd_Mo_fact_0 rfl 0 rfl ?_
  obtain ⟨v1, ev1, h⟩ := zb h
  refine z_get (j := 67) X dd_Mo_fact_1 kc_12 ki_12 (by decide) km_1588 (zgr_v ev1) ?_
  refine z_iload_n X dd_Mo_fact_4 rfl 1 rfl ?_
  obtain ⟨v2, ev2, h⟩ := zb h
  refine z_iaload X dd_Mo_fact_5 rfl ev2 ?_
  by_cases q3 : v2 = 0
  · rw [if_pos q3] at h
    refine z_tableIn (tgt := 36) (off := 30) X dd_Mo_fact_6 (by rw [q3]; decide) (by rw [q3]; decide) (by rw [q3]; rfl) (by decide) ?_
    refine z_aload_n X dd_Mo_fact_36 rfl 0 rfl ?_
    refine z_iload_n X dd_Mo_fact_37 rfl 1 rfl ?_
    obtain ⟨w5, ew5, h⟩ := zb h
    obtain ⟨q4, eq4, h⟩ := zb h
    refine z_callVv X [.int a1] rfl dd_Mo_fact_38 (c_Mo_factBegins l eq4) (cwV 1 X.1.2.2.2.2 (zg_V km_2012 km_2014 km_95 km_138 km_2015) rfl rfl rfl (by decide +kernel) ⟨Nat.le_of_ble_eq_true rfl, Nat.le_of_ble_eq_true rfl⟩) (zob_s ew5) kc_12 rfl (Nat.le_of_ble_eq_true rfl) ⟨Nat.le_of_ble_eq_true rfl, Nat.le_of_ble_eq_true rfl⟩ ?_
    obtain rfl := Option.some.inj h
    exact z_vret X H.1 H.2.1 H.2.2.1 dd_Mo_fact_41
  rw [if_neg q3] at h
  by_cases q6 : v2 = 1
  · rw [if_pos q6] at h
    refine z_tableIn (tgt := 42) (off := 36) X dd_Mo_fact_6 (by rw [q6]; decide) (by rw [q6]; decide) (by rw [q6]; rfl) (by decide) ?_
    refine z_aload_n X dd_Mo_fact_42 rfl 0 rfl ?_
    refine z_bipush (v := 18) X dd_Mo_fact_43 (by decide) ?_
    refine z_iconst (v := 0) X dd_Mo_fact_45 (by decide) ?_
    obtain ⟨w8, ew8, h⟩ := zb h
    obtain ⟨q7, eq7, h⟩ := zb h
    refine z_callVv X [.int 18, .int 0] rfl dd_Mo_fact_46 (c_Mo_code l eq7) (cwV 2 X.1.2.2.2.2 (zg_V km_2004 km_2006 km_93 km_138 km_2007) rfl rfl rfl (by decide +kernel) ⟨Nat.le_of_ble_eq_true rfl, Nat.le_of_ble_eq_true rfl⟩) (zob_s ew8) kc_12 rfl (Nat.le_of_ble_eq_true rfl) ⟨Nat.le_of_ble_eq_true rfl, Nat.le_of_ble_eq_true rfl⟩ ?_
    refine z_aload_n X dd_Mo_fact_49 rfl 0 rfl ?_
    refine z_dup X dd_Mo_fact_50 rfl ?_
    obtain ⟨v9, ev9, h⟩ := zb h
    refine z_get (j := 53) X dd_Mo_fact_51 kc_12 ki_12 (by decide) km_1574 (zgi_v ev9) ?_
    refine z_iconst (v := 1) X dd_Mo_fact_54 (by decide) ?_
    refine z_isub X dd_Mo_fact_55 ?_
    obtain ⟨c10, ec10, h⟩ := zb h
    refine z_put (j := 53) X dd_Mo_fact_56 kc_12 ki_12 tt_Mo tk_Mo nn_Mo (by decide) km_1574 rfl (tk_Mo 53 (by decide)) rfl rfl ec10 ?_
    refine z_goto (tgt := 136) X dd_Mo_fact_59 (by decide) ?_
    refine z_sub [0] rfl ?_
    exact t_Mo_fact_136 X H h
  rw [if_neg q6] at h
  by_cases q13 : v2 = 2
  · rw [if_pos q13] at h
    refine z_tableIn (tgt := 62) (off := 56) X dd_Mo_fact_6 (by rw [q13]; decide) (by rw [q13]; decide) (by rw [q13]; rfl) (by decide) ?_
    refine z_aload_n X dd_Mo_fact_62 rfl 0 rfl ?_
    refine z_bipush (v := 93) X dd_Mo_fact_63 (by decide) ?_
    obtain ⟨w15, ew15, h⟩ := zb h
    obtain ⟨q14, eq14, h⟩ := zb h
    refine z_callVv X [.int 93] rfl dd_Mo_fact_65 (c_Mo_need l eq14) (cwV 1 X.1.2.2.2.2 (zg_V km_1904 km_1906 km_68 km_138 km_1907) rfl rfl rfl (by decide +kernel) ⟨Nat.le_of_ble_eq_true rfl, Nat.le_of_ble_eq_true rfl⟩) (zob_s ew15) kc_12 rfl (Nat.le_of_ble_eq_true rfl) ⟨Nat.le_of_ble_eq_true rfl, Nat.le_of_ble_eq_true rfl⟩ ?_
    refine z_aload_n X dd_Mo_fact_68 rfl 0 rfl ?_
    refine z_dup X dd_Mo_fact_69 rfl ?_
    obtain ⟨v16, ev16, h⟩ := zb h
    refine z_get (j := 53) X dd_Mo_fact_70 kc_12 ki_12 (by decide) km_1574 (zgi_v ev16) ?_
    refine z_iconst (v := 1) X dd_Mo_fact_73 (by decide) ?_
    refine z_isub X dd_Mo_fact_74 ?_
    obtain ⟨c17, ec17, h⟩ := zb h
    refine z_put (j := 53) X dd_Mo_fact_75 kc_12 ki_12 tt_Mo tk_Mo nn_Mo (by decide) km_1574 rfl (tk_Mo 53 (by decide)) rfl rfl ec17 ?_
    refine z_goto (tgt := 136) X dd_Mo_fact_78 (by decide) ?_
    refine z_sub [0] rfl ?_
    exact t_Mo_fact_136 X H h
  rw [if_neg q13] at h
  by_cases q18 : v2 = 3
  · rw [if_pos q18] at h
    refine z_tableIn (tgt := 81) (off := 75) X dd_Mo_fact_6 (by rw [q18]; decide) (by rw [q18]; decide) (by rw [q18]; rfl) (by decide) ?_
    refine z_aload_n X dd_Mo_fact_81 rfl 0 rfl ?_
    obtain ⟨v19, ev19, h⟩ := zb h
    refine z_get (j := 68) X dd_Mo_fact_82 kc_12 ki_12 (by decide) km_1589 (zgr_v ev19) ?_
    refine z_iload_n X dd_Mo_fact_85 rfl 1 rfl ?_
    refine z_aload_n X dd_Mo_fact_86 rfl 0 rfl ?_
    obtain ⟨w21, ew21, h⟩ := zb h
    obtain ⟨q20, eq20, h⟩ := zb h
    refine z_callVi X [] rfl dd_Mo_fact_87 (c_Mo_kind l eq20) (cwV 0 X.1.2.2.2.2 (zg_V km_1912 km_1914 km_70 km_138 km_1915) rfl rfl rfl (by decide +kernel) ⟨Nat.le_of_ble_eq_true rfl, Nat.le_of_ble_eq_true rfl⟩) (zob_s ew21) kc_12 rfl (Nat.le_of_ble_eq_true rfl) ⟨Nat.le_of_ble_eq_true rfl, Nat.le_of_ble_eq_true rfl⟩ ?_
    obtain ⟨q22, eq22, h⟩ := zb h
    refine z_callSi X [.int q20.1] rfl dd_Mo_fact_90 (c_Mo_relation l eq22) (va_cwS 1 X.1.2.2.2.2 (zg_S km_2020 km_2021 km_138 km_2022) rfl rfl rfl (by decide +kernel) ⟨Nat.le_of_ble_eq_true rfl, Nat.le_of_ble_eq_true rfl⟩) rfl (Nat.le_of_ble_eq_true rfl) ⟨Nat.le_of_ble_eq_true rfl, Nat.le_of_ble_eq_true rfl⟩ ?_
    obtain ⟨c23, ec23, h⟩ := zb h
    refine z_iastore X dd_Mo_fact_93 rfl ec23 ?_
    refine z_aload_n X dd_Mo_fact_94 rfl 0 rfl ?_
    obtain ⟨v24, ev24, h⟩ := zb h
    refine z_get (j := 68) X dd_Mo_fact_95 kc_12 ki_12 (by decide) km_1589 (zgr_v ev24) ?_
    refine z_iload_n X dd_Mo_fact_98 rfl 1 rfl ?_
    obtain ⟨v25, ev25, h⟩ := zb h
    refine z_iaload X dd_Mo_fact_99 rfl ev25 ?_
    refine z_if_ge (tgt := 108) X dd_Mo_fact_100 (by decide) (fun q26 => ?_) (fun q26 => ?_)
    · rw [if_pos q26] at h
      refine z_aload_n X dd_Mo_fact_108 rfl 0 rfl ?_
      obtain ⟨w28, ew28, h⟩ := zb h
      obtain ⟨q27, eq27, h⟩ := zb h
      refine z_callVv X [] rfl dd_Mo_fact_109 (c_Mo_pass l eq27) (cwV 0 X.1.2.2.2.2 (zg_V km_1920 km_1922 km_72 km_138 km_1923) rfl rfl rfl (by decide +kernel) ⟨Nat.le_of_ble_eq_true rfl, Nat.le_of_ble_eq_true rfl⟩) (zob_s ew28) kc_12 rfl (Nat.le_of_ble_eq_true rfl) ⟨Nat.le_of_ble_eq_true rfl, Nat.le_of_ble_eq_true rfl⟩ ?_
      refine z_aload_n X dd_Mo_fact_112 rfl 0 rfl ?_
      obtain ⟨v29, ev29, h⟩ := zb h
      refine z_get (j := 67) X dd_Mo_fact_113 kc_12 ki_12 (by decide) km_1588 (zgr_v ev29) ?_
      refine z_iload_n X dd_Mo_fact_116 rfl 1 rfl ?_
      refine z_iconst (v := 4) X dd_Mo_fact_117 (by decide) ?_
      obtain ⟨c30, ec30, h⟩ := zb h
      refine z_iastore X dd_Mo_fact_118 rfl ec30 ?_
      refine z_aload_n X dd_Mo_fact_119 rfl 0 rfl ?_
      refine z_iconst (v := 3) X dd_Mo_fact_120 (by decide) ?_
      obtain ⟨w32, ew32, h⟩ := zb h
      obtain ⟨q31, eq31, h⟩ := zb h
      refine z_callVv X [.int 3] rfl dd_Mo_fact_121 (c_Mo_frame l eq31) (cwV 1 X.1.2.2.2.2 (zg_V km_1996 km_1998 km_91 km_138 km_1999) rfl rfl rfl (by decide +kernel) ⟨Nat.le_of_ble_eq_true rfl, Nat.le_of_ble_eq_true rfl⟩) (zob_s ew32) kc_12 rfl (Nat.le_of_ble_eq_true rfl) ⟨Nat.le_of_ble_eq_true rfl, Nat.le_of_ble_eq_true rfl⟩ ?_
      obtain rfl := Option.some.inj h
      exact z_vret X H.1 H.2.1 H.2.2.1 dd_Mo_fact_124
    · rw [if_neg q26] at h
      refine z_aload_n X dd_Mo_fact_103 rfl 0 rfl ?_
      obtain ⟨w34, ew34, h⟩ := zb h
      obtain ⟨q33, eq33, h⟩ := zb h
      refine z_callVv X [] rfl dd_Mo_fact_104 (c_Mo_wrong l eq33) (cwV 0 X.1.2.2.2.2 (zg_V km_1928 km_1930 km_74 km_138 km_1931) rfl rfl rfl (by decide +kernel) ⟨Nat.le_of_ble_eq_true rfl, Nat.le_of_ble_eq_true rfl⟩) (zob_s ew34) kc_12 rfl (Nat.le_of_ble_eq_true rfl) ⟨Nat.le_of_ble_eq_true rfl, Nat.le_of_ble_eq_true rfl⟩ ?_
      obtain rfl := Option.some.inj h
      exact z_vret X H.1 H.2.1 H.2.2.1 dd_Mo_fact_107
  rw [if_neg q18] at h
  refine z_tableOut (tgt := 125) X dd_Mo_fact_6 (by have yq3 := lv_neT q3 (a := 0) (by decide); have yq6 := lv_neT q6 (a := 1) (by decide); have yq13 := lv_neT q13 (a := 2) (by decide); have yq18 := lv_neT q18 (a := 3) (by decide); omega) (by decide) ?_
  refine z_aload_n X dd_Mo_fact_125 rfl 0 rfl ?_
  refine z_aload_n X dd_Mo_fact_126 rfl 0 rfl ?_
  obtain ⟨v35, ev35, h⟩ := zb h
  refine z_get (j := 68) X dd_Mo_fact_127 kc_12 ki_12 (by decide) km_1589 (zgr_v ev35) ?_
  refine z_iload_n X dd_Mo_fact_130 rfl 1 rfl ?_
  obtain ⟨v36, ev36, h⟩ := zb h
  refine z_iaload X dd_Mo_fact_131 rfl ev36 ?_
  refine z_iconst (v := 0) X dd_Mo_fact_132 (by decide) ?_
  obtain ⟨w38, ew38, h⟩ := zb h
  obtain ⟨q37, eq37, h⟩ := zb h
  refine z_callVv X [.int v36, .int 0] rfl dd_Mo_fact_133 (c_Mo_code l eq37) (cwV 2 X.1.2.2.2.2 (zg_V km_2004 km_2006 km_93 km_138 km_2007) rfl rfl rfl (by decide +kernel) ⟨Nat.le_of_ble_eq_true rfl, Nat.le_of_ble_eq_true rfl⟩) (zob_s ew38) kc_12 rfl (Nat.le_of_ble_eq_true rfl) ⟨Nat.le_of_ble_eq_true rfl, Nat.le_of_ble_eq_true rfl⟩ ?_
  refine z_sub [0] rfl ?_
  exact t_Mo_fact_136 X H h
theorem dd_Mo_reckoned_0 : decode bb_Mo_reckoned 0 = .ok (.aload_n 0, 1) := by decide +kernel
theorem dd_Mo_reckoned_1 : decode bb_Mo_reckoned 1 = .ok (.getfield 170, 3) := by decide +kernel
theorem dd_Mo_reckoned_4 : decode bb_Mo_reckoned 4 = .ok (.iload_n 1, 1) := by decide +kernel
theorem dd_Mo_reckoned_5 : decode bb_Mo_reckoned 5 = .ok (.iaload, 1) := by decide +kernel
theorem dd_Mo_reckoned_6 : decode bb_Mo_reckoned 6 = .ok (.iconst 3, 1) := by decide +kernel
theorem dd_Mo_reckoned_7 : decode bb_Mo_reckoned 7 = .ok (.if_icmp .ne 7, 3) := by decide +kernel
theorem dd_Mo_reckoned_10 : decode bb_Mo_reckoned 10 = .ok (.iconst 1, 1) := by decide +kernel
theorem dd_Mo_reckoned_11 : decode bb_Mo_reckoned 11 = .ok (.goto 4, 3) := by decide +kernel
theorem dd_Mo_reckoned_14 : decode bb_Mo_reckoned 14 = .ok (.iconst 0, 1) := by decide +kernel
theorem dd_Mo_reckoned_15 : decode bb_Mo_reckoned 15 = .ok (.istore_n 2, 1) := by decide +kernel
theorem dd_Mo_reckoned_16 : decode bb_Mo_reckoned 16 = .ok (.aload_n 0, 1) := by decide +kernel
theorem dd_Mo_reckoned_17 : decode bb_Mo_reckoned 17 = .ok (.getfield 173, 3) := by decide +kernel
theorem dd_Mo_reckoned_20 : decode bb_Mo_reckoned 20 = .ok (.iload_n 1, 1) := by decide +kernel
theorem dd_Mo_reckoned_21 : decode bb_Mo_reckoned 21 = .ok (.iaload, 1) := by decide +kernel
theorem dd_Mo_reckoned_22 : decode bb_Mo_reckoned 22 = .ok (.ifCond .ne 24, 3) := by decide +kernel
theorem dd_Mo_reckoned_25 : decode bb_Mo_reckoned 25 = .ok (.aload_n 0, 1) := by decide +kernel
theorem dd_Mo_reckoned_26 : decode bb_Mo_reckoned 26 = .ok (.getfield 173, 3) := by decide +kernel
theorem dd_Mo_reckoned_29 : decode bb_Mo_reckoned 29 = .ok (.iload_n 1, 1) := by decide +kernel
theorem dd_Mo_reckoned_30 : decode bb_Mo_reckoned 30 = .ok (.iconst 1, 1) := by decide +kernel
theorem dd_Mo_reckoned_31 : decode bb_Mo_reckoned 31 = .ok (.iastore, 1) := by decide +kernel
theorem dd_Mo_reckoned_32 : decode bb_Mo_reckoned 32 = .ok (.aload_n 0, 1) := by decide +kernel
theorem dd_Mo_reckoned_33 : decode bb_Mo_reckoned 33 = .ok (.iload_n 2, 1) := by decide +kernel
theorem dd_Mo_reckoned_34 : decode bb_Mo_reckoned 34 = .ok (.ifCond .eq 7, 3) := by decide +kernel
theorem dd_Mo_reckoned_37 : decode bb_Mo_reckoned 37 = .ok (.iconst 4, 1) := by decide +kernel
theorem dd_Mo_reckoned_38 : decode bb_Mo_reckoned 38 = .ok (.goto 4, 3) := by decide +kernel
theorem dd_Mo_reckoned_41 : decode bb_Mo_reckoned 41 = .ok (.iconst 5, 1) := by decide +kernel
theorem dd_Mo_reckoned_42 : decode bb_Mo_reckoned 42 = .ok (.invokevirtual 392, 3) := by decide +kernel
theorem dd_Mo_reckoned_45 : decode bb_Mo_reckoned 45 = .ok (.return_, 1) := by decide +kernel
theorem dd_Mo_reckoned_46 : decode bb_Mo_reckoned 46 = .ok (.aload_n 0, 1) := by decide +kernel
theorem dd_Mo_reckoned_47 : decode bb_Mo_reckoned 47 = .ok (.getfield 173, 3) := by decide +kernel
theorem dd_Mo_reckoned_50 : decode bb_Mo_reckoned 50 = .ok (.iload_n 1, 1) := by decide +kernel
theorem dd_Mo_reckoned_51 : decode bb_Mo_reckoned 51 = .ok (.iaload, 1) := by decide +kernel
theorem dd_Mo_reckoned_52 : decode bb_Mo_reckoned 52 = .ok (.iconst 2, 1) := by decide +kernel
theorem dd_Mo_reckoned_53 : decode bb_Mo_reckoned 53 = .ok (.if_icmp .ne 14, 3) := by decide +kernel
theorem dd_Mo_reckoned_56 : decode bb_Mo_reckoned 56 = .ok (.aload_n 0, 1) := by decide +kernel
theorem dd_Mo_reckoned_57 : decode bb_Mo_reckoned 57 = .ok (.aload_n 0, 1) := by decide +kernel
theorem dd_Mo_reckoned_58 : decode bb_Mo_reckoned 58 = .ok (.getfield 176, 3) := by decide +kernel
theorem dd_Mo_reckoned_61 : decode bb_Mo_reckoned 61 = .ok (.iload_n 1, 1) := by decide +kernel
theorem dd_Mo_reckoned_62 : decode bb_Mo_reckoned 62 = .ok (.iaload, 1) := by decide +kernel
theorem dd_Mo_reckoned_63 : decode bb_Mo_reckoned 63 = .ok (.iconst 0, 1) := by decide +kernel
theorem dd_Mo_reckoned_64 : decode bb_Mo_reckoned 64 = .ok (.invokevirtual 408, 3) := by decide +kernel
theorem dd_Mo_reckoned_67 : decode bb_Mo_reckoned 67 = .ok (.aload_n 0, 1) := by decide +kernel
theorem dd_Mo_reckoned_68 : decode bb_Mo_reckoned 68 = .ok (.invokevirtual 306, 3) := by decide +kernel
theorem dd_Mo_reckoned_71 : decode bb_Mo_reckoned 71 = .ok (.istore_n 3, 1) := by decide +kernel
theorem dd_Mo_reckoned_72 : decode bb_Mo_reckoned 72 = .ok (.iload_n 2, 1) := by decide +kernel
theorem dd_Mo_reckoned_73 : decode bb_Mo_reckoned 73 = .ok (.ifCond .eq 27, 3) := by decide +kernel
theorem dd_Mo_reckoned_76 : decode bb_Mo_reckoned 76 = .ok (.iload_n 3, 1) := by decide +kernel
theorem dd_Mo_reckoned_77 : decode bb_Mo_reckoned 77 = .ok (.bipush 43, 2) := by decide +kernel
theorem dd_Mo_reckoned_79 : decode bb_Mo_reckoned 79 = .ok (.if_icmp .ne 7, 3) := by decide +kernel
theorem dd_Mo_reckoned_82 : decode bb_Mo_reckoned 82 = .ok (.iconst 4, 1) := by decide +kernel
theorem dd_Mo_reckoned_83 : decode bb_Mo_reckoned 83 = .ok (.goto 29, 3) := by decide +kernel
theorem dd_Mo_reckoned_86 : decode bb_Mo_reckoned 86 = .ok (.iload_n 3, 1) := by decide +kernel
theorem dd_Mo_reckoned_87 : decode bb_Mo_reckoned 87 = .ok (.bipush 45, 2) := by decide +kernel
theorem dd_Mo_reckoned_89 : decode bb_Mo_reckoned 89 = .ok (.if_icmp .ne 7, 3) := by decide +kernel
theorem dd_Mo_reckoned_92 : decode bb_Mo_reckoned 92 = .ok (.iconst 5, 1) := by decide +kernel
theorem dd_Mo_reckoned_93 : decode bb_Mo_reckoned 93 = .ok (.goto 19, 3) := by decide +kernel
theorem dd_Mo_reckoned_96 : decode bb_Mo_reckoned 96 = .ok (.iconst (-1), 1) := by decide +kernel
theorem dd_Mo_reckoned_97 : decode bb_Mo_reckoned 97 = .ok (.goto 15, 3) := by decide +kernel
theorem dd_Mo_reckoned_100 : decode bb_Mo_reckoned 100 = .ok (.iload_n 3, 1) := by decide +kernel
theorem dd_Mo_reckoned_101 : decode bb_Mo_reckoned 101 = .ok (.bipush 42, 2) := by decide +kernel
theorem dd_Mo_reckoned_103 : decode bb_Mo_reckoned 103 = .ok (.if_icmp .ne 8, 3) := by decide +kernel
theorem dd_Mo_reckoned_106 : decode bb_Mo_reckoned 106 = .ok (.bipush 6, 2) := by decide +kernel
theorem dd_Mo_reckoned_108 : decode bb_Mo_reckoned 108 = .ok (.goto 4, 3) := by decide +kernel
theorem dd_Mo_reckoned_111 : decode bb_Mo_reckoned 111 = .ok (.iconst (-1), 1) := by decide +kernel
theorem dd_Mo_reckoned_112 : decode bb_Mo_reckoned 112 = .ok (.istore 4, 2) := by decide +kernel
theorem dd_Mo_reckoned_114 : decode bb_Mo_reckoned 114 = .ok (.iload 4, 2) := by decide +kernel
theorem dd_Mo_reckoned_116 : decode bb_Mo_reckoned 116 = .ok (.ifCond .ge 14, 3) := by decide +kernel
theorem dd_Mo_reckoned_119 : decode bb_Mo_reckoned 119 = .ok (.aload_n 0, 1) := by decide +kernel
theorem dd_Mo_reckoned_120 : decode bb_Mo_reckoned 120 = .ok (.dup, 1) := by decide +kernel
theorem dd_Mo_reckoned_121 : decode bb_Mo_reckoned 121 = .ok (.getfield 389, 3) := by decide +kernel
theorem dd_Mo_reckoned_124 : decode bb_Mo_reckoned 124 = .ok (.iconst 1, 1) := by decide +kernel
theorem dd_Mo_reckoned_125 : decode bb_Mo_reckoned 125 = .ok (.isub, 1) := by decide +kernel
theorem dd_Mo_reckoned_126 : decode bb_Mo_reckoned 126 = .ok (.putfield 389, 3) := by decide +kernel
theorem dd_Mo_reckoned_129 : decode bb_Mo_reckoned 129 = .ok (.return_, 1) := by decide +kernel
theorem dd_Mo_reckoned_130 : decode bb_Mo_reckoned 130 = .ok (.aload_n 0, 1) := by decide +kernel
theorem dd_Mo_reckoned_131 : decode bb_Mo_reckoned 131 = .ok (.invokevirtual 313, 3) := by decide +kernel
theorem dd_Mo_reckoned_134 : decode bb_Mo_reckoned 134 = .ok (.aload_n 0, 1) := by decide +kernel
theorem dd_Mo_reckoned_135 : decode bb_Mo_reckoned 135 = .ok (.getfield 176, 3) := by decide +kernel
theorem dd_Mo_reckoned_138 : decode bb_Mo_reckoned 138 = .ok (.iload_n 1, 1) := by decide +kernel
theorem dd_Mo_reckoned_139 : decode bb_Mo_reckoned 139 = .ok (.iload 4, 2) := by decide +kernel
theorem dd_Mo_reckoned_141 : decode bb_Mo_reckoned 141 = .ok (.iastore, 1) := by decide +kernel
theorem dd_Mo_reckoned_142 : decode bb_Mo_reckoned 142 = .ok (.aload_n 0, 1) := by decide +kernel
theorem dd_Mo_reckoned_143 : decode bb_Mo_reckoned 143 = .ok (.getfield 173, 3) := by decide +kernel
theorem dd_Mo_reckoned_146 : decode bb_Mo_reckoned 146 = .ok (.iload_n 1, 1) := by decide +kernel
theorem dd_Mo_reckoned_147 : decode bb_Mo_reckoned 147 = .ok (.iconst 2, 1) := by decide +kernel
theorem dd_Mo_reckoned_148 : decode bb_Mo_reckoned 148 = .ok (.iastore, 1) := by decide +kernel
theorem dd_Mo_reckoned_149 : decode bb_Mo_reckoned 149 = .ok (.aload_n 0, 1) := by decide +kernel
theorem dd_Mo_reckoned_150 : decode bb_Mo_reckoned 150 = .ok (.iload_n 2, 1) := by decide +kernel
theorem dd_Mo_reckoned_151 : decode bb_Mo_reckoned 151 = .ok (.ifCond .eq 7, 3) := by decide +kernel
theorem dd_Mo_reckoned_154 : decode bb_Mo_reckoned 154 = .ok (.iconst 4, 1) := by decide +kernel
theorem dd_Mo_reckoned_155 : decode bb_Mo_reckoned 155 = .ok (.goto 4, 3) := by decide +kernel
theorem dd_Mo_reckoned_158 : decode bb_Mo_reckoned 158 = .ok (.iconst 5, 1) := by decide +kernel
theorem dd_Mo_reckoned_159 : decode bb_Mo_reckoned 159 = .ok (.invokevirtual 392, 3) := by decide +kernel
theorem dd_Mo_reckoned_162 : decode bb_Mo_reckoned 162 = .ok (.return_, 1) := by decide +kernel
set_option maxRecDepth 100000 in
set_option maxHeartbeats 4000000 in
theorem t_Mo_reckoned_159  (X : zX p s m args cd D cid B bb_Mo_reckoned 5 rr_Mo zT) (H : zH s meth B n0 none "reckoned") {nf : Nat} {s0 : Nat} {s1 : Int32} {c : Zc} {res : Zc} (h : f_Mo_reckoned_159 nf s0 s1 c = some res) : Zz p l e (zRm 3 62 0 0) s m args below meth cd (MQ below (zQv D cid B res n0 0) args s 0 0 (fun q => B ≤ q)) D cid B 5 0 0 c 159 [] [.int s1, .ref s0] := by
  unfold f_Mo_reckoned_159 at h
  obtain ⟨w23, ew23, h⟩ := zb h
  obtain ⟨q22, eq22, h⟩ := zb h
  refine z_callVv X [.int s1] rfl dd_Mo_reckoned_159 (c_Mo_frame l eq22) (cwV 1 X.1.2.2.2.2 (zg_V km_1996 km_1998 km_91 km_138 km_1999) rfl rfl rfl (by decide +kernel) ⟨Nat.le_of_ble_eq_true rfl, Nat.le_of_ble_eq_true rfl⟩) (zob_s ew23) kc_12 rfl (Nat.le_of_ble_eq_true rfl) ⟨Nat.le_of_ble_eq_true rfl, Nat.le_of_ble_eq_true rfl⟩ ?_
  obtain rfl := Option.some.inj h
  exact z_vret X H.1 H.2.1 H.2.2.1 dd_Mo_reckoned_162
set_option maxRecDepth 100000 in
set_option maxHeartbeats 4000000 in
theorem t_Mo_reckoned_112  (X : zX p s m args cd D cid B bb_Mo_reckoned 5 rr_Mo zT) (H : zH s meth B n0 none "reckoned") {nf : Nat} {x0 : Nat} {x1 : Int32} {x2 : Int32} {s0 : Int32} {c : Zc} {res : Zc} (h : f_Mo_reckoned_112 nf x0 x1 x2 s0 c = some res) : Zz p l e (zRm 3 62 0 0) s m args below meth cd (MQ below (zQv D cid B res n0 0) args s 0 0 (fun q => B ≤ q)) D cid B 5 0 0 c 112 [(0, .ref x0), (1, .int x1), (2, .int x2)] [.int s0] := by
  unfold f_Mo_reckoned_112 at h
  refine z_istore (lv' := [(4, .int s0), (0, .ref x0), (1, .int x1), (2, .int x2)]) X dd_Mo_reckoned_112 (by decide) rfl ?_
  refine z_iload X dd_Mo_reckoned_114 0 rfl ?_
  refine z_if_ge (tgt := 130) X dd_Mo_reckoned_116 (by decide) (fun q14 => ?_) (fun q14 => ?_)
  · rw [if_pos q14] at h
    refine z_aload_n X dd_Mo_reckoned_130 rfl 1 rfl ?_
    obtain ⟨w16, ew16, h⟩ := zb h
    obtain ⟨q15, eq15, h⟩ := zb h
    refine z_callVv X [] rfl dd_Mo_reckoned_131 (c_Mo_pass l eq15) (cwV 0 X.1.2.2.2.2 (zg_V km_1920 km_1922 km_72 km_138 km_1923) rfl rfl rfl (by decide +kernel) ⟨Nat.le_of_ble_eq_true rfl, Nat.le_of_ble_eq_true rfl⟩) (zob_s ew16) kc_12 rfl (Nat.le_of_ble_eq_true rfl) ⟨Nat.le_of_ble_eq_true rfl, Nat.le_of_ble_eq_true rfl⟩ ?_
    refine z_aload_n X dd_Mo_reckoned_134 rfl 1 rfl ?_
    obtain ⟨v17, ev17, h⟩ := zb h
    refine z_get (j := 68) X dd_Mo_reckoned_135 kc_12 ki_12 (by decide) km_1589 (zgr_v ev17) ?_
    refine z_iload_n X dd_Mo_reckoned_138 rfl 2 rfl ?_
    refine z_iload X dd_Mo_reckoned_139 0 rfl ?_
    obtain ⟨c18, ec18, h⟩ := zb h
    refine z_iastore X dd_Mo_reckoned_141 rfl ec18 ?_
    refine z_aload_n X dd_Mo_reckoned_142 rfl 1 rfl ?_
    obtain ⟨v19, ev19, h⟩ := zb h
    refine z_get (j := 67) X dd_Mo_reckoned_143 kc_12 ki_12 (by decide) km_1588 (zgr_v ev19) ?_
    refine z_iload_n X dd_Mo_reckoned_146 rfl 2 rfl ?_
    refine z_iconst (v := 2) X dd_Mo_reckoned_147 (by decide) ?_
    obtain ⟨c20, ec20, h⟩ := zb h
    refine z_iastore X dd_Mo_reckoned_148 rfl ec20 ?_
    refine z_aload_n X dd_Mo_reckoned_149 rfl 1 rfl ?_
    refine z_iload_n X dd_Mo_reckoned_150 rfl 3 rfl ?_
    refine z_if_eq (tgt := 158) X dd_Mo_reckoned_151 (by decide) (fun q21 => ?_) (fun q21 => ?_)
    · rw [if_pos q21] at h
      refine z_iconst (v := 5) X dd_Mo_reckoned_158 (by decide) ?_
      refine z_sub [] rfl ?_
      exact t_Mo_reckoned_159 X H h
    · rw [if_neg q21] at h
      refine z_iconst (v := 4) X dd_Mo_reckoned_154 (by decide) ?_
      refine z_goto (tgt := 159) X dd_Mo_reckoned_155 (by decide) ?_
      refine z_sub [] rfl ?_
      exact t_Mo_reckoned_159 X H h
  · rw [if_neg q14] at h
    refine z_aload_n X dd_Mo_reckoned_119 rfl 1 rfl ?_
    refine z_dup X dd_Mo_reckoned_120 rfl ?_
    obtain ⟨v24, ev24, h⟩ := zb h
    refine z_get (j := 69) X dd_Mo_reckoned_121 kc_12 ki_12 (by decide) km_1590 (zgi_v ev24) ?_
    refine z_iconst (v := 1) X dd_Mo_reckoned_124 (by decide) ?_
    refine z_isub X dd_Mo_reckoned_125 ?_
    obtain ⟨c25, ec25, h⟩ := zb h
    refine z_put (j := 69) X dd_Mo_reckoned_126 kc_12 ki_12 tt_Mo tk_Mo nn_Mo (by decide) km_1590 rfl (tk_Mo 69 (by decide)) rfl rfl ec25 ?_
    obtain rfl := Option.some.inj h
    exact z_vret X H.1 H.2.1 H.2.2.1 dd_Mo_reckoned_129
set_option maxRecDepth 100000 in
set_option maxHeartbeats 4000000 in
theorem t_Mo_reckoned_67  (X : zX p s m args cd D cid B bb_Mo_reckoned 5 rr_Mo zT) (H : zH s meth B n0 none "reckoned") {nf : Nat} {x0 : Nat} {x1 : Int32} {x2 : Int32} {c : Zc} {res : Zc} (h : f_Mo_reckoned_67 nf x0 x1 x2 c = some res) : Zz p l e (zRm 3 62 0 0) s m args below meth cd (MQ below (zQv D cid B res n0 0) args s 0 0 (fun q => B ≤ q)) D cid B 5 0 0 c 67 [(0, .ref x0), (1, .int x1), (2, .int x2)] [] := by
  unfold f_Mo_reckoned_67 at h
  refine z_aload_n X dd_Mo_reckoned_67 rfl 0 rfl ?_
  obtain ⟨w11, ew11, h⟩ := zb h
  obtain ⟨q10, eq10, h⟩ := zb h
  refine z_callVi X [] rfl dd_Mo_reckoned_68 (c_Mo_kind l eq10) (cwV 0 X.1.2.2.2.2 (zg_V km_1912 km_1914 km_70 km_138 km_1915) rfl rfl rfl (by decide +kernel) ⟨Nat.le_of_ble_eq_true rfl, Nat.le_of_ble_eq_true rfl⟩) (zob_s ew11) kc_12 rfl (Nat.le_of_ble_eq_true rfl) ⟨Nat.le_of_ble_eq_true rfl, Nat.le_of_ble_eq_true rfl⟩ ?_
  refine z_istore_n (lv' := [(3, .int q10.1), (0, .ref x0), (1, .int x1), (2, .int x2)]) X dd_Mo_reckoned_71 rfl (by decide) rfl ?_
  refine z_iload_n X dd_Mo_reckoned_72 rfl 3 rfl ?_
  refine z_if_eq (tgt := 100) X dd_Mo_reckoned_73 (by decide) (fun q12 => ?_) (fun q12 => ?_)
  · rw [if_pos q12] at h
    refine z_iload_n X dd_Mo_reckoned_100 rfl 0 rfl ?_
    refine z_bipush (v := 42) X dd_Mo_reckoned_101 (by decide) ?_
    refine z_icmp_ne (tgt := 111) X dd_Mo_reckoned_103 (by decide) (fun q13 => ?_) (fun q13 => ?_)
    · rw [if_neg q13] at h
      refine z_iconst (v := (-1)) X dd_Mo_reckoned_111 (by decide) ?_
      refine z_sub [1, 2, 3] rfl ?_
      exact t_Mo_reckoned_112 X H h
    · rw [if_pos q13] at h
      refine z_bipush (v := 6) X dd_Mo_reckoned_106 (by decide) ?_
      refine z_goto (tgt := 112) X dd_Mo_reckoned_108 (by decide) ?_
      refine z_sub [1, 2, 3] rfl ?_
      exact t_Mo_reckoned_112 X H h
  · rw [if_neg q12] at h
    refine z_iload_n X dd_Mo_reckoned_76 rfl 0 rfl ?_
    refine z_bipush (v := 43) X dd_Mo_reckoned_77 (by decide) ?_
    refine z_icmp_ne (tgt := 86) X dd_Mo_reckoned_79 (by decide) (fun q26 => ?_) (fun q26 => ?_)
    · rw [if_neg q26] at h
      refine z_iload_n X dd_Mo_reckoned_86 rfl 0 rfl ?_
      refine z_bipush (v := 45) X dd_Mo_reckoned_87 (by decide) ?_
      refine z_icmp_ne (tgt := 96) X dd_Mo_reckoned_89 (by decide) (fun q27 => ?_) (fun q27 => ?_)
      · rw [if_neg q27] at h
        refine z_iconst (v := (-1)) X dd_Mo_reckoned_96 (by decide) ?_
        refine z_goto (tgt := 112) X dd_Mo_reckoned_97 (by decide) ?_
        refine z_sub [1, 2, 3] rfl ?_
        exact t_Mo_reckoned_112 X H h
      · rw [if_pos q27] at h
        refine z_iconst (v := 5) X dd_Mo_reckoned_92 (by decide) ?_
        refine z_goto (tgt := 112) X dd_Mo_reckoned_93 (by decide) ?_
        refine z_sub [1, 2, 3] rfl ?_
        exact t_Mo_reckoned_112 X H h
    · rw [if_pos q26] at h
      refine z_iconst (v := 4) X dd_Mo_reckoned_82 (by decide) ?_
      refine z_goto (tgt := 112) X dd_Mo_reckoned_83 (by decide) ?_
      refine z_sub [1, 2, 3] rfl ?_
      exact t_Mo_reckoned_112 X H h
set_option maxRecDepth 100000 in
set_option maxHeartbeats 4000000 in
theorem t_Mo_reckoned_42  (X : zX p s m args cd D cid B bb_Mo_reckoned 5 rr_Mo zT) (H : zH s meth B n0 none "reckoned") {nf : Nat} {s0 : Nat} {s1 : Int32} {c : Zc} {res : Zc} (h : f_Mo_reckoned_42 nf s0 s1 c = some res) : Zz p l e (zRm 3 62 0 0) s m args below meth cd (MQ below (zQv D cid B res n0 0) args s 0 0 (fun q => B ≤ q)) D cid B 5 0 0 c 42 [] [.int s1, .ref s0] := by
  unfold f_Mo_reckoned_42 at h
  obtain ⟨w36, ew36, h⟩ := zb h
  obtain ⟨q35, eq35, h⟩ := zb h
  refine z_callVv X [.int s1] rfl dd_Mo_reckoned_42 (c_Mo_frame l eq35) (cwV 1 X.1.2.2.2.2 (zg_V km_1996 km_1998 km_91 km_138 km_1999) rfl rfl rfl (by decide +kernel) ⟨Nat.le_of_ble_eq_true rfl, Nat.le_of_ble_eq_true rfl⟩) (zob_s ew36) kc_12 rfl (Nat.le_of_ble_eq_true rfl) ⟨Nat.le_of_ble_eq_true rfl, Nat.le_of_ble_eq_true rfl⟩ ?_
  obtain rfl := Option.some.inj h
  exact z_vret X H.1 H.2.1 H.2.2.1 dd_Mo_reckoned_45
set_option maxRecDepth 100000 in
set_option maxHeartbeats 4000000 in
theorem t_Mo_reckoned_15  (X : zX p s m args cd D cid B bb_Mo_reckoned 5 rr_Mo zT) (H : zH s meth B n0 none "reckoned") {nf : Nat} {x0 : Nat} {x1 : Int32} {s0 : Int32} {c : Zc} {res : Zc} (h : f_Mo_reckoned_15 nf x0 x1 s0 c = some res) : Zz p l e (zRm 3 62 0 0) s m args below meth cd (MQ below (zQv D cid B res n0 0) args s 0 0 (fun q => B ≤ q)) D cid B 5 0 0 c 15 [(0, .ref x0), (1, .int x1)] [.int s0] := by
  unfold f_Mo_reckoned_15 at h
  refine z_istore_n (lv' := [(2, .int s0), (0, .ref x0), (1, .int x1)]) X dd_Mo_reckoned_15 rfl (by decide) rfl ?_
  refine z_aload_n X dd_Mo_reckoned_16 rfl 1 rfl ?_
  obtain ⟨v4, ev4, h⟩ := zb h
  refine z_get (j := 67) X dd_Mo_reckoned_17 kc_12 ki_12 (by decide) km_1588 (zgr_v ev4) ?_
  refine z_iload_n X dd_Mo_reckoned_20 rfl 2 rfl ?_
  obtain ⟨v5, ev5, h⟩ := zb h
  refine z_iaload X dd_Mo_reckoned_21 rfl ev5 ?_
  refine z_if_ne (tgt := 46) X dd_Mo_reckoned_22 (by decide) (fun q6 => ?_) (fun q6 => ?_)
  · rw [if_neg q6] at h
    refine z_aload_n X dd_Mo_reckoned_46 rfl 1 rfl ?_
    obtain ⟨v7, ev7, h⟩ := zb h
    refine z_get (j := 67) X dd_Mo_reckoned_47 kc_12 ki_12 (by decide) km_1588 (zgr_v ev7) ?_
    refine z_iload_n X dd_Mo_reckoned_50 rfl 2 rfl ?_
    obtain ⟨v8, ev8, h⟩ := zb h
    refine z_iaload X dd_Mo_reckoned_51 rfl ev8 ?_
    refine z_iconst (v := 2) X dd_Mo_reckoned_52 (by decide) ?_
    refine z_icmp_ne (tgt := 67) X dd_Mo_reckoned_53 (by decide) (fun q9 => ?_) (fun q9 => ?_)
    · rw [if_neg q9] at h
      refine z_sub [1, 2, 0] rfl ?_
      exact t_Mo_reckoned_67 X H h
    · rw [if_pos q9] at h
      refine z_aload_n X dd_Mo_reckoned_56 rfl 1 rfl ?_
      refine z_aload_n X dd_Mo_reckoned_57 rfl 1 rfl ?_
      obtain ⟨v28, ev28, h⟩ := zb h
      refine z_get (j := 68) X dd_Mo_reckoned_58 kc_12 ki_12 (by decide) km_1589 (zgr_v ev28) ?_
      refine z_iload_n X dd_Mo_reckoned_61 rfl 2 rfl ?_
      obtain ⟨v29, ev29, h⟩ := zb h
      refine z_iaload X dd_Mo_reckoned_62 rfl ev29 ?_
      refine z_iconst (v := 0) X dd_Mo_reckoned_63 (by decide) ?_
      obtain ⟨w31, ew31, h⟩ := zb h
      obtain ⟨q30, eq30, h⟩ := zb h
      refine z_callVv X [.int v29, .int 0] rfl dd_Mo_reckoned_64 (c_Mo_code l eq30) (cwV 2 X.1.2.2.2.2 (zg_V km_2004 km_2006 km_93 km_138 km_2007) rfl rfl rfl (by decide +kernel) ⟨Nat.le_of_ble_eq_true rfl, Nat.le_of_ble_eq_true rfl⟩) (zob_s ew31) kc_12 rfl (Nat.le_of_ble_eq_true rfl) ⟨Nat.le_of_ble_eq_true rfl, Nat.le_of_ble_eq_true rfl⟩ ?_
      refine z_sub [1, 2, 0] rfl ?_
      exact t_Mo_reckoned_67 X H h
  · rw [if_pos q6] at h
    refine z_aload_n X dd_Mo_reckoned_25 rfl 1 rfl ?_
    obtain ⟨v32, ev32, h⟩ := zb h
    refine z_get (j := 67) X dd_Mo_reckoned_26 kc_12 ki_12 (by decide) km_1588 (zgr_v ev32) ?_
    refine z_iload_n X dd_Mo_reckoned_29 rfl 2 rfl ?_
    refine z_iconst (v := 1) X dd_Mo_reckoned_30 (by decide) ?_
    obtain ⟨c33, ec33, h⟩ := zb h
    refine z_iastore X dd_Mo_reckoned_31 rfl ec33 ?_
    refine z_aload_n X dd_Mo_reckoned_32 rfl 1 rfl ?_
    refine z_iload_n X dd_Mo_reckoned_33 rfl 0 rfl ?_
    refine z_if_eq (tgt := 41) X dd_Mo_reckoned_34 (by decide) (fun q34 => ?_) (fun q34 => ?_)
    · rw [if_pos q34] at h
      refine z_iconst (v := 5) X dd_Mo_reckoned_41 (by decide) ?_
      refine z_sub [] rfl ?_
      exact t_Mo_reckoned_42 X H h
    · rw [if_neg q34] at h
      refine z_iconst (v := 4) X dd_Mo_reckoned_37 (by decide) ?_
      refine z_goto (tgt := 42) X dd_Mo_reckoned_38 (by decide) ?_
      refine z_sub [] rfl ?_
      exact t_Mo_reckoned_42 X H h
set_option maxRecDepth 100000 in
set_option maxHeartbeats 4000000 in
theorem c_Mo_reckoned (l : Launch) {nf : Nat} {a0 : Nat} {a1 : Int32} {c : Zc} {res : Zc} (h : f_Mo_reckoned nf a0 a1 c = some res) : zM l yy_Mo_reckoned ww_Mo_reckoned 3 62 0 0 [.ref a0, .int a1] c (fun D cid B => zQv D cid B res c.length 0) := by
  refine z_met (cc := bb_Mo_reckoned) (maxL := 5) (ret := none) (by decide +kernel) rfl (Nat.le_of_ble_eq_true rfl) ?_
  intro p e s m args below meth cd D cid B X h1 h2 h3 h4
  have X : zX p s m args cd D cid B bb_Mo_reckoned 5 rr_Mo zT := X
  have H : zH s meth B c.length none "reckoned" := ⟨h1, h2, h4, h3⟩
  unfold f_Mo_reckoned at h
  show Zz p l e (zRm 3 62 0 0) s m args below meth cd _ D cid B 5 0 0 c 0 [(0, .ref a0), (1, .int a1)] []
  refine z_aload_n X dd_Mo_reckoned_0 rfl 0 rfl ?_
  obtain ⟨v1, ev1, h⟩ := zb h
  refine z_get (j := 66) X dd_Mo_reckoned_1 kc_12 ki_12 (by decide) km_1587 (zgr_v ev1) ?_
  refine z_iload_n X dd_Mo_reckoned_4 rfl 1 rfl ?_
  obtain ⟨v2, ev2, h⟩ := zb h
  refine z_iaload X dd_Mo_reckoned_5 rfl ev2 ?_
  refine z_iconst (v := 3) X dd_Mo_reckoned_6 (by decide) ?_
  refine z_icmp_ne (tgt := 14) X dd_Mo_reckoned_7 (by decide) (fun q3 => ?_) (fun q3 => ?_)
  · rw [if_neg q3] at h
    refine z_iconst (v := 0) X dd_Mo_reckoned_14 (by decide) ?_
    exact t_Mo_reckoned_15 X H h
  · rw [if_pos q3] at h
    refine z_iconst (v := 1) X dd_Mo_reckoned_10 (by decide) ?_
    refine z_goto (tgt := 15) X dd_Mo_reckoned_11 (by decide) ?_
    exact t_Mo_reckoned_15 X H h
theorem dd_Mo_variable_0 : decode bb_Mo_variable 0 = .ok (.aload_n 0, 1) := by decide +kernel
theorem dd_Mo_variable_1 : decode bb_Mo_variable 1 = .ok (.invokevirtual 310, 3) := by decide +kernel
theorem dd_Mo_variable_4 : decode bb_Mo_variable 4 = .ok (.aload_n 0, 1) := by decide +kernel
theorem dd_Mo_variable_5 : decode bb_Mo_variable 5 = .ok (.getfield 143, 3) := by decide +kernel
theorem dd_Mo_variable_8 : decode bb_Mo_variable 8 = .ok (.aload_n 0, 1) := by decide +kernel
theorem dd_Mo_variable_9 : decode bb_Mo_variable 9 = .ok (.getfield 46, 3) := by decide +kernel
theorem dd_Mo_variable_12 : decode bb_Mo_variable 12 = .ok (.aload_n 0, 1) := by decide +kernel
theorem dd_Mo_variable_13 : decode bb_Mo_variable 13 = .ok (.getfield 300, 3) := by decide +kernel
theorem dd_Mo_variable_16 : decode bb_Mo_variable 16 = .ok (.iaload, 1) := by decide +kernel
theorem dd_Mo_variable_17 : decode bb_Mo_variable 17 = .ok (.iaload, 1) := by decide +kernel
theorem dd_Mo_variable_18 : decode bb_Mo_variable 18 = .ok (.istore_n 1, 1) := by decide +kernel
theorem dd_Mo_variable_19 : decode bb_Mo_variable 19 = .ok (.iload_n 1, 1) := by decide +kernel
theorem dd_Mo_variable_20 : decode bb_Mo_variable 20 = .ok (.iconst (-1), 1) := by decide +kernel
theorem dd_Mo_variable_21 : decode bb_Mo_variable 21 = .ok (.if_icmp .ne 17, 3) := by decide +kernel
theorem dd_Mo_variable_24 : decode bb_Mo_variable 24 = .ok (.aload_n 0, 1) := by decide +kernel
theorem dd_Mo_variable_25 : decode bb_Mo_variable 25 = .ok (.iconst 5, 1) := by decide +kernel
theorem dd_Mo_variable_26 : decode bb_Mo_variable 26 = .ok (.aload_n 0, 1) := by decide +kernel
theorem dd_Mo_variable_27 : decode bb_Mo_variable 27 = .ok (.getfield 49, 3) := by decide +kernel
theorem dd_Mo_variable_30 : decode bb_Mo_variable 30 = .ok (.aload_n 0, 1) := by decide +kernel
theorem dd_Mo_variable_31 : decode bb_Mo_variable 31 = .ok (.getfield 300, 3) := by decide +kernel
theorem dd_Mo_variable_34 : decode bb_Mo_variable 34 = .ok (.iaload, 1) := by decide +kernel
theorem dd_Mo_variable_35 : decode bb_Mo_variable 35 = .ok (.invokevirtual 303, 3) := by decide +kernel
theorem dd_Mo_variable_38 : decode bb_Mo_variable 38 = .ok (.aload_n 0, 1) := by decide +kernel
theorem dd_Mo_variable_39 : decode bb_Mo_variable 39 = .ok (.invokevirtual 313, 3) := by decide +kernel
theorem dd_Mo_variable_42 : decode bb_Mo_variable 42 = .ok (.aload_n 0, 1) := by decide +kernel
theorem dd_Mo_variable_43 : decode bb_Mo_variable 43 = .ok (.bipush 46, 2) := by decide +kernel
theorem dd_Mo_variable_45 : decode bb_Mo_variable 45 = .ok (.invokevirtual 316, 3) := by decide +kernel
theorem dd_Mo_variable_48 : decode bb_Mo_variable 48 = .ok (.ifCond .ne 23, 3) := by decide +kernel
theorem dd_Mo_variable_51 : decode bb_Mo_variable 51 = .ok (.aload_n 0, 1) := by decide +kernel
theorem dd_Mo_variable_52 : decode bb_Mo_variable 52 = .ok (.iload_n 1, 1) := by decide +kernel
theorem dd_Mo_variable_53 : decode bb_Mo_variable 53 = .ok (.bipush 100, 2) := by decide +kernel
theorem dd_Mo_variable_55 : decode bb_Mo_variable 55 = .ok (.if_icmp .lt 7, 3) := by decide +kernel
theorem dd_Mo_variable_58 : decode bb_Mo_variable 58 = .ok (.iconst 2, 1) := by decide +kernel
theorem dd_Mo_variable_59 : decode bb_Mo_variable 59 = .ok (.goto 4, 3) := by decide +kernel
theorem dd_Mo_variable_62 : decode bb_Mo_variable 62 = .ok (.iconst 1, 1) := by decide +kernel
theorem dd_Mo_variable_63 : decode bb_Mo_variable 63 = .ok (.iload_n 1, 1) := by decide +kernel
theorem dd_Mo_variable_64 : decode bb_Mo_variable 64 = .ok (.bipush 100, 2) := by decide +kernel
theorem dd_Mo_variable_66 : decode bb_Mo_variable 66 = .ok (.irem, 1) := by decide +kernel
theorem dd_Mo_variable_67 : decode bb_Mo_variable 67 = .ok (.invokevirtual 408, 3) := by decide +kernel
theorem dd_Mo_variable_70 : decode bb_Mo_variable 70 = .ok (.return_, 1) := by decide +kernel
theorem dd_Mo_variable_71 : decode bb_Mo_variable 71 = .ok (.aload_n 0, 1) := by decide +kernel
theorem dd_Mo_variable_72 : decode bb_Mo_variable 72 = .ok (.invokevirtual 306, 3) := by decide +kernel
theorem dd_Mo_variable_75 : decode bb_Mo_variable 75 = .ok (.iconst 4, 1) := by decide +kernel
theorem dd_Mo_variable_76 : decode bb_Mo_variable 76 = .ok (.if_icmp .eq 8, 3) := by decide +kernel
theorem dd_Mo_variable_79 : decode bb_Mo_variable 79 = .ok (.aload_n 0, 1) := by decide +kernel
theorem dd_Mo_variable_80 : decode bb_Mo_variable 80 = .ok (.invokevirtual 319, 3) := by decide +kernel
theorem dd_Mo_variable_83 : decode bb_Mo_variable 83 = .ok (.return_, 1) := by decide +kernel
theorem dd_Mo_variable_84 : decode bb_Mo_variable 84 = .ok (.aload_n 0, 1) := by decide +kernel
theorem dd_Mo_variable_85 : decode bb_Mo_variable 85 = .ok (.invokevirtual 310, 3) := by decide +kernel
theorem dd_Mo_variable_88 : decode bb_Mo_variable 88 = .ok (.iload_n 1, 1) := by decide +kernel
theorem dd_Mo_variable_89 : decode bb_Mo_variable 89 = .ok (.bipush 100, 2) := by decide +kernel
theorem dd_Mo_variable_91 : decode bb_Mo_variable 91 = .ok (.if_icmp .lt 17, 3) := by decide +kernel
theorem dd_Mo_variable_94 : decode bb_Mo_variable 94 = .ok (.aload_n 0, 1) := by decide +kernel
theorem dd_Mo_variable_95 : decode bb_Mo_variable 95 = .ok (.iconst 5, 1) := by decide +kernel
theorem dd_Mo_variable_96 : decode bb_Mo_variable 96 = .ok (.aload_n 0, 1) := by decide +kernel
theorem dd_Mo_variable_97 : decode bb_Mo_variable 97 = .ok (.getfield 49, 3) := by decide +kernel
theorem dd_Mo_variable_100 : decode bb_Mo_variable 100 = .ok (.aload_n 0, 1) := by decide +kernel
theorem dd_Mo_variable_101 : decode bb_Mo_variable 101 = .ok (.getfield 300, 3) := by decide +kernel
theorem dd_Mo_variable_104 : decode bb_Mo_variable 104 = .ok (.iaload, 1) := by decide +kernel
theorem dd_Mo_variable_105 : decode bb_Mo_variable 105 = .ok (.invokevirtual 303, 3) := by decide +kernel
theorem dd_Mo_variable_108 : decode bb_Mo_variable 108 = .ok (.aload_n 0, 1) := by decide +kernel
theorem dd_Mo_variable_109 : decode bb_Mo_variable 109 = .ok (.iconst 3, 1) := by decide +kernel
theorem dd_Mo_variable_110 : decode bb_Mo_variable 110 = .ok (.iconst 4, 1) := by decide +kernel
theorem dd_Mo_variable_111 : decode bb_Mo_variable 111 = .ok (.iload_n 1, 1) := by decide +kernel
theorem dd_Mo_variable_112 : decode bb_Mo_variable 112 = .ok (.imul, 1) := by decide +kernel
theorem dd_Mo_variable_113 : decode bb_Mo_variable 113 = .ok (.aload_n 0, 1) := by decide +kernel
theorem dd_Mo_variable_114 : decode bb_Mo_variable 114 = .ok (.getfield 46, 3) := by decide +kernel
theorem dd_Mo_variable_117 : decode bb_Mo_variable 117 = .ok (.aload_n 0, 1) := by decide +kernel
theorem dd_Mo_variable_118 : decode bb_Mo_variable 118 = .ok (.getfield 300, 3) := by decide +kernel
theorem dd_Mo_variable_121 : decode bb_Mo_variable 121 = .ok (.iaload, 1) := by decide +kernel
theorem dd_Mo_variable_122 : decode bb_Mo_variable 122 = .ok (.iadd, 1) := by decide +kernel
theorem dd_Mo_variable_123 : decode bb_Mo_variable 123 = .ok (.invokevirtual 408, 3) := by decide +kernel
theorem dd_Mo_variable_126 : decode bb_Mo_variable 126 = .ok (.aload_n 0, 1) := by decide +kernel
theorem dd_Mo_variable_127 : decode bb_Mo_variable 127 = .ok (.invokevirtual 313, 3) := by decide +kernel
theorem dd_Mo_variable_130 : decode bb_Mo_variable 130 = .ok (.return_, 1) := by decide +kernel
set_option maxRecDepth 100000 in
set_option maxHeartbeats 4000000 in
theorem t_Mo_variable_108  (X : zX p s m args cd D cid B bb_Mo_variable 2 rr_Mo zT) (H : zH s meth B n0 none "variable") {nf : Nat} {x0 : Nat} {x1 : Int32} {c : Zc} {res : Zc} (h : f_Mo_variable_108 nf x0 x1 c = some res) : Zz p l e (zRm 4 83 0 0) s m args below meth cd (MQ below (zQv D cid B res n0 0) args s 0 0 (fun q => B ≤ q)) D cid B 2 0 0 c 108 [(0, .ref x0), (1, .int x1)] [] := by
  unfold f_Mo_variable_108 at h
  refine z_aload_n X dd_Mo_variable_108 rfl 0 rfl ?_
  refine z_iconst (v := 3) X dd_Mo_variable_109 (by decide) ?_
  refine z_iconst (v := 4) X dd_Mo_variable_110 (by decide) ?_
  refine z_iload_n X dd_Mo_variable_111 rfl 1 rfl ?_
  refine z_imul X dd_Mo_variable_112 ?_
  refine z_aload_n X dd_Mo_variable_113 rfl 0 rfl ?_
  obtain ⟨v20, ev20, h⟩ := zb h
  refine z_get (j := 15) X dd_Mo_variable_114 kc_12 ki_12 (by decide) km_1536 (zgr_v ev20) ?_
  refine z_aload_n X dd_Mo_variable_117 rfl 0 rfl ?_
  obtain ⟨v21, ev21, h⟩ := zb h
  refine z_get (j := 18) X dd_Mo_variable_118 kc_12 ki_12 (by decide) km_1539 (zgi_v ev21) ?_
  obtain ⟨v22, ev22, h⟩ := zb h
  refine z_iaload X dd_Mo_variable_121 rfl ev22 ?_
  refine z_iadd X dd_Mo_variable_122 ?_
  obtain ⟨w24, ew24, h⟩ := zb h
  obtain ⟨q23, eq23, h⟩ := zb h
  refine z_callVv X [.int 3, .int ((4 * x1) + v22)] rfl dd_Mo_variable_123 (c_Mo_code l eq23) (cwV 2 X.1.2.2.2.2 (zg_V km_2004 km_2006 km_93 km_138 km_2007) rfl rfl rfl (by decide +kernel) ⟨Nat.le_of_ble_eq_true rfl, Nat.le_of_ble_eq_true rfl⟩) (zob_s ew24) kc_12 rfl (Nat.le_of_ble_eq_true rfl) ⟨Nat.le_of_ble_eq_true rfl, Nat.le_of_ble_eq_true rfl⟩ ?_
  refine z_aload_n X dd_Mo_variable_126 rfl 0 rfl ?_
  obtain ⟨w26, ew26, h⟩ := zb h
  obtain ⟨q25, eq25, h⟩ := zb h
  refine z_callVv X [] rfl dd_Mo_variable_127 (c_Mo_pass l eq25) (cwV 0 X.1.2.2.2.2 (zg_V km_1920 km_1922 km_72 km_138 km_1923) rfl rfl rfl (by decide +kernel) ⟨Nat.le_of_ble_eq_true rfl, Nat.le_of_ble_eq_true rfl⟩) (zob_s ew26) kc_12 rfl (Nat.le_of_ble_eq_true rfl) ⟨Nat.le_of_ble_eq_true rfl, Nat.le_of_ble_eq_true rfl⟩ ?_
  obtain rfl := Option.some.inj h
  exact z_vret X H.1 H.2.1 H.2.2.1 dd_Mo_variable_130
set_option maxRecDepth 100000 in
set_option maxHeartbeats 4000000 in
theorem t_Mo_variable_63  (X : zX p s m args cd D cid B bb_Mo_variable 2 rr_Mo zT) (H : zH s meth B n0 none "variable") {nf : Nat} {x1 : Int32} {s0 : Nat} {s1 : Int32} {c : Zc} {res : Zc} (h : f_Mo_variable_63 nf x1 s0 s1 c = some res) : Zz p l e (zRm 4 83 0 0) s m args below meth cd (MQ below (zQv D cid B res n0 0) args s 0 0 (fun q => B ≤ q)) D cid B 2 0 0 c 63 [(1, .int x1)] [.int s1, .ref s0] := by
  unfold f_Mo_variable_63 at h
  refine z_iload_n X dd_Mo_variable_63 rfl 0 rfl ?_
  refine z_bipush (v := 100) X dd_Mo_variable_64 (by decide) ?_
  refine z_irem X dd_Mo_variable_66 (by decide) ?_
  obtain ⟨w37, ew37, h⟩ := zb h
  obtain ⟨q36, eq36, h⟩ := zb h
  refine z_callVv X [.int s1, .int (x1 - x1 / 100 * 100)] rfl dd_Mo_variable_67 (c_Mo_code l eq36) (cwV 2 X.1.2.2.2.2 (zg_V km_2004 km_2006 km_93 km_138 km_2007) rfl rfl rfl (by decide +kernel) ⟨Nat.le_of_ble_eq_true rfl, Nat.le_of_ble_eq_true rfl⟩) (zob_s ew37) kc_12 rfl (Nat.le_of_ble_eq_true rfl) ⟨Nat.le_of_ble_eq_true rfl, Nat.le_of_ble_eq_true rfl⟩ ?_
  obtain rfl := Option.some.inj h
  exact z_vret X H.1 H.2.1 H.2.2.1 dd_Mo_variable_70
set_option maxRecDepth 100000 in
set_option maxHeartbeats 4000000 in
theorem t_Mo_variable_38  (X : zX p s m args cd D cid B bb_Mo_variable 2 rr_Mo zT) (H : zH s meth B n0 none "variable") {nf : Nat} {x0 : Nat} {x1 : Int32} {c : Zc} {res : Zc} (h : f_Mo_variable_38 nf x0 x1 c = some res) : Zz p l e (zRm 4 83 0 0) s m args below meth cd (MQ below (zQv D cid B res n0 0) args s 0 0 (fun q => B ≤ q)) D cid B 2 0 0 c 38 [(0, .ref x0), (1, .int x1)] [] := by
  unfold f_Mo_variable_38 at h
  refine z_aload_n X dd_Mo_variable_38 rfl 0 rfl ?_
  obtain ⟨w10, ew10, h⟩ := zb h
  obtain ⟨q9, eq9, h⟩ := zb h
  refine z_callVv X [] rfl dd_Mo_variable_39 (c_Mo_pass l eq9) (cwV 0 X.1.2.2.2.2 (zg_V km_1920 km_1922 km_72 km_138 km_1923) rfl rfl rfl (by decide +kernel) ⟨Nat.le_of_ble_eq_true rfl, Nat.le_of_ble_eq_true rfl⟩) (zob_s ew10) kc_12 rfl (Nat.le_of_ble_eq_true rfl) ⟨Nat.le_of_ble_eq_true rfl, Nat.le_of_ble_eq_true rfl⟩ ?_
  refine z_aload_n X dd_Mo_variable_42 rfl 0 rfl ?_
  refine z_bipush (v := 46) X dd_Mo_variable_43 (by decide) ?_
  obtain ⟨w12, ew12, h⟩ := zb h
  obtain ⟨q11, eq11, h⟩ := zb h
  refine z_callVi X [.int 46] rfl dd_Mo_variable_45 (c_Mo_takes l eq11) (cwV 1 X.1.2.2.2.2 (zg_V km_1908 km_1910 km_69 km_138 km_1911) rfl rfl rfl (by decide +kernel) ⟨Nat.le_of_ble_eq_true rfl, Nat.le_of_ble_eq_true rfl⟩) (zob_s ew12) kc_12 rfl (Nat.le_of_ble_eq_true rfl) ⟨Nat.le_of_ble_eq_true rfl, Nat.le_of_ble_eq_true rfl⟩ ?_
  refine z_if_ne (tgt := 71) X dd_Mo_variable_48 (by decide) (fun q13 => ?_) (fun q13 => ?_)
  · rw [if_neg q13] at h
    refine z_aload_n X dd_Mo_variable_71 rfl 0 rfl ?_
    obtain ⟨w15, ew15, h⟩ := zb h
    obtain ⟨q14, eq14, h⟩ := zb h
    refine z_callVi X [] rfl dd_Mo_variable_72 (c_Mo_kind l eq14) (cwV 0 X.1.2.2.2.2 (zg_V km_1912 km_1914 km_70 km_138 km_1915) rfl rfl rfl (by decide +kernel) ⟨Nat.le_of_ble_eq_true rfl, Nat.le_of_ble_eq_true rfl⟩) (zob_s ew15) kc_12 rfl (Nat.le_of_ble_eq_true rfl) ⟨Nat.le_of_ble_eq_true rfl, Nat.le_of_ble_eq_true rfl⟩ ?_
    refine z_iconst (v := 4) X dd_Mo_variable_75 (by decide) ?_
    refine z_icmp_eq (tgt := 84) X dd_Mo_variable_76 (by decide) (fun q16 => ?_) (fun q16 => ?_)
    · rw [if_pos q16] at h
      refine z_aload_n X dd_Mo_variable_84 rfl 0 rfl ?_
      obtain ⟨w18, ew18, h⟩ := zb h
      obtain ⟨q17, eq17, h⟩ := zb h
      refine z_callVv X [] rfl dd_Mo_variable_85 (c_Mo_stands l eq17) (cwV 0 X.1.2.2.2.2 (zg_V km_1924 km_1926 km_73 km_138 km_1927) rfl rfl rfl (by decide +kernel) ⟨Nat.le_of_ble_eq_true rfl, Nat.le_of_ble_eq_true rfl⟩) (zob_s ew18) kc_12 rfl (Nat.le_of_ble_eq_true rfl) ⟨Nat.le_of_ble_eq_true rfl, Nat.le_of_ble_eq_true rfl⟩ ?_
      refine z_iload_n X dd_Mo_variable_88 rfl 1 rfl ?_
      refine z_bipush (v := 100) X dd_Mo_variable_89 (by decide) ?_
      refine z_icmp_lt (tgt := 108) X dd_Mo_variable_91 (by decide) (fun q19 => ?_) (fun q19 => ?_)
      · rw [if_pos q19] at h
        exact t_Mo_variable_108 X H h
      · rw [if_neg q19] at h
        refine z_aload_n X dd_Mo_variable_94 rfl 0 rfl ?_
        refine z_iconst (v := 5) X dd_Mo_variable_95 (by decide) ?_
        refine z_aload_n X dd_Mo_variable_96 rfl 0 rfl ?_
        obtain ⟨v27, ev27, h⟩ := zb h
        refine z_get (j := 16) X dd_Mo_variable_97 kc_12 ki_12 (by decide) km_1537 (zgr_v ev27) ?_
        refine z_aload_n X dd_Mo_variable_100 rfl 0 rfl ?_
        obtain ⟨v28, ev28, h⟩ := zb h
        refine z_get (j := 18) X dd_Mo_variable_101 kc_12 ki_12 (by decide) km_1539 (zgi_v ev28) ?_
        obtain ⟨v29, ev29, h⟩ := zb h
        refine z_iaload X dd_Mo_variable_104 rfl ev29 ?_
        obtain ⟨w31, ew31, h⟩ := zb h
        obtain ⟨q30, eq30, h⟩ := zb h
        refine z_callVv X [.int 5, .int v29] rfl dd_Mo_variable_105 (c_Mo_refuse l eq30) (cwV 2 X.1.2.2.2.2 (zg_V km_1916 km_1918 km_71 km_138 km_1919) rfl rfl rfl (by decide +kernel) ⟨Nat.le_of_ble_eq_true rfl, Nat.le_of_ble_eq_true rfl⟩) (zob_s ew31) kc_12 rfl (Nat.le_of_ble_eq_true rfl) ⟨Nat.le_of_ble_eq_true rfl, Nat.le_of_ble_eq_true rfl⟩ ?_
        exact t_Mo_variable_108 X H h
    · rw [if_neg q16] at h
      refine z_aload_n X dd_Mo_variable_79 rfl 0 rfl ?_
      obtain ⟨w33, ew33, h⟩ := zb h
      obtain ⟨q32, eq32, h⟩ := zb h
      refine z_callVv X [] rfl dd_Mo_variable_80 (c_Mo_wrong l eq32) (cwV 0 X.1.2.2.2.2 (zg_V km_1928 km_1930 km_74 km_138 km_1931) rfl rfl rfl (by decide +kernel) ⟨Nat.le_of_ble_eq_true rfl, Nat.le_of_ble_eq_true rfl⟩) (zob_s ew33) kc_12 rfl (Nat.le_of_ble_eq_true rfl) ⟨Nat.le_of_ble_eq_true rfl, Nat.le_of_ble_eq_true rfl⟩ ?_
      obtain rfl := Option.some.inj h
      exact z_vret X H.1 H.2.1 H.2.2.1 dd_Mo_variable_83
  · rw [if_pos q13] at h
    refine z_aload_n X dd_Mo_variable_51 rfl 0 rfl ?_
    refine z_iload_n X dd_Mo_variable_52 rfl 1 rfl ?_
    refine z_bipush (v := 100) X dd_Mo_variable_53 (by decide) ?_
    refine z_icmp_lt (tgt := 62) X dd_Mo_variable_55 (by decide) (fun q34 => ?_) (fun q34 => ?_)
    · rw [if_pos q34] at h
      refine z_iconst (v := 1) X dd_Mo_variable_62 (by decide) ?_
      refine z_sub [1] rfl ?_
      exact t_Mo_variable_63 X H h
    · rw [if_neg q34] at h
      refine z_iconst (v := 2) X dd_Mo_variable_58 (by decide) ?_
      refine z_goto (tgt := 63) X dd_Mo_variable_59 (by decide) ?_
      refine z_sub [1] rfl ?_
      exact t_Mo_variable_63 X H h
set_option maxRecDepth 100000 in
set_option maxHeartbeats 4000000 in
theorem c_Mo_variable (l : Launch) {nf : Nat} {a0 : Nat} {c : Zc} {res : Zc} (h : f_Mo_variable nf a0 c = some res) : zM l yy_Mo_variable ww_Mo_variable 4 83 0 0 [.ref a0] c (fun D cid B => zQv D cid B res c.length 0) := by
  refine z_met (cc := bb_Mo_variable) (maxL := 2) (ret := none) (by decide +kernel) rfl (Nat.le_of_ble_eq_true rfl) ?_
  intro p e s m args below meth cd D cid B X h1 h2 h3 h4
  have X : zX p s m args cd D cid B bb_Mo_variable 2 rr_Mo zT := X
  have H : zH s meth B c.length none "variable" := ⟨h1, h2, h4, h3⟩
  unfold f_Mo_variable at h
  show Zz p l e (zRm 4 83 0 0) s m args below meth cd _ D cid B 2 0 0 c 0 [(0, .ref a0)] []
  refine z_aload_n X dd_Mo_variable_0 rfl 0 rfl ?_
  obtain ⟨w2, ew2, h⟩ := zb h
  obtain ⟨q1, eq1, h⟩ := zb h
  refine z_callVv X [] rfl dd_Mo_variable_1 (c_Mo_stands l eq1) (cwV 0 X.1.2.2.2.2 (zg_V km_1924 km_1926 km_73 km_138 km_1927) rfl rfl rfl (by decide +kernel) ⟨Nat.le_of_ble_eq_true rfl, Nat.le_of_ble_eq_true rfl⟩) (zob_s ew2) kc_12 rfl (Nat.le_of_ble_eq_true rfl) ⟨Nat.le_of_ble_eq_true rfl, Nat.le_of_ble_eq_true rfl⟩ ?_
  refine z_aload_n X dd_Mo_variable_4 rfl 0 rfl ?_
  obtain ⟨v3, ev3, h⟩ := zb h
  refine z_get (j := 54) X dd_Mo_variable_5 kc_12 ki_12 (by decide) km_1575 (zgr_v ev3) ?_
  refine z_aload_n X dd_Mo_variable_8 rfl 0 rfl ?_
  obtain ⟨v4, ev4, h⟩ := zb h
  refine z_get (j := 15) X dd_Mo_variable_9 kc_12 ki_12 (by decide) km_1536 (zgr_v ev4) ?_
  refine z_aload_n X dd_Mo_variable_12 rfl 0 rfl ?_
  obtain ⟨v5, ev5, h⟩ := zb h
  refine z_get (j := 18) X dd_Mo_variable_13 kc_12 ki_12 (by decide) km_1539 (zgi_v ev5) ?_
  obtain ⟨v6, ev6, h⟩ := zb h
  refine z_iaload X dd_Mo_variable_16 rfl ev6 ?_
  obtain ⟨v7, ev7, h⟩ := zb h
  refine z_iaload X dd_Mo_variable_17 rfl ev7 ?_
  refine z_istore_n (lv' := [(1, .int v7), (0, .ref a0)]) X dd_Mo_variable_18 rfl (by decide) rfl ?_
  refine z_iload_n X dd_Mo_variable_19 rfl 0 rfl ?_
  refine z_iconst (v := (-1)) X dd_Mo_variable_20 (by decide) ?_
  refine z_icmp_ne (tgt := 38) X dd_Mo_variable_21 (by decide) (fun q8 => ?_) (fun q8 => ?_)
  · rw [if_neg q8] at h
    refine z_sub [1, 0] rfl ?_
    exact t_Mo_variable_38 X H h
  · rw [if_pos q8] at h
    refine z_aload_n X dd_Mo_variable_24 rfl 1 rfl ?_
    refine z_iconst (v := 5) X dd_Mo_variable_25 (by decide) ?_
    refine z_aload_n X dd_Mo_variable_26 rfl 1 rfl ?_
    obtain ⟨v38, ev38, h⟩ := zb h
    refine z_get (j := 16) X dd_Mo_variable_27 kc_12 ki_12 (by decide) km_1537 (zgr_v ev38) ?_
    refine z_aload_n X dd_Mo_variable_30 rfl 1 rfl ?_
    obtain ⟨v39, ev39, h⟩ := zb h
    refine z_get (j := 18) X dd_Mo_variable_31 kc_12 ki_12 (by decide) km_1539 (zgi_v ev39) ?_
    obtain ⟨v40, ev40, h⟩ := zb h
    refine z_iaload X dd_Mo_variable_34 rfl ev40 ?_
    obtain ⟨w42, ew42, h⟩ := zb h
    obtain ⟨q41, eq41, h⟩ := zb h
    refine z_callVv X [.int 5, .int v40] rfl dd_Mo_variable_35 (c_Mo_refuse l eq41) (cwV 2 X.1.2.2.2.2 (zg_V km_1916 km_1918 km_71 km_138 km_1919) rfl rfl rfl (by decide +kernel) ⟨Nat.le_of_ble_eq_true rfl, Nat.le_of_ble_eq_true rfl⟩) (zob_s ew42) kc_12 rfl (Nat.le_of_ble_eq_true rfl) ⟨Nat.le_of_ble_eq_true rfl, Nat.le_of_ble_eq_true rfl⟩ ?_
    refine z_sub [1, 0] rfl ?_
    exact t_Mo_variable_38 X H h
theorem dd_Mo_unit_0 : decode bb_Mo_unit 0 = .ok (.aload_n 0, 1) := by decide +kernel
theorem dd_Mo_unit_1 : decode bb_Mo_unit 1 = .ok (.getfield 173, 3) := by decide +kernel
theorem dd_Mo_unit_4 : decode bb_Mo_unit 4 = .ok (.iload_n 1, 1) := by decide +kernel
theorem dd_Mo_unit_5 : decode bb_Mo_unit 5 = .ok (.iaload, 1) := by decide +kernel
theorem dd_Mo_unit_6 : decode bb_Mo_unit 6 = .ok (.iconst 1, 1) := by decide +kernel
theorem dd_Mo_unit_7 : decode bb_Mo_unit 7 = .ok (.if_icmp .ne 33, 3) := by decide +kernel
theorem dd_Mo_unit_10 : decode bb_Mo_unit 10 = .ok (.aload_n 0, 1) := by decide +kernel
theorem dd_Mo_unit_11 : decode bb_Mo_unit 11 = .ok (.bipush 7, 2) := by decide +kernel
theorem dd_Mo_unit_13 : decode bb_Mo_unit 13 = .ok (.iconst 0, 1) := by decide +kernel
theorem dd_Mo_unit_14 : decode bb_Mo_unit 14 = .ok (.invokevirtual 408, 3) := by decide +kernel
theorem dd_Mo_unit_17 : decode bb_Mo_unit 17 = .ok (.aload_n 0, 1) := by decide +kernel
theorem dd_Mo_unit_18 : decode bb_Mo_unit 18 = .ok (.dup, 1) := by decide +kernel
theorem dd_Mo_unit_19 : decode bb_Mo_unit 19 = .ok (.getfield 322, 3) := by decide +kernel
theorem dd_Mo_unit_22 : decode bb_Mo_unit 22 = .ok (.iconst 1, 1) := by decide +kernel
theorem dd_Mo_unit_23 : decode bb_Mo_unit 23 = .ok (.isub, 1) := by decide +kernel
theorem dd_Mo_unit_24 : decode bb_Mo_unit 24 = .ok (.putfield 322, 3) := by decide +kernel
theorem dd_Mo_unit_27 : decode bb_Mo_unit 27 = .ok (.aload_n 0, 1) := by decide +kernel
theorem dd_Mo_unit_28 : decode bb_Mo_unit 28 = .ok (.dup, 1) := by decide +kernel
theorem dd_Mo_unit_29 : decode bb_Mo_unit 29 = .ok (.getfield 389, 3) := by decide +kernel
theorem dd_Mo_unit_32 : decode bb_Mo_unit 32 = .ok (.iconst 1, 1) := by decide +kernel
theorem dd_Mo_unit_33 : decode bb_Mo_unit 33 = .ok (.isub, 1) := by decide +kernel
theorem dd_Mo_unit_34 : decode bb_Mo_unit 34 = .ok (.putfield 389, 3) := by decide +kernel
theorem dd_Mo_unit_37 : decode bb_Mo_unit 37 = .ok (.goto 181, 3) := by decide +kernel
theorem dd_Mo_unit_40 : decode bb_Mo_unit 40 = .ok (.aload_n 0, 1) := by decide +kernel
theorem dd_Mo_unit_41 : decode bb_Mo_unit 41 = .ok (.getfield 173, 3) := by decide +kernel
theorem dd_Mo_unit_44 : decode bb_Mo_unit 44 = .ok (.iload_n 1, 1) := by decide +kernel
theorem dd_Mo_unit_45 : decode bb_Mo_unit 45 = .ok (.iaload, 1) := by decide +kernel
theorem dd_Mo_unit_46 : decode bb_Mo_unit 46 = .ok (.iconst 2, 1) := by decide +kernel
theorem dd_Mo_unit_47 : decode bb_Mo_unit 47 = .ok (.if_icmp .ne 32, 3) := by decide +kernel
theorem dd_Mo_unit_50 : decode bb_Mo_unit 50 = .ok (.aload_n 0, 1) := by decide +kernel
theorem dd_Mo_unit_51 : decode bb_Mo_unit 51 = .ok (.bipush 41, 2) := by decide +kernel
theorem dd_Mo_unit_53 : decode bb_Mo_unit 53 = .ok (.invokevirtual 334, 3) := by decide +kernel
theorem dd_Mo_unit_56 : decode bb_Mo_unit 56 = .ok (.aload_n 0, 1) := by decide +kernel
theorem dd_Mo_unit_57 : decode bb_Mo_unit 57 = .ok (.dup, 1) := by decide +kernel
theorem dd_Mo_unit_58 : decode bb_Mo_unit 58 = .ok (.getfield 322, 3) := by decide +kernel
theorem dd_Mo_unit_61 : decode bb_Mo_unit 61 = .ok (.iconst 1, 1) := by decide +kernel
theorem dd_Mo_unit_62 : decode bb_Mo_unit 62 = .ok (.isub, 1) := by decide +kernel
theorem dd_Mo_unit_63 : decode bb_Mo_unit 63 = .ok (.putfield 322, 3) := by decide +kernel
theorem dd_Mo_unit_66 : decode bb_Mo_unit 66 = .ok (.aload_n 0, 1) := by decide +kernel
theorem dd_Mo_unit_67 : decode bb_Mo_unit 67 = .ok (.dup, 1) := by decide +kernel
theorem dd_Mo_unit_68 : decode bb_Mo_unit 68 = .ok (.getfield 389, 3) := by decide +kernel
theorem dd_Mo_unit_71 : decode bb_Mo_unit 71 = .ok (.iconst 1, 1) := by decide +kernel
theorem dd_Mo_unit_72 : decode bb_Mo_unit 72 = .ok (.isub, 1) := by decide +kernel
theorem dd_Mo_unit_73 : decode bb_Mo_unit 73 = .ok (.putfield 389, 3) := by decide +kernel
theorem dd_Mo_unit_76 : decode bb_Mo_unit 76 = .ok (.goto 142, 3) := by decide +kernel
theorem dd_Mo_unit_79 : decode bb_Mo_unit 79 = .ok (.aload_n 0, 1) := by decide +kernel
theorem dd_Mo_unit_80 : decode bb_Mo_unit 80 = .ok (.bipush 45, 2) := by decide +kernel
theorem dd_Mo_unit_82 : decode bb_Mo_unit 82 = .ok (.invokevirtual 316, 3) := by decide +kernel
theorem dd_Mo_unit_85 : decode bb_Mo_unit 85 = .ok (.ifCond .eq 22, 3) := by decide +kernel
theorem dd_Mo_unit_88 : decode bb_Mo_unit 88 = .ok (.aload_n 0, 1) := by decide +kernel
theorem dd_Mo_unit_89 : decode bb_Mo_unit 89 = .ok (.invokevirtual 373, 3) := by decide +kernel
theorem dd_Mo_unit_92 : decode bb_Mo_unit 92 = .ok (.aload_n 0, 1) := by decide +kernel
theorem dd_Mo_unit_93 : decode bb_Mo_unit 93 = .ok (.getfield 173, 3) := by decide +kernel
theorem dd_Mo_unit_96 : decode bb_Mo_unit 96 = .ok (.iload_n 1, 1) := by decide +kernel
theorem dd_Mo_unit_97 : decode bb_Mo_unit 97 = .ok (.iconst 1, 1) := by decide +kernel
theorem dd_Mo_unit_98 : decode bb_Mo_unit 98 = .ok (.iastore, 1) := by decide +kernel
theorem dd_Mo_unit_99 : decode bb_Mo_unit 99 = .ok (.aload_n 0, 1) := by decide +kernel
theorem dd_Mo_unit_100 : decode bb_Mo_unit 100 = .ok (.iconst 5, 1) := by decide +kernel
theorem dd_Mo_unit_101 : decode bb_Mo_unit 101 = .ok (.invokevirtual 392, 3) := by decide +kernel
theorem dd_Mo_unit_104 : decode bb_Mo_unit 104 = .ok (.goto 114, 3) := by decide +kernel
theorem dd_Mo_unit_107 : decode bb_Mo_unit 107 = .ok (.aload_n 0, 1) := by decide +kernel
theorem dd_Mo_unit_108 : decode bb_Mo_unit 108 = .ok (.bipush 40, 2) := by decide +kernel
theorem dd_Mo_unit_110 : decode bb_Mo_unit 110 = .ok (.invokevirtual 316, 3) := by decide +kernel
theorem dd_Mo_unit_113 : decode bb_Mo_unit 113 = .ok (.ifCond .eq 22, 3) := by decide +kernel
theorem dd_Mo_unit_116 : decode bb_Mo_unit 116 = .ok (.aload_n 0, 1) := by decide +kernel
theorem dd_Mo_unit_117 : decode bb_Mo_unit 117 = .ok (.invokevirtual 373, 3) := by decide +kernel
theorem dd_Mo_unit_120 : decode bb_Mo_unit 120 = .ok (.aload_n 0, 1) := by decide +kernel
theorem dd_Mo_unit_121 : decode bb_Mo_unit 121 = .ok (.getfield 173, 3) := by decide +kernel
theorem dd_Mo_unit_124 : decode bb_Mo_unit 124 = .ok (.iload_n 1, 1) := by decide +kernel
theorem dd_Mo_unit_125 : decode bb_Mo_unit 125 = .ok (.iconst 2, 1) := by decide +kernel
theorem dd_Mo_unit_126 : decode bb_Mo_unit 126 = .ok (.iastore, 1) := by decide +kernel
theorem dd_Mo_unit_127 : decode bb_Mo_unit 127 = .ok (.aload_n 0, 1) := by decide +kernel
theorem dd_Mo_unit_128 : decode bb_Mo_unit 128 = .ok (.iconst 3, 1) := by decide +kernel
theorem dd_Mo_unit_129 : decode bb_Mo_unit 129 = .ok (.invokevirtual 392, 3) := by decide +kernel
theorem dd_Mo_unit_132 : decode bb_Mo_unit 132 = .ok (.goto 86, 3) := by decide +kernel
theorem dd_Mo_unit_135 : decode bb_Mo_unit 135 = .ok (.aload_n 0, 1) := by decide +kernel
theorem dd_Mo_unit_136 : decode bb_Mo_unit 136 = .ok (.getfield 294, 3) := by decide +kernel
theorem dd_Mo_unit_139 : decode bb_Mo_unit 139 = .ok (.ifCond .ne 43, 3) := by decide +kernel
theorem dd_Mo_unit_142 : decode bb_Mo_unit 142 = .ok (.aload_n 0, 1) := by decide +kernel
theorem dd_Mo_unit_143 : decode bb_Mo_unit 143 = .ok (.invokevirtual 306, 3) := by decide +kernel
theorem dd_Mo_unit_146 : decode bb_Mo_unit 146 = .ok (.bipush 6, 2) := by decide +kernel
theorem dd_Mo_unit_148 : decode bb_Mo_unit 148 = .ok (.if_icmp .ne 34, 3) := by decide +kernel
theorem dd_Mo_unit_151 : decode bb_Mo_unit 151 = .ok (.aload_n 0, 1) := by decide +kernel
theorem dd_Mo_unit_152 : decode bb_Mo_unit 152 = .ok (.iconst 0, 1) := by decide +kernel
theorem dd_Mo_unit_153 : decode bb_Mo_unit 153 = .ok (.aload_n 0, 1) := by decide +kernel
theorem dd_Mo_unit_154 : decode bb_Mo_unit 154 = .ok (.getfield 46, 3) := by decide +kernel
theorem dd_Mo_unit_157 : decode bb_Mo_unit 157 = .ok (.aload_n 0, 1) := by decide +kernel
theorem dd_Mo_unit_158 : decode bb_Mo_unit 158 = .ok (.getfield 300, 3) := by decide +kernel
theorem dd_Mo_unit_161 : decode bb_Mo_unit 161 = .ok (.iaload, 1) := by decide +kernel
theorem dd_Mo_unit_162 : decode bb_Mo_unit 162 = .ok (.invokevirtual 408, 3) := by decide +kernel
theorem dd_Mo_unit_165 : decode bb_Mo_unit 165 = .ok (.aload_n 0, 1) := by decide +kernel
theorem dd_Mo_unit_166 : decode bb_Mo_unit 166 = .ok (.invokevirtual 313, 3) := by decide +kernel
theorem dd_Mo_unit_169 : decode bb_Mo_unit 169 = .ok (.aload_n 0, 1) := by decide +kernel
theorem dd_Mo_unit_170 : decode bb_Mo_unit 170 = .ok (.dup, 1) := by decide +kernel
theorem dd_Mo_unit_171 : decode bb_Mo_unit 171 = .ok (.getfield 389, 3) := by decide +kernel
theorem dd_Mo_unit_174 : decode bb_Mo_unit 174 = .ok (.iconst 1, 1) := by decide +kernel
theorem dd_Mo_unit_175 : decode bb_Mo_unit 175 = .ok (.isub, 1) := by decide +kernel
theorem dd_Mo_unit_176 : decode bb_Mo_unit 176 = .ok (.putfield 389, 3) := by decide +kernel
theorem dd_Mo_unit_179 : decode bb_Mo_unit 179 = .ok (.goto 39, 3) := by decide +kernel
theorem dd_Mo_unit_182 : decode bb_Mo_unit 182 = .ok (.aload_n 0, 1) := by decide +kernel
theorem dd_Mo_unit_183 : decode bb_Mo_unit 183 = .ok (.getfield 294, 3) := by decide +kernel
theorem dd_Mo_unit_186 : decode bb_Mo_unit 186 = .ok (.ifCond .ne 28, 3) := by decide +kernel
theorem dd_Mo_unit_189 : decode bb_Mo_unit 189 = .ok (.aload_n 0, 1) := by decide +kernel
theorem dd_Mo_unit_190 : decode bb_Mo_unit 190 = .ok (.invokevirtual 306, 3) := by decide +kernel
theorem dd_Mo_unit_193 : decode bb_Mo_unit 193 = .ok (.iconst 2, 1) := by decide +kernel
theorem dd_Mo_unit_194 : decode bb_Mo_unit 194 = .ok (.if_icmp .ne 20, 3) := by decide +kernel
theorem dd_Mo_unit_197 : decode bb_Mo_unit 197 = .ok (.aload_n 0, 1) := by decide +kernel
theorem dd_Mo_unit_198 : decode bb_Mo_unit 198 = .ok (.invokevirtual 423, 3) := by decide +kernel
theorem dd_Mo_unit_201 : decode bb_Mo_unit 201 = .ok (.aload_n 0, 1) := by decide +kernel
theorem dd_Mo_unit_202 : decode bb_Mo_unit 202 = .ok (.dup, 1) := by decide +kernel
theorem dd_Mo_unit_203 : decode bb_Mo_unit 203 = .ok (.getfield 389, 3) := by decide +kernel
theorem dd_Mo_unit_206 : decode bb_Mo_unit 206 = .ok (.iconst 1, 1) := by decide +kernel
theorem dd_Mo_unit_207 : decode bb_Mo_unit 207 = .ok (.isub, 1) := by decide +kernel
theorem dd_Mo_unit_208 : decode bb_Mo_unit 208 = .ok (.putfield 389, 3) := by decide +kernel
theorem dd_Mo_unit_211 : decode bb_Mo_unit 211 = .ok (.goto 7, 3) := by decide +kernel
theorem dd_Mo_unit_214 : decode bb_Mo_unit 214 = .ok (.aload_n 0, 1) := by decide +kernel
theorem dd_Mo_unit_215 : decode bb_Mo_unit 215 = .ok (.invokevirtual 319, 3) := by decide +kernel
theorem dd_Mo_unit_218 : decode bb_Mo_unit 218 = .ok (.return_, 1) := by decide +kernel
set_option maxRecDepth 100000 in
set_option maxHeartbeats 4000000 in
theorem t_Mo_unit_218  (X : zX p s m args cd D cid B bb_Mo_unit 2 rr_Mo zT) (H : zH s meth B n0 none "unit") {nf : Nat}  {c : Zc} {res : Zc} (h : f_Mo_unit_218 nf  c = some res) : Zz p l e (zRm 5 104 0 0) s m args below meth cd (MQ below (zQv D cid B res n0 0) args s 0 0 (fun q => B ≤ q)) D cid B 2 0 0 c 218 [] [] := by
  unfold f_Mo_unit_218 at h
  obtain rfl := Option.some.inj h
  exact z_vret X H.1 H.2.1 H.2.2.1 dd_Mo_unit_218
set_option maxRecDepth 100000 in
set_option maxHeartbeats 4000000 in
theorem t_Mo_unit_214  (X : zX p s m args cd D cid B bb_Mo_unit 2 rr_Mo zT) (H : zH s meth B n0 none "unit") {nf : Nat} {x0 : Nat} {c : Zc} {res : Zc} (h : f_Mo_unit_214 nf x0 c = some res) : Zz p l e (zRm 5 104 0 0) s m args below meth cd (MQ below (zQv D cid B res n0 0) args s 0 0 (fun q => B ≤ q)) D cid B 2 0 0 c 214 [(0, .ref x0)] [] := by
  unfold f_Mo_unit_214 at h
  refine z_aload_n X dd_Mo_unit_214 rfl 0 rfl ?_
  obtain ⟨w18, ew18, h⟩ := zb h
  obtain ⟨q17, eq17, h⟩ := zb h
  refine z_callVv X [] rfl dd_Mo_unit_215 (c_Mo_wrong l eq17) (cwV 0 X.1.2.2.2.2 (zg_V km_1928 km_1930 km_74 km_138 km_1931) rfl rfl rfl (by decide +kernel) ⟨Nat.le_of_ble_eq_true rfl, Nat.le_of_ble_eq_true rfl⟩) (zob_s ew18) kc_12 rfl (Nat.le_of_ble_eq_true rfl) ⟨Nat.le_of_ble_eq_true rfl, Nat.le_of_ble_eq_true rfl⟩ ?_
  refine z_sub [] rfl ?_
  exact t_Mo_unit_218 X H h
set_option maxRecDepth 100000 in
set_option maxHeartbeats 4000000 in
theorem t_Mo_unit_182  (X : zX p s m args cd D cid B bb_Mo_unit 2 rr_Mo zT) (H : zH s meth B n0 none "unit") {nf : Nat} {x0 : Nat} {c : Zc} {res : Zc} (h : f_Mo_unit_182 nf x0 c = some res) : Zz p l e (zRm 5 104 0 0) s m args below meth cd (MQ below (zQv D cid B res n0 0) args s 0 0 (fun q => B ≤ q)) D cid B 2 0 0 c 182 [(0, .ref x0)] [] := by
  unfold f_Mo_unit_182 at h
  refine z_aload_n X dd_Mo_unit_182 rfl 0 rfl ?_
  obtain ⟨v15, ev15, h⟩ := zb h
  refine z_get (j := 19) X dd_Mo_unit_183 kc_12 ki_12 (by decide) km_1540 (zgi_v ev15) ?_
  refine z_if_ne (tgt := 214) X dd_Mo_unit_186 (by decide) (fun q16 => ?_) (fun q16 => ?_)
  · rw [if_neg q16] at h
    exact t_Mo_unit_214 X H h
  · rw [if_pos q16] at h
    refine z_aload_n X dd_Mo_unit_189 rfl 0 rfl ?_
    obtain ⟨w20, ew20, h⟩ := zb h
    obtain ⟨q19, eq19, h⟩ := zb h
    refine z_callVi X [] rfl dd_Mo_unit_190 (c_Mo_kind l eq19) (cwV 0 X.1.2.2.2.2 (zg_V km_1912 km_1914 km_70 km_138 km_1915) rfl rfl rfl (by decide +kernel) ⟨Nat.le_of_ble_eq_true rfl, Nat.le_of_ble_eq_true rfl⟩) (zob_s ew20) kc_12 rfl (Nat.le_of_ble_eq_true rfl) ⟨Nat.le_of_ble_eq_true rfl, Nat.le_of_ble_eq_true rfl⟩ ?_
    refine z_iconst (v := 2) X dd_Mo_unit_193 (by decide) ?_
    refine z_icmp_ne (tgt := 214) X dd_Mo_unit_194 (by decide) (fun q21 => ?_) (fun q21 => ?_)
    · rw [if_neg q21] at h
      exact t_Mo_unit_214 X H h
    · rw [if_pos q21] at h
      refine z_aload_n X dd_Mo_unit_197 rfl 0 rfl ?_
      obtain ⟨w23, ew23, h⟩ := zb h
      obtain ⟨q22, eq22, h⟩ := zb h
      refine z_callVv X [] rfl dd_Mo_unit_198 (c_Mo_variable l eq22) (cwV 0 X.1.2.2.2.2 (zg_V km_2031 km_2033 km_99 km_138 km_2034) rfl rfl rfl (by decide +kernel) ⟨Nat.le_of_ble_eq_true rfl, Nat.le_of_ble_eq_true rfl⟩) (zob_s ew23) kc_12 rfl (Nat.le_of_ble_eq_true rfl) ⟨Nat.le_of_ble_eq_true rfl, Nat.le_of_ble_eq_true rfl⟩ ?_
      refine z_aload_n X dd_Mo_unit_201 rfl 0 rfl ?_
      refine z_dup X dd_Mo_unit_202 rfl ?_
      obtain ⟨v24, ev24, h⟩ := zb h
      refine z_get (j := 69) X dd_Mo_unit_203 kc_12 ki_12 (by decide) km_1590 (zgi_v ev24) ?_
      refine z_iconst (v := 1) X dd_Mo_unit_206 (by decide) ?_
      refine z_isub X dd_Mo_unit_207 ?_
      obtain ⟨c25, ec25, h⟩ := zb h
      refine z_put (j := 69) X dd_Mo_unit_208 kc_12 ki_12 tt_Mo tk_Mo nn_Mo (by decide) km_1590 rfl (tk_Mo 69 (by decide)) rfl rfl ec25 ?_
      refine z_goto (tgt := 218) X dd_Mo_unit_211 (by decide) ?_
      refine z_sub [] rfl ?_
      exact t_Mo_unit_218 X H h
set_option maxRecDepth 100000 in
set_option maxHeartbeats 4000000 in
theorem c_Mo_unit (l : Launch) {nf : Nat} {a0 : Nat} {a1 : Int32} {c : Zc} {res : Zc} (h : f_Mo_unit nf a0 a1 c = some res) : zM l yy_Mo_unit ww_Mo_unit 5 104 0 0 [.ref a0, .int a1] c (fun D cid B => zQv D cid B res c.length 0) := by
  refine z_met (cc := bb_Mo_unit) (maxL := 2) (ret := none) (by decide +kernel) rfl (Nat.le_of_ble_eq_true rfl) ?_
  intro p e s m args below meth cd D cid B X h1 h2 h3 h4
  have X : zX p s m args cd D cid B bb_Mo_unit 2 rr_Mo zT := X
  have H : zH s meth B c.length none "unit" := ⟨h1, h2, h4, h3⟩
  unfold f_Mo_unit at h
  show Zz p l e (zRm 5 104 0 0) s m args below meth cd _ D cid B 2 0 0 c 0 [(0, .ref a0), (1, .int a1)] []
  refine z_aload_n X dd_Mo_unit_0 rfl 0 rfl ?_
  obtain ⟨v1, ev1, h⟩ := zb h
  refine z_get (j := 67) X dd_Mo_unit_1 kc_12 ki_12 (by decide) km_1588 (zgr_v ev1) ?_
  refine z_iload_n X dd_Mo_unit_4 rfl 1 rfl ?_
  obtain ⟨v2, ev2, h⟩ := zb h
  refine z_iaload X dd_Mo_unit_5 rfl ev2 ?_
  refine z_iconst (v := 1) X dd_Mo_unit_6 (by decide) ?_
  refine z_icmp_ne (tgt := 40) X dd_Mo_unit_7 (by decide) (fun q3 => ?_) (fun q3 => ?_)
  · rw [if_neg q3] at h
    refine z_aload_n X dd_Mo_unit_40 rfl 0 rfl ?_
    obtain ⟨v4, ev4, h⟩ := zb h
    refine z_get (j := 67) X dd_Mo_unit_41 kc_12 ki_12 (by decide) km_1588 (zgr_v ev4) ?_
    refine z_iload_n X dd_Mo_unit_44 rfl 1 rfl ?_
    obtain ⟨v5, ev5, h⟩ := zb h
    refine z_iaload X dd_Mo_unit_45 rfl ev5 ?_
    refine z_iconst (v := 2) X dd_Mo_unit_46 (by decide) ?_
    refine z_icmp_ne (tgt := 79) X dd_Mo_unit_47 (by decide) (fun q6 => ?_) (fun q6 => ?_)
    · rw [if_neg q6] at h
      refine z_aload_n X dd_Mo_unit_79 rfl 0 rfl ?_
      refine z_bipush (v := 45) X dd_Mo_unit_80 (by decide) ?_
      obtain ⟨w8, ew8, h⟩ := zb h
      obtain ⟨q7, eq7, h⟩ := zb h
      refine z_callVi X [.int 45] rfl dd_Mo_unit_82 (c_Mo_takes l eq7) (cwV 1 X.1.2.2.2.2 (zg_V km_1908 km_1910 km_69 km_138 km_1911) rfl rfl rfl (by decide +kernel) ⟨Nat.le_of_ble_eq_true rfl, Nat.le_of_ble_eq_true rfl⟩) (zob_s ew8) kc_12 rfl (Nat.le_of_ble_eq_true rfl) ⟨Nat.le_of_ble_eq_true rfl, Nat.le_of_ble_eq_true rfl⟩ ?_
      refine z_if_eq (tgt := 107) X dd_Mo_unit_85 (by decide) (fun q9 => ?_) (fun q9 => ?_)
      · rw [if_pos q9] at h
        refine z_aload_n X dd_Mo_unit_107 rfl 0 rfl ?_
        refine z_bipush (v := 40) X dd_Mo_unit_108 (by decide) ?_
        obtain ⟨w11, ew11, h⟩ := zb h
        obtain ⟨q10, eq10, h⟩ := zb h
        refine z_callVi X [.int 40] rfl dd_Mo_unit_110 (c_Mo_takes l eq10) (cwV 1 X.1.2.2.2.2 (zg_V km_1908 km_1910 km_69 km_138 km_1911) rfl rfl rfl (by decide +kernel) ⟨Nat.le_of_ble_eq_true rfl, Nat.le_of_ble_eq_true rfl⟩) (zob_s ew11) kc_12 rfl (Nat.le_of_ble_eq_true rfl) ⟨Nat.le_of_ble_eq_true rfl, Nat.le_of_ble_eq_true rfl⟩ ?_
        refine z_if_eq (tgt := 135) X dd_Mo_unit_113 (by decide) (fun q12 => ?_) (fun q12 => ?_)
        · rw [if_pos q12] at h
          refine z_aload_n X dd_Mo_unit_135 rfl 0 rfl ?_
          obtain ⟨v13, ev13, h⟩ := zb h
          refine z_get (j := 19) X dd_Mo_unit_136 kc_12 ki_12 (by decide) km_1540 (zgi_v ev13) ?_
          refine z_if_ne (tgt := 182) X dd_Mo_unit_139 (by decide) (fun q14 => ?_) (fun q14 => ?_)
          · rw [if_neg q14] at h
            refine z_sub [0] rfl ?_
            exact t_Mo_unit_182 X H h
          · rw [if_pos q14] at h
            refine z_aload_n X dd_Mo_unit_142 rfl 0 rfl ?_
            obtain ⟨w27, ew27, h⟩ := zb h
            obtain ⟨q26, eq26, h⟩ := zb h
            refine z_callVi X [] rfl dd_Mo_unit_143 (c_Mo_kind l eq26) (cwV 0 X.1.2.2.2.2 (zg_V km_1912 km_1914 km_70 km_138 km_1915) rfl rfl rfl (by decide +kernel) ⟨Nat.le_of_ble_eq_true rfl, Nat.le_of_ble_eq_true rfl⟩) (zob_s ew27) kc_12 rfl (Nat.le_of_ble_eq_true rfl) ⟨Nat.le_of_ble_eq_true rfl, Nat.le_of_ble_eq_true rfl⟩ ?_
            refine z_bipush (v := 6) X dd_Mo_unit_146 (by decide) ?_
            refine z_icmp_ne (tgt := 182) X dd_Mo_unit_148 (by decide) (fun q28 => ?_) (fun q28 => ?_)
            · rw [if_neg q28] at h
              refine z_sub [0] rfl ?_
              exact t_Mo_unit_182 X H h
            · rw [if_pos q28] at h
              refine z_aload_n X dd_Mo_unit_151 rfl 0 rfl ?_
              refine z_iconst (v := 0) X dd_Mo_unit_152 (by decide) ?_
              refine z_aload_n X dd_Mo_unit_153 rfl 0 rfl ?_
              obtain ⟨v29, ev29, h⟩ := zb h
              refine z_get (j := 15) X dd_Mo_unit_154 kc_12 ki_12 (by decide) km_1536 (zgr_v ev29) ?_
              refine z_aload_n X dd_Mo_unit_157 rfl 0 rfl ?_
              obtain ⟨v30, ev30, h⟩ := zb h
              refine z_get (j := 18) X dd_Mo_unit_158 kc_12 ki_12 (by decide) km_1539 (zgi_v ev30) ?_
              obtain ⟨v31, ev31, h⟩ := zb h
              refine z_iaload X dd_Mo_unit_161 rfl ev31 ?_
              obtain ⟨w33, ew33, h⟩ := zb h
              obtain ⟨q32, eq32, h⟩ := zb h
              refine z_callVv X [.int 0, .int v31] rfl dd_Mo_unit_162 (c_Mo_code l eq32) (cwV 2 X.1.2.2.2.2 (zg_V km_2004 km_2006 km_93 km_138 km_2007) rfl rfl rfl (by decide +kernel) ⟨Nat.le_of_ble_eq_true rfl, Nat.le_of_ble_eq_true rfl⟩) (zob_s ew33) kc_12 rfl (Nat.le_of_ble_eq_true rfl) ⟨Nat.le_of_ble_eq_true rfl, Nat.le_of_ble_eq_true rfl⟩ ?_
              refine z_aload_n X dd_Mo_unit_165 rfl 0 rfl ?_
              obtain ⟨w35, ew35, h⟩ := zb h
              obtain ⟨q34, eq34, h⟩ := zb h
              refine z_callVv X [] rfl dd_Mo_unit_166 (c_Mo_pass l eq34) (cwV 0 X.1.2.2.2.2 (zg_V km_1920 km_1922 km_72 km_138 km_1923) rfl rfl rfl (by decide +kernel) ⟨Nat.le_of_ble_eq_true rfl, Nat.le_of_ble_eq_true rfl⟩) (zob_s ew35) kc_12 rfl (Nat.le_of_ble_eq_true rfl) ⟨Nat.le_of_ble_eq_true rfl, Nat.le_of_ble_eq_true rfl⟩ ?_
              refine z_aload_n X dd_Mo_unit_169 rfl 0 rfl ?_
              refine z_dup X dd_Mo_unit_170 rfl ?_
              obtain ⟨v36, ev36, h⟩ := zb h
              refine z_get (j := 69) X dd_Mo_unit_171 kc_12 ki_12 (by decide) km_1590 (zgi_v ev36) ?_
              refine z_iconst (v := 1) X dd_Mo_unit_174 (by decide) ?_
              refine z_isub X dd_Mo_unit_175 ?_
              obtain ⟨c37, ec37, h⟩ := zb h
              refine z_put (j := 69) X dd_Mo_unit_176 kc_12 ki_12 tt_Mo tk_Mo nn_Mo (by decide) km_1590 rfl (tk_Mo 69 (by decide)) rfl rfl ec37 ?_
              refine z_goto (tgt := 218) X dd_Mo_unit_179 (by decide) ?_
              refine z_sub [] rfl ?_
              exact t_Mo_unit_218 X H h
        · rw [if_neg q12] at h
          refine z_aload_n X dd_Mo_unit_116 rfl 0 rfl ?_
          obtain ⟨w39, ew39, h⟩ := zb h
          obtain ⟨q38, eq38, h⟩ := zb h
          refine z_callVv X [] rfl dd_Mo_unit_117 (c_Mo_within l eq38) (cwV 0 X.1.2.2.2.2 (zg_V km_1972 km_1974 km_85 km_138 km_1975) rfl rfl rfl (by decide +kernel) ⟨Nat.le_of_ble_eq_true rfl, Nat.le_of_ble_eq_true rfl⟩) (zob_s ew39) kc_12 rfl (Nat.le_of_ble_eq_true rfl) ⟨Nat.le_of_ble_eq_true rfl, Nat.le_of_ble_eq_true rfl⟩ ?_
          refine z_aload_n X dd_Mo_unit_120 rfl 0 rfl ?_
          obtain ⟨v40, ev40, h⟩ := zb h
          refine z_get (j := 67) X dd_Mo_unit_121 kc_12 ki_12 (by decide) km_1588 (zgr_v ev40) ?_
          refine z_iload_n X dd_Mo_unit_124 rfl 1 rfl ?_
          refine z_iconst (v := 2) X dd_Mo_unit_125 (by decide) ?_
          obtain ⟨c41, ec41, h⟩ := zb h
          refine z_iastore X dd_Mo_unit_126 rfl ec41 ?_
          refine z_aload_n X dd_Mo_unit_127 rfl 0 rfl ?_
          refine z_iconst (v := 3) X dd_Mo_unit_128 (by decide) ?_
          obtain ⟨w43, ew43, h⟩ := zb h
          obtain ⟨q42, eq42, h⟩ := zb h
          refine z_callVv X [.int 3] rfl dd_Mo_unit_129 (c_Mo_frame l eq42) (cwV 1 X.1.2.2.2.2 (zg_V km_1996 km_1998 km_91 km_138 km_1999) rfl rfl rfl (by decide +kernel) ⟨Nat.le_of_ble_eq_true rfl, Nat.le_of_ble_eq_true rfl⟩) (zob_s ew43) kc_12 rfl (Nat.le_of_ble_eq_true rfl) ⟨Nat.le_of_ble_eq_true rfl, Nat.le_of_ble_eq_true rfl⟩ ?_
          refine z_goto (tgt := 218) X dd_Mo_unit_132 (by decide) ?_
          refine z_sub [] rfl ?_
          exact t_Mo_unit_218 X H h
      · rw [if_neg q9] at h
        refine z_aload_n X dd_Mo_unit_88 rfl 0 rfl ?_
        obtain ⟨w45, ew45, h⟩ := zb h
        obtain ⟨q44, eq44, h⟩ := zb h
        refine z_callVv X [] rfl dd_Mo_unit_89 (c_Mo_within l eq44) (cwV 0 X.1.2.2.2.2 (zg_V km_1972 km_1974 km_85 km_138 km_1975) rfl rfl rfl (by decide +kernel) ⟨Nat.le_of_ble_eq_true rfl, Nat.le_of_ble_eq_true rfl⟩) (zob_s ew45) kc_12 rfl (Nat.le_of_ble_eq_true rfl) ⟨Nat.le_of_ble_eq_true rfl, Nat.le_of_ble_eq_true rfl⟩ ?_
        refine z_aload_n X dd_Mo_unit_92 rfl 0 rfl ?_
        obtain ⟨v46, ev46, h⟩ := zb h
        refine z_get (j := 67) X dd_Mo_unit_93 kc_12 ki_12 (by decide) km_1588 (zgr_v ev46) ?_
        refine z_iload_n X dd_Mo_unit_96 rfl 1 rfl ?_
        refine z_iconst (v := 1) X dd_Mo_unit_97 (by decide) ?_
        obtain ⟨c47, ec47, h⟩ := zb h
        refine z_iastore X dd_Mo_unit_98 rfl ec47 ?_
        refine z_aload_n X dd_Mo_unit_99 rfl 0 rfl ?_
        refine z_iconst (v := 5) X dd_Mo_unit_100 (by decide) ?_
        obtain ⟨w49, ew49, h⟩ := zb h
        obtain ⟨q48, eq48, h⟩ := zb h
        refine z_callVv X [.int 5] rfl dd_Mo_unit_101 (c_Mo_frame l eq48) (cwV 1 X.1.2.2.2.2 (zg_V km_1996 km_1998 km_91 km_138 km_1999) rfl rfl rfl (by decide +kernel) ⟨Nat.le_of_ble_eq_true rfl, Nat.le_of_ble_eq_true rfl⟩) (zob_s ew49) kc_12 rfl (Nat.le_of_ble_eq_true rfl) ⟨Nat.le_of_ble_eq_true rfl, Nat.le_of_ble_eq_true rfl⟩ ?_
        refine z_goto (tgt := 218) X dd_Mo_unit_104 (by decide) ?_
        refine z_sub [] rfl ?_
        exact t_Mo_unit_218 X H h
    · rw [if_pos q6] at h
      refine z_aload_n X dd_Mo_unit_50 rfl 0 rfl ?_
      refine z_bipush (v := 41) X dd_Mo_unit_51 (by decide) ?_
      obtain ⟨w51, ew51, h⟩ := zb h
      obtain ⟨q50, eq50, h⟩ := zb h
      refine z_callVv X [.int 41] rfl dd_Mo_unit_53 (c_Mo_need l eq50) (cwV 1 X.1.2.2.2.2 (zg_V km_1904 km_1906 km_68 km_138 km_1907) rfl rfl rfl (by decide +kernel) ⟨Nat.le_of_ble_eq_true rfl, Nat.le_of_ble_eq_true rfl⟩) (zob_s ew51) kc_12 rfl (Nat.le_of_ble_eq_true rfl) ⟨Nat.le_of_ble_eq_true rfl, Nat.le_of_ble_eq_true rfl⟩ ?_
      refine z_aload_n X dd_Mo_unit_56 rfl 0 rfl ?_
      refine z_dup X dd_Mo_unit_57 rfl ?_
      obtain ⟨v52, ev52, h⟩ := zb h
      refine z_get (j := 53) X dd_Mo_unit_58 kc_12 ki_12 (by decide) km_1574 (zgi_v ev52) ?_
      refine z_iconst (v := 1) X dd_Mo_unit_61 (by decide) ?_
      refine z_isub X dd_Mo_unit_62 ?_
      obtain ⟨c53, ec53, h⟩ := zb h
      refine z_put (j := 53) X dd_Mo_unit_63 kc_12 ki_12 tt_Mo tk_Mo nn_Mo (by decide) km_1574 rfl (tk_Mo 53 (by decide)) rfl rfl ec53 ?_
      refine z_aload_n X dd_Mo_unit_66 rfl 0 rfl ?_
      refine z_dup X dd_Mo_unit_67 rfl ?_
      obtain ⟨v54, ev54, h⟩ := zb h
      refine z_get (j := 69) X dd_Mo_unit_68 kc_12 ki_12 (by decide) km_1590 (zgi_v ev54) ?_
      refine z_iconst (v := 1) X dd_Mo_unit_71 (by decide) ?_
      refine z_isub X dd_Mo_unit_72 ?_
      obtain ⟨c55, ec55, h⟩ := zb h
      refine z_put (j := 69) X dd_Mo_unit_73 kc_12 ki_12 tt_Mo tk_Mo nn_Mo (by decide) km_1590 rfl (tk_Mo 69 (by decide)) rfl rfl ec55 ?_
      refine z_goto (tgt := 218) X dd_Mo_unit_76 (by decide) ?_
      refine z_sub [] rfl ?_
      exact t_Mo_unit_218 X H h
  · rw [if_pos q3] at h
    refine z_aload_n X dd_Mo_unit_10 rfl 0 rfl ?_
    refine z_bipush (v := 7) X dd_Mo_unit_11 (by decide) ?_
    refine z_iconst (v := 0) X dd_Mo_unit_13 (by decide) ?_
    obtain ⟨w57, ew57, h⟩ := zb h
    obtain ⟨q56, eq56, h⟩ := zb h
    refine z_callVv X [.int 7, .int 0] rfl dd_Mo_unit_14 (c_Mo_code l eq56) (cwV 2 X.1.2.2.2.2 (zg_V km_2004 km_2006 km_93 km_138 km_2007) rfl rfl rfl (by decide +kernel) ⟨Nat.le_of_ble_eq_true rfl, Nat.le_of_ble_eq_true rfl⟩) (zob_s ew57) kc_12 rfl (Nat.le_of_ble_eq_true rfl) ⟨Nat.le_of_ble_eq_true rfl, Nat.le_of_ble_eq_true rfl⟩ ?_
    refine z_aload_n X dd_Mo_unit_17 rfl 0 rfl ?_
    refine z_dup X dd_Mo_unit_18 rfl ?_
    obtain ⟨v58, ev58, h⟩ := zb h
    refine z_get (j := 53) X dd_Mo_unit_19 kc_12 ki_12 (by decide) km_1574 (zgi_v ev58) ?_
    refine z_iconst (v := 1) X dd_Mo_unit_22 (by decide) ?_
    refine z_isub X dd_Mo_unit_23 ?_
    obtain ⟨c59, ec59, h⟩ := zb h
    refine z_put (j := 53) X dd_Mo_unit_24 kc_12 ki_12 tt_Mo tk_Mo nn_Mo (by decide) km_1574 rfl (tk_Mo 53 (by decide)) rfl rfl ec59 ?_
    refine z_aload_n X dd_Mo_unit_27 rfl 0 rfl ?_
    refine z_dup X dd_Mo_unit_28 rfl ?_
    obtain ⟨v60, ev60, h⟩ := zb h
    refine z_get (j := 69) X dd_Mo_unit_29 kc_12 ki_12 (by decide) km_1590 (zgi_v ev60) ?_
    refine z_iconst (v := 1) X dd_Mo_unit_32 (by decide) ?_
    refine z_isub X dd_Mo_unit_33 ?_
    obtain ⟨c61, ec61, h⟩ := zb h
    refine z_put (j := 69) X dd_Mo_unit_34 kc_12 ki_12 tt_Mo tk_Mo nn_Mo (by decide) km_1590 rfl (tk_Mo 69 (by decide)) rfl rfl ec61 ?_
    refine z_goto (tgt := 218) X dd_Mo_unit_37 (by decide) ?_
    refine z_sub [] rfl ?_
    exact t_Mo_unit_218 X H h
end ZzM
