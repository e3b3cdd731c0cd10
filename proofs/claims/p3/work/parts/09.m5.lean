section ZzM
variable {p : Program} {l : Launch} {e : Env} {s : State} {m : MethodId} {args : Array Value} {below : List Frame} {meth : Method} {cd : Code} {Q : State → Prop} {D : va_G} {cid : Nat → ClassId} {B n0 : Nat}
theorem dd_Operators_push_0 : decode bb_Operators_push 0 = .ok (.aload_n 0, 1) := by decide +kernel
theorem dd_Operators_push_1 : decode bb_Operators_push 1 = .ok (.getfield 21, 3) := by decide +kernel
theorem dd_Operators_push_4 : decode bb_Operators_push 4 = .ok (.bipush 80, 2) := by decide +kernel
theorem dd_Operators_push_6 : decode bb_Operators_push 6 = .ok (.if_icmp .ge 43, 3) := by decide +kernel
theorem dd_Operators_push_9 : decode bb_Operators_push 9 = .ok (.aload_n 0, 1) := by decide +kernel
theorem dd_Operators_push_10 : decode bb_Operators_push 10 = .ok (.getfield 24, 3) := by decide +kernel
theorem dd_Operators_push_13 : decode bb_Operators_push 13 = .ok (.aload_n 0, 1) := by decide +kernel
theorem dd_Operators_push_14 : decode bb_Operators_push 14 = .ok (.getfield 21, 3) := by decide +kernel
theorem dd_Operators_push_17 : decode bb_Operators_push 17 = .ok (.iload_n 1, 1) := by decide +kernel
theorem dd_Operators_push_18 : decode bb_Operators_push 18 = .ok (.iastore, 1) := by decide +kernel
theorem dd_Operators_push_19 : decode bb_Operators_push 19 = .ok (.aload_n 0, 1) := by decide +kernel
theorem dd_Operators_push_20 : decode bb_Operators_push 20 = .ok (.getfield 28, 3) := by decide +kernel
theorem dd_Operators_push_23 : decode bb_Operators_push 23 = .ok (.aload_n 0, 1) := by decide +kernel
theorem dd_Operators_push_24 : decode bb_Operators_push 24 = .ok (.getfield 21, 3) := by decide +kernel
theorem dd_Operators_push_27 : decode bb_Operators_push 27 = .ok (.iload_n 2, 1) := by decide +kernel
theorem dd_Operators_push_28 : decode bb_Operators_push 28 = .ok (.iastore, 1) := by decide +kernel
theorem dd_Operators_push_29 : decode bb_Operators_push 29 = .ok (.aload_n 0, 1) := by decide +kernel
theorem dd_Operators_push_30 : decode bb_Operators_push 30 = .ok (.getfield 31, 3) := by decide +kernel
theorem dd_Operators_push_33 : decode bb_Operators_push 33 = .ok (.aload_n 0, 1) := by decide +kernel
theorem dd_Operators_push_34 : decode bb_Operators_push 34 = .ok (.getfield 21, 3) := by decide +kernel
theorem dd_Operators_push_37 : decode bb_Operators_push 37 = .ok (.iconst (-1), 1) := by decide +kernel
theorem dd_Operators_push_38 : decode bb_Operators_push 38 = .ok (.iastore, 1) := by decide +kernel
theorem dd_Operators_push_39 : decode bb_Operators_push 39 = .ok (.aload_n 0, 1) := by decide +kernel
theorem dd_Operators_push_40 : decode bb_Operators_push 40 = .ok (.dup, 1) := by decide +kernel
theorem dd_Operators_push_41 : decode bb_Operators_push 41 = .ok (.getfield 21, 3) := by decide +kernel
theorem dd_Operators_push_44 : decode bb_Operators_push 44 = .ok (.iconst 1, 1) := by decide +kernel
theorem dd_Operators_push_45 : decode bb_Operators_push 45 = .ok (.iadd, 1) := by decide +kernel
theorem dd_Operators_push_46 : decode bb_Operators_push 46 = .ok (.putfield 21, 3) := by decide +kernel
theorem dd_Operators_push_49 : decode bb_Operators_push 49 = .ok (.return_, 1) := by decide +kernel
def f_Operators_push_49 (nf : Nat)  (c : Zc) : Option (Zc) :=
  some c
def f_Operators_push (nf : Nat) (a0 : Nat) (a1 : Int32) (a2 : Int32) (c : Zc) : Option (Zc) :=
  (zgi c a0 4 4).bind fun v1 => if 80 ≤ v1 then (f_Operators_push_49 nf  c) else ((zgr c a0 4 5).bind fun v3 => (zgi c a0 4 4).bind fun v4 => (zsi c v3 0 v4 a1).bind fun c5 => (zgr c5 a0 4 6).bind fun v6 => (zgi c5 a0 4 4).bind fun v7 => (zsi c5 v6 0 v7 a2).bind fun c8 => (zgr c8 a0 4 7).bind fun v9 => (zgi c8 a0 4 4).bind fun v10 => (zsi c8 v9 0 v10 (-1)).bind fun c11 => (zgi c11 a0 4 4).bind fun v12 => (zpv c11 a0 4 4 (.int (v12 + 1))).bind fun c13 => f_Operators_push_49 nf  c13)
set_option maxRecDepth 100000 in
set_option maxHeartbeats 4000000 in
theorem t_Operators_push_49  (X : zX p s m args cd D cid B bb_Operators_push 3 rr_Operators zT) (H : zH s meth B n0 none "push") {nf : Nat}  {c : Zc} {res : Zc} (h : f_Operators_push_49 nf  c = some res) : Zz p l e (zRm 0 0 0 0) s m args below meth cd (MQ below (zQv D cid B res n0 0) args s 0 0 (fun q => B ≤ q)) D cid B 3 0 0 c 49 [] [] := by
  unfold f_Operators_push_49 at h
  obtain rfl := Option.some.inj h
  exact z_vret X H.1 H.2.1 H.2.2.1 dd_Operators_push_49
set_option maxRecDepth 100000 in
set_option maxHeartbeats 4000000 in
theorem c_Operators_push (l : Launch) {nf : Nat} {a0 : Nat} {a1 : Int32} {a2 : Int32} {c : Zc} {res : Zc} (h : f_Operators_push nf a0 a1 a2 c = some res) : zM l yy_Operators_push ww_Operators_push 0 0 0 0 [.ref a0, .int a1, .int a2] c (fun D cid B => zQv D cid B res c.length 0) := by
  refine z_met (cc := bb_Operators_push) (maxL := 3) (ret := none) (by decide +kernel) rfl (Nat.le_of_ble_eq_true rfl) ?_
  intro p e s m args below meth cd D cid B X h1 h2 h3 h4
  have X : zX p s m args cd D cid B bb_Operators_push 3 rr_Operators zT := X
  have H : zH s meth B c.length none "push" := ⟨h1, h2, h4, h3⟩
  unfold f_Operators_push at h
  show Zz p l e (zRm 0 0 0 0) s m args below meth cd _ D cid B 3 0 0 c 0 [(0, .ref a0), (1, .int a1), (2, .int a2)] []
  refine z_aload_n X dd_Operators_push_0 rfl 0 rfl ?_
  obtain ⟨v1, ev1, h⟩ := zb h
  refine z_get (j := 4) X dd_Operators_push_1 kc_4 ki_4 (by decide) km_452 (zgi_v ev1) ?_
  refine z_bipush (v := 80) X dd_Operators_push_4 (by decide) ?_
  refine z_icmp_ge (tgt := 49) X dd_Operators_push_6 (by decide) (fun q2 => ?_) (fun q2 => ?_)
  · rw [if_pos q2] at h
    refine z_sub [] rfl ?_
    exact t_Operators_push_49 X H h
  · rw [if_neg q2] at h
    refine z_aload_n X dd_Operators_push_9 rfl 0 rfl ?_
    obtain ⟨v3, ev3, h⟩ := zb h
    refine z_get (j := 5) X dd_Operators_push_10 kc_4 ki_4 (by decide) km_453 (zgr_v ev3) ?_
    refine z_aload_n X dd_Operators_push_13 rfl 0 rfl ?_
    obtain ⟨v4, ev4, h⟩ := zb h
    refine z_get (j := 4) X dd_Operators_push_14 kc_4 ki_4 (by decide) km_452 (zgi_v ev4) ?_
    refine z_iload_n X dd_Operators_push_17 rfl 1 rfl ?_
    obtain ⟨c5, ec5, h⟩ := zb h
    refine z_iastore X dd_Operators_push_18 rfl ec5 ?_
    refine z_aload_n X dd_Operators_push_19 rfl 0 rfl ?_
    obtain ⟨v6, ev6, h⟩ := zb h
    refine z_get (j := 6) X dd_Operators_push_20 kc_4 ki_4 (by decide) km_454 (zgr_v ev6) ?_
    refine z_aload_n X dd_Operators_push_23 rfl 0 rfl ?_
    obtain ⟨v7, ev7, h⟩ := zb h
    refine z_get (j := 4) X dd_Operators_push_24 kc_4 ki_4 (by decide) km_452 (zgi_v ev7) ?_
    refine z_iload_n X dd_Operators_push_27 rfl 2 rfl ?_
    obtain ⟨c8, ec8, h⟩ := zb h
    refine z_iastore X dd_Operators_push_28 rfl ec8 ?_
    refine z_aload_n X dd_Operators_push_29 rfl 0 rfl ?_
    obtain ⟨v9, ev9, h⟩ := zb h
    refine z_get (j := 7) X dd_Operators_push_30 kc_4 ki_4 (by decide) km_455 (zgr_v ev9) ?_
    refine z_aload_n X dd_Operators_push_33 rfl 0 rfl ?_
    obtain ⟨v10, ev10, h⟩ := zb h
    refine z_get (j := 4) X dd_Operators_push_34 kc_4 ki_4 (by decide) km_452 (zgi_v ev10) ?_
    refine z_iconst (v := (-1)) X dd_Operators_push_37 (by decide) ?_
    obtain ⟨c11, ec11, h⟩ := zb h
    refine z_iastore X dd_Operators_push_38 rfl ec11 ?_
    refine z_aload_n X dd_Operators_push_39 rfl 0 rfl ?_
    refine z_dup X dd_Operators_push_40 rfl ?_
    obtain ⟨v12, ev12, h⟩ := zb h
    refine z_get (j := 4) X dd_Operators_push_41 kc_4 ki_4 (by decide) km_452 (zgi_v ev12) ?_
    refine z_iconst (v := 1) X dd_Operators_push_44 (by decide) ?_
    refine z_iadd X dd_Operators_push_45 ?_
    obtain ⟨c13, ec13, h⟩ := zb h
    refine z_put (j := 4) X dd_Operators_push_46 kc_4 ki_4 tt_Operators tk_Operators nn_Operators (by decide) km_452 rfl (tk_Operators 4 (by decide)) rfl rfl ec13 ?_
    refine z_sub [] rfl ?_
    exact t_Operators_push_49 X H h
theorem dd_Operators_between_0 : decode bb_Operators_between 0 = .ok (.aload_n 0, 1) := by decide +kernel
theorem dd_Operators_between_1 : decode bb_Operators_between 1 = .ok (.iload_n 1, 1) := by decide +kernel
theorem dd_Operators_between_2 : decode bb_Operators_between 2 = .ok (.invokevirtual 38, 3) := by decide +kernel
theorem dd_Operators_between_5 : decode bb_Operators_between 5 = .ok (.aload_n 0, 1) := by decide +kernel
theorem dd_Operators_between_6 : decode bb_Operators_between 6 = .ok (.iload_n 1, 1) := by decide +kernel
theorem dd_Operators_between_7 : decode bb_Operators_between 7 = .ok (.iload_n 2, 1) := by decide +kernel
theorem dd_Operators_between_8 : decode bb_Operators_between 8 = .ok (.invokevirtual 42, 3) := by decide +kernel
theorem dd_Operators_between_11 : decode bb_Operators_between 11 = .ok (.iload_n 1, 1) := by decide +kernel
theorem dd_Operators_between_12 : decode bb_Operators_between 12 = .ok (.iconst 2, 1) := by decide +kernel
theorem dd_Operators_between_13 : decode bb_Operators_between 13 = .ok (.if_icmp .eq 8, 3) := by decide +kernel
theorem dd_Operators_between_16 : decode bb_Operators_between 16 = .ok (.iload_n 1, 1) := by decide +kernel
theorem dd_Operators_between_17 : decode bb_Operators_between 17 = .ok (.iconst 1, 1) := by decide +kernel
theorem dd_Operators_between_18 : decode bb_Operators_between 18 = .ok (.if_icmp .ne 23, 3) := by decide +kernel
theorem dd_Operators_between_21 : decode bb_Operators_between 21 = .ok (.aload_n 0, 1) := by decide +kernel
theorem dd_Operators_between_22 : decode bb_Operators_between 22 = .ok (.getfield 31, 3) := by decide +kernel
theorem dd_Operators_between_25 : decode bb_Operators_between 25 = .ok (.aload_n 0, 1) := by decide +kernel
theorem dd_Operators_between_26 : decode bb_Operators_between 26 = .ok (.getfield 21, 3) := by decide +kernel
theorem dd_Operators_between_29 : decode bb_Operators_between 29 = .ok (.iconst 1, 1) := by decide +kernel
theorem dd_Operators_between_30 : decode bb_Operators_between 30 = .ok (.isub, 1) := by decide +kernel
theorem dd_Operators_between_31 : decode bb_Operators_between 31 = .ok (.aload_n 0, 1) := by decide +kernel
theorem dd_Operators_between_32 : decode bb_Operators_between 32 = .ok (.getfield 34, 3) := by decide +kernel
theorem dd_Operators_between_35 : decode bb_Operators_between 35 = .ok (.iload_n 2, 1) := by decide +kernel
theorem dd_Operators_between_36 : decode bb_Operators_between 36 = .ok (.iconst 0, 1) := by decide +kernel
theorem dd_Operators_between_37 : decode bb_Operators_between 37 = .ok (.invokevirtual 46, 3) := by decide +kernel
theorem dd_Operators_between_40 : decode bb_Operators_between 40 = .ok (.iastore, 1) := by decide +kernel
theorem dd_Operators_between_41 : decode bb_Operators_between 41 = .ok (.return_, 1) := by decide +kernel
def f_Operators_between_41 (nf : Nat)  (c : Zc) : Option (Zc) :=
  some c
def f_Operators_between_21 (nf : Nat) (x0 : Nat) (x2 : Int32) (c : Zc) : Option (Zc) :=
  (zgr c x0 4 7).bind fun v6 => (zgi c x0 4 4).bind fun v7 => (zgr c x0 4 3).bind fun v8 => (zob c v8 2).bind fun w10 => (f_Text_emit nf v8 x2 0 c).bind fun q9 => (zsi q9.2 v6 0 (v7 - 1) q9.1).bind fun c11 => f_Operators_between_41 nf  c11
def f_Operators_between (nf : Nat) (a0 : Nat) (a1 : Int32) (a2 : Int32) (c : Zc) : Option (Zc) :=
  (zob c a0 4).bind fun w2 => (f_Operators_unwind nf a0 a1 c).bind fun q1 => (zob q1 a0 4).bind fun w4 => (f_Operators_push nf a0 a1 a2 q1).bind fun q3 => if a1 = 2 then (f_Operators_between_21 nf a0 a2 q3) else (if a1 = 1 then (f_Operators_between_21 nf a0 a2 q3) else (f_Operators_between_41 nf  q3))
set_option maxRecDepth 100000 in
set_option maxHeartbeats 4000000 in
theorem t_Operators_between_41  (X : zX p s m args cd D cid B bb_Operators_between 3 rr_Operators zT) (H : zH s meth B n0 none "between") {nf : Nat}  {c : Zc} {res : Zc} (h : f_Operators_between_41 nf  c = some res) : Zz p l e (zRm 2 45 0 0) s m args below meth cd (MQ below (zQv D cid B res n0 0) args s 0 0 (fun q => B ≤ q)) D cid B 3 0 0 c 41 [] [] := by
  unfold f_Operators_between_41 at h
  obtain rfl := Option.some.inj h
  exact z_vret X H.1 H.2.1 H.2.2.1 dd_Operators_between_41
set_option maxRecDepth 100000 in
set_option maxHeartbeats 4000000 in
theorem t_Operators_between_21  (X : zX p s m args cd D cid B bb_Operators_between 3 rr_Operators zT) (H : zH s meth B n0 none "between") {nf : Nat} {x0 : Nat} {x2 : Int32} {c : Zc} {res : Zc} (h : f_Operators_between_21 nf x0 x2 c = some res) : Zz p l e (zRm 2 45 0 0) s m args below meth cd (MQ below (zQv D cid B res n0 0) args s 0 0 (fun q => B ≤ q)) D cid B 3 0 0 c 21 [(0, .ref x0), (2, .int x2)] [] := by
  unfold f_Operators_between_21 at h
  refine z_aload_n X dd_Operators_between_21 rfl 0 rfl ?_
  obtain ⟨v6, ev6, h⟩ := zb h
  refine z_get (j := 7) X dd_Operators_between_22 kc_4 ki_4 (by decide) km_455 (zgr_v ev6) ?_
  refine z_aload_n X dd_Operators_between_25 rfl 0 rfl ?_
  obtain ⟨v7, ev7, h⟩ := zb h
  refine z_get (j := 4) X dd_Operators_between_26 kc_4 ki_4 (by decide) km_452 (zgi_v ev7) ?_
  refine z_iconst (v := 1) X dd_Operators_between_29 (by decide) ?_
  refine z_isub X dd_Operators_between_30 ?_
  refine z_aload_n X dd_Operators_between_31 rfl 0 rfl ?_
  obtain ⟨v8, ev8, h⟩ := zb h
  refine z_get (j := 3) X dd_Operators_between_32 kc_4 ki_4 (by decide) km_451 (zgr_v ev8) ?_
  refine z_iload_n X dd_Operators_between_35 rfl 1 rfl ?_
  refine z_iconst (v := 0) X dd_Operators_between_36 (by decide) ?_
  obtain ⟨w10, ew10, h⟩ := zb h
  obtain ⟨q9, eq9, h⟩ := zb h
  refine z_callVi X [.int x2, .int 0] rfl dd_Operators_between_37 (c_Text_emit l eq9) (cwV 2 X.1.2.2.2.2 (zg_V km_1067 km_1056 km_1057 km_128 km_1058) rfl rfl rfl (by decide +kernel) ⟨Nat.le_of_ble_eq_true rfl, Nat.le_of_ble_eq_true rfl⟩) (zob_s ew10) kc_2 rfl (Nat.le_of_ble_eq_true rfl) ⟨Nat.le_of_ble_eq_true rfl, Nat.le_of_ble_eq_true rfl⟩ ?_
  obtain ⟨c11, ec11, h⟩ := zb h
  refine z_iastore X dd_Operators_between_40 rfl ec11 ?_
  refine z_sub [] rfl ?_
  exact t_Operators_between_41 X H h
set_option maxRecDepth 100000 in
set_option maxHeartbeats 4000000 in
theorem c_Operators_between (l : Launch) {nf : Nat} {a0 : Nat} {a1 : Int32} {a2 : Int32} {c : Zc} {res : Zc} (h : f_Operators_between nf a0 a1 a2 c = some res) : zM l yy_Operators_between ww_Operators_between 2 45 0 0 [.ref a0, .int a1, .int a2] c (fun D cid B => zQv D cid B res c.length 0) := by
  refine z_met (cc := bb_Operators_between) (maxL := 3) (ret := none) (by decide +kernel) rfl (Nat.le_of_ble_eq_true rfl) ?_
  intro p e s m args below meth cd D cid B X h1 h2 h3 h4
  have X : zX p s m args cd D cid B bb_Operators_between 3 rr_Operators zT := X
  have H : zH s meth B c.length none "between" := ⟨h1, h2, h4, h3⟩
  unfold f_Operators_between at h
  show Zz p l e (zRm 2 45 0 0) s m args below meth cd _ D cid B 3 0 0 c 0 [(0, .ref a0), (1, .int a1), (2, .int a2)] []
  refine z_aload_n X dd_Operators_between_0 rfl 0 rfl ?_
  refine z_iload_n X dd_Operators_between_1 rfl 1 rfl ?_
  obtain ⟨w2, ew2, h⟩ := zb h
  obtain ⟨q1, eq1, h⟩ := zb h
  refine z_callVv X [.int a1] rfl dd_Operators_between_2 (c_Operators_unwind l eq1) (cwV 1 X.1.2.2.2.2 (zg_V km_1157 km_1060 km_1061 km_132 km_1062) rfl rfl rfl (by decide +kernel) ⟨Nat.le_of_ble_eq_true rfl, Nat.le_of_ble_eq_true rfl⟩) (zob_s ew2) kc_4 rfl (Nat.le_of_ble_eq_true rfl) ⟨Nat.le_of_ble_eq_true rfl, Nat.le_of_ble_eq_true rfl⟩ ?_
  refine z_aload_n X dd_Operators_between_5 rfl 0 rfl ?_
  refine z_iload_n X dd_Operators_between_6 rfl 1 rfl ?_
  refine z_iload_n X dd_Operators_between_7 rfl 2 rfl ?_
  obtain ⟨w4, ew4, h⟩ := zb h
  obtain ⟨q3, eq3, h⟩ := zb h
  refine z_callVv X [.int a1, .int a2] rfl dd_Operators_between_8 (c_Operators_push l eq3) (cwV 2 X.1.2.2.2.2 (zg_V km_1139 km_1140 km_1141 km_132 km_1142) rfl rfl rfl (by decide +kernel) ⟨Nat.le_of_ble_eq_true rfl, Nat.le_of_ble_eq_true rfl⟩) (zob_s ew4) kc_4 rfl (Nat.le_of_ble_eq_true rfl) ⟨Nat.le_of_ble_eq_true rfl, Nat.le_of_ble_eq_true rfl⟩ ?_
  refine z_iload_n X dd_Operators_between_11 rfl 1 rfl ?_
  refine z_iconst (v := 2) X dd_Operators_between_12 (by decide) ?_
  refine z_icmp_eq (tgt := 21) X dd_Operators_between_13 (by decide) (fun q5 => ?_) (fun q5 => ?_)
  · rw [if_pos q5] at h
    refine z_sub [0, 2] rfl ?_
    exact t_Operators_between_21 X H h
  · rw [if_neg q5] at h
    refine z_iload_n X dd_Operators_between_16 rfl 1 rfl ?_
    refine z_iconst (v := 1) X dd_Operators_between_17 (by decide) ?_
    refine z_icmp_ne (tgt := 41) X dd_Operators_between_18 (by decide) (fun q12 => ?_) (fun q12 => ?_)
    · rw [if_neg q12] at h
      refine z_sub [] rfl ?_
      exact t_Operators_between_41 X H h
    · rw [if_pos q12] at h
      refine z_sub [0, 2] rfl ?_
      exact t_Operators_between_21 X H h
theorem dd_Operators_openPrefix_0 : decode bb_Operators_openPrefix 0 = .ok (.aload_n 0, 1) := by decide +kernel
theorem dd_Operators_openPrefix_1 : decode bb_Operators_openPrefix 1 = .ok (.iload_n 1, 1) := by decide +kernel
theorem dd_Operators_openPrefix_2 : decode bb_Operators_openPrefix 2 = .ok (.iload_n 2, 1) := by decide +kernel
theorem dd_Operators_openPrefix_3 : decode bb_Operators_openPrefix 3 = .ok (.invokevirtual 42, 3) := by decide +kernel
theorem dd_Operators_openPrefix_6 : decode bb_Operators_openPrefix 6 = .ok (.aload_n 0, 1) := by decide +kernel
theorem dd_Operators_openPrefix_7 : decode bb_Operators_openPrefix 7 = .ok (.dup, 1) := by decide +kernel
theorem dd_Operators_openPrefix_8 : decode bb_Operators_openPrefix 8 = .ok (.getfield 9, 3) := by decide +kernel
theorem dd_Operators_openPrefix_11 : decode bb_Operators_openPrefix 11 = .ok (.iconst 1, 1) := by decide +kernel
theorem dd_Operators_openPrefix_12 : decode bb_Operators_openPrefix 12 = .ok (.iadd, 1) := by decide +kernel
theorem dd_Operators_openPrefix_13 : decode bb_Operators_openPrefix 13 = .ok (.putfield 9, 3) := by decide +kernel
theorem dd_Operators_openPrefix_16 : decode bb_Operators_openPrefix 16 = .ok (.return_, 1) := by decide +kernel
def f_Operators_openPrefix (nf : Nat) (a0 : Nat) (a1 : Int32) (a2 : Int32) (c : Zc) : Option (Zc) :=
  (zob c a0 4).bind fun w2 => (f_Operators_push nf a0 a1 a2 c).bind fun q1 => (zgi q1 a0 4 0).bind fun v3 => (zpv q1 a0 4 0 (.int (v3 + 1))).bind fun c4 => some c4
set_option maxRecDepth 100000 in
set_option maxHeartbeats 4000000 in
theorem c_Operators_openPrefix (l : Launch) {nf : Nat} {a0 : Nat} {a1 : Int32} {a2 : Int32} {c : Zc} {res : Zc} (h : f_Operators_openPrefix nf a0 a1 a2 c = some res) : zM l yy_Operators_openPrefix ww_Operators_openPrefix 1 22 0 0 [.ref a0, .int a1, .int a2] c (fun D cid B => zQv D cid B res c.length 0) := by
  refine z_met (cc := bb_Operators_openPrefix) (maxL := 3) (ret := none) (by decide +kernel) rfl (Nat.le_of_ble_eq_true rfl) ?_
  intro p e s m args below meth cd D cid B X h1 h2 h3 h4
  have X : zX p s m args cd D cid B bb_Operators_openPrefix 3 rr_Operators zT := X
  have H : zH s meth B c.length none "openPrefix" := ⟨h1, h2, h4, h3⟩
  unfold f_Operators_openPrefix at h
  show Zz p l e (zRm 1 22 0 0) s m args below meth cd _ D cid B 3 0 0 c 0 [(0, .ref a0), (1, .int a1), (2, .int a2)] []
  refine z_aload_n X dd_Operators_openPrefix_0 rfl 0 rfl ?_
  refine z_iload_n X dd_Operators_openPrefix_1 rfl 1 rfl ?_
  refine z_iload_n X dd_Operators_openPrefix_2 rfl 2 rfl ?_
  obtain ⟨w2, ew2, h⟩ := zb h
  obtain ⟨q1, eq1, h⟩ := zb h
  refine z_callVv X [.int a1, .int a2] rfl dd_Operators_openPrefix_3 (c_Operators_push l eq1) (cwV 2 X.1.2.2.2.2 (zg_V km_1139 km_1140 km_1141 km_132 km_1142) rfl rfl rfl (by decide +kernel) ⟨Nat.le_of_ble_eq_true rfl, Nat.le_of_ble_eq_true rfl⟩) (zob_s ew2) kc_4 rfl (Nat.le_of_ble_eq_true rfl) ⟨Nat.le_of_ble_eq_true rfl, Nat.le_of_ble_eq_true rfl⟩ ?_
  refine z_aload_n X dd_Operators_openPrefix_6 rfl 0 rfl ?_
  refine z_dup X dd_Operators_openPrefix_7 rfl ?_
  obtain ⟨v3, ev3, h⟩ := zb h
  refine z_get (j := 0) X dd_Operators_openPrefix_8 kc_4 ki_4 (by decide) km_445 (zgi_v ev3) ?_
  refine z_iconst (v := 1) X dd_Operators_openPrefix_11 (by decide) ?_
  refine z_iadd X dd_Operators_openPrefix_12 ?_
  obtain ⟨c4, ec4, h⟩ := zb h
  refine z_put (j := 0) X dd_Operators_openPrefix_13 kc_4 ki_4 tt_Operators tk_Operators nn_Operators (by decide) km_445 rfl (tk_Operators 0 (by decide)) rfl rfl ec4 ?_
  obtain rfl := Option.some.inj h
  exact z_vret X H.1 H.2.1 H.2.2.1 dd_Operators_openPrefix_16
theorem dd_Operators_openParen_0 : decode bb_Operators_openParen 0 = .ok (.aload_n 0, 1) := by decide +kernel
theorem dd_Operators_openParen_1 : decode bb_Operators_openParen 1 = .ok (.iconst 0, 1) := by decide +kernel
theorem dd_Operators_openParen_2 : decode bb_Operators_openParen 2 = .ok (.iconst 0, 1) := by decide +kernel
theorem dd_Operators_openParen_3 : decode bb_Operators_openParen 3 = .ok (.invokevirtual 52, 3) := by decide +kernel
theorem dd_Operators_openParen_6 : decode bb_Operators_openParen 6 = .ok (.aload_n 0, 1) := by decide +kernel
theorem dd_Operators_openParen_7 : decode bb_Operators_openParen 7 = .ok (.dup, 1) := by decide +kernel
theorem dd_Operators_openParen_8 : decode bb_Operators_openParen 8 = .ok (.getfield 15, 3) := by decide +kernel
theorem dd_Operators_openParen_11 : decode bb_Operators_openParen 11 = .ok (.iconst 1, 1) := by decide +kernel
theorem dd_Operators_openParen_12 : decode bb_Operators_openParen 12 = .ok (.iadd, 1) := by decide +kernel
theorem dd_Operators_openParen_13 : decode bb_Operators_openParen 13 = .ok (.putfield 15, 3) := by decide +kernel
theorem dd_Operators_openParen_16 : decode bb_Operators_openParen 16 = .ok (.return_, 1) := by decide +kernel
def f_Operators_openParen (nf : Nat) (a0 : Nat) (c : Zc) : Option (Zc) :=
  (zob c a0 4).bind fun w2 => (f_Operators_openPrefix nf a0 0 0 c).bind fun q1 => (zgi q1 a0 4 1).bind fun v3 => (zpv q1 a0 4 1 (.int (v3 + 1))).bind fun c4 => some c4
set_option maxRecDepth 100000 in
set_option maxHeartbeats 4000000 in
theorem c_Operators_openParen (l : Launch) {nf : Nat} {a0 : Nat} {c : Zc} {res : Zc} (h : f_Operators_openParen nf a0 c = some res) : zM l yy_Operators_openParen ww_Operators_openParen 2 44 0 0 [.ref a0] c (fun D cid B => zQv D cid B res c.length 0) := by
  refine z_met (cc := bb_Operators_openParen) (maxL := 1) (ret := none) (by decide +kernel) rfl (Nat.le_of_ble_eq_true rfl) ?_
  intro p e s m args below meth cd D cid B X h1 h2 h3 h4
  have X : zX p s m args cd D cid B bb_Operators_openParen 1 rr_Operators zT := X
  have H : zH s meth B c.length none "openParen" := ⟨h1, h2, h4, h3⟩
  unfold f_Operators_openParen at h
  show Zz p l e (zRm 2 44 0 0) s m args below meth cd _ D cid B 1 0 0 c 0 [(0, .ref a0)] []
  refine z_aload_n X dd_Operators_openParen_0 rfl 0 rfl ?_
  refine z_iconst (v := 0) X dd_Operators_openParen_1 (by decide) ?_
  refine z_iconst (v := 0) X dd_Operators_openParen_2 (by decide) ?_
  obtain ⟨w2, ew2, h⟩ := zb h
  obtain ⟨q1, eq1, h⟩ := zb h
  refine z_callVv X [.int 0, .int 0] rfl dd_Operators_openParen_3 (c_Operators_openPrefix l eq1) (cwV 2 X.1.2.2.2.2 (zg_V km_1147 km_1136 km_1137 km_132 km_1138) rfl rfl rfl (by decide +kernel) ⟨Nat.le_of_ble_eq_true rfl, Nat.le_of_ble_eq_true rfl⟩) (zob_s ew2) kc_4 rfl (Nat.le_of_ble_eq_true rfl) ⟨Nat.le_of_ble_eq_true rfl, Nat.le_of_ble_eq_true rfl⟩ ?_
  refine z_aload_n X dd_Operators_openParen_6 rfl 0 rfl ?_
  refine z_dup X dd_Operators_openParen_7 rfl ?_
  obtain ⟨v3, ev3, h⟩ := zb h
  refine z_get (j := 1) X dd_Operators_openParen_8 kc_4 ki_4 (by decide) km_447 (zgi_v ev3) ?_
  refine z_iconst (v := 1) X dd_Operators_openParen_11 (by decide) ?_
  refine z_iadd X dd_Operators_openParen_12 ?_
  obtain ⟨c4, ec4, h⟩ := zb h
  refine z_put (j := 1) X dd_Operators_openParen_13 kc_4 ki_4 tt_Operators tk_Operators nn_Operators (by decide) km_447 rfl (tk_Operators 1 (by decide)) rfl rfl ec4 ?_
  obtain rfl := Option.some.inj h
  exact z_vret X H.1 H.2.1 H.2.2.1 dd_Operators_openParen_16
theorem dd_Operators_openBracket_0 : decode bb_Operators_openBracket 0 = .ok (.aload_n 0, 1) := by decide +kernel
theorem dd_Operators_openBracket_1 : decode bb_Operators_openBracket 1 = .ok (.iconst 0, 1) := by decide +kernel
theorem dd_Operators_openBracket_2 : decode bb_Operators_openBracket 2 = .ok (.iconst 0, 1) := by decide +kernel
theorem dd_Operators_openBracket_3 : decode bb_Operators_openBracket 3 = .ok (.invokevirtual 52, 3) := by decide +kernel
theorem dd_Operators_openBracket_6 : decode bb_Operators_openBracket 6 = .ok (.aload_n 0, 1) := by decide +kernel
theorem dd_Operators_openBracket_7 : decode bb_Operators_openBracket 7 = .ok (.dup, 1) := by decide +kernel
theorem dd_Operators_openBracket_8 : decode bb_Operators_openBracket 8 = .ok (.getfield 18, 3) := by decide +kernel
theorem dd_Operators_openBracket_11 : decode bb_Operators_openBracket 11 = .ok (.iconst 1, 1) := by decide +kernel
theorem dd_Operators_openBracket_12 : decode bb_Operators_openBracket 12 = .ok (.iadd, 1) := by decide +kernel
theorem dd_Operators_openBracket_13 : decode bb_Operators_openBracket 13 = .ok (.putfield 18, 3) := by decide +kernel
theorem dd_Operators_openBracket_16 : decode bb_Operators_openBracket 16 = .ok (.return_, 1) := by decide +kernel
def f_Operators_openBracket (nf : Nat) (a0 : Nat) (c : Zc) : Option (Zc) :=
  (zob c a0 4).bind fun w2 => (f_Operators_openPrefix nf a0 0 0 c).bind fun q1 => (zgi q1 a0 4 2).bind fun v3 => (zpv q1 a0 4 2 (.int (v3 + 1))).bind fun c4 => some c4
set_option maxRecDepth 100000 in
set_option maxHeartbeats 4000000 in
theorem c_Operators_openBracket (l : Launch) {nf : Nat} {a0 : Nat} {c : Zc} {res : Zc} (h : f_Operators_openBracket nf a0 c = some res) : zM l yy_Operators_openBracket ww_Operators_openBracket 2 44 0 0 [.ref a0] c (fun D cid B => zQv D cid B res c.length 0) := by
  refine z_met (cc := bb_Operators_openBracket) (maxL := 1) (ret := none) (by decide +kernel) rfl (Nat.le_of_ble_eq_true rfl) ?_
  intro p e s m args below meth cd D cid B X h1 h2 h3 h4
  have X : zX p s m args cd D cid B bb_Operators_openBracket 1 rr_Operators zT := X
  have H : zH s meth B c.length none "openBracket" := ⟨h1, h2, h4, h3⟩
  unfold f_Operators_openBracket at h
  show Zz p l e (zRm 2 44 0 0) s m args below meth cd _ D cid B 1 0 0 c 0 [(0, .ref a0)] []
  refine z_aload_n X dd_Operators_openBracket_0 rfl 0 rfl ?_
  refine z_iconst (v := 0) X dd_Operators_openBracket_1 (by decide) ?_
  refine z_iconst (v := 0) X dd_Operators_openBracket_2 (by decide) ?_
  obtain ⟨w2, ew2, h⟩ := zb h
  obtain ⟨q1, eq1, h⟩ := zb h
  refine z_callVv X [.int 0, .int 0] rfl dd_Operators_openBracket_3 (c_Operators_openPrefix l eq1) (cwV 2 X.1.2.2.2.2 (zg_V km_1147 km_1136 km_1137 km_132 km_1138) rfl rfl rfl (by decide +kernel) ⟨Nat.le_of_ble_eq_true rfl, Nat.le_of_ble_eq_true rfl⟩) (zob_s ew2) kc_4 rfl (Nat.le_of_ble_eq_true rfl) ⟨Nat.le_of_ble_eq_true rfl, Nat.le_of_ble_eq_true rfl⟩ ?_
  refine z_aload_n X dd_Operators_openBracket_6 rfl 0 rfl ?_
  refine z_dup X dd_Operators_openBracket_7 rfl ?_
  obtain ⟨v3, ev3, h⟩ := zb h
  refine z_get (j := 2) X dd_Operators_openBracket_8 kc_4 ki_4 (by decide) km_449 (zgi_v ev3) ?_
  refine z_iconst (v := 1) X dd_Operators_openBracket_11 (by decide) ?_
  refine z_iadd X dd_Operators_openBracket_12 ?_
  obtain ⟨c4, ec4, h⟩ := zb h
  refine z_put (j := 2) X dd_Operators_openBracket_13 kc_4 ki_4 tt_Operators tk_Operators nn_Operators (by decide) km_449 rfl (tk_Operators 2 (by decide)) rfl rfl ec4 ?_
  obtain rfl := Option.some.inj h
  exact z_vret X H.1 H.2.1 H.2.2.1 dd_Operators_openBracket_16
theorem dd_Operators_popOpen_0 : decode bb_Operators_popOpen 0 = .ok (.aload_n 0, 1) := by decide +kernel
theorem dd_Operators_popOpen_1 : decode bb_Operators_popOpen 1 = .ok (.getfield 21, 3) := by decide +kernel
theorem dd_Operators_popOpen_4 : decode bb_Operators_popOpen 4 = .ok (.ifCond .le 13, 3) := by decide +kernel
theorem dd_Operators_popOpen_7 : decode bb_Operators_popOpen 7 = .ok (.aload_n 0, 1) := by decide +kernel
theorem dd_Operators_popOpen_8 : decode bb_Operators_popOpen 8 = .ok (.dup, 1) := by decide +kernel
theorem dd_Operators_popOpen_9 : decode bb_Operators_popOpen 9 = .ok (.getfield 21, 3) := by decide +kernel
theorem dd_Operators_popOpen_12 : decode bb_Operators_popOpen 12 = .ok (.iconst 1, 1) := by decide +kernel
theorem dd_Operators_popOpen_13 : decode bb_Operators_popOpen 13 = .ok (.isub, 1) := by decide +kernel
theorem dd_Operators_popOpen_14 : decode bb_Operators_popOpen 14 = .ok (.putfield 21, 3) := by decide +kernel
theorem dd_Operators_popOpen_17 : decode bb_Operators_popOpen 17 = .ok (.aload_n 0, 1) := by decide +kernel
theorem dd_Operators_popOpen_18 : decode bb_Operators_popOpen 18 = .ok (.dup, 1) := by decide +kernel
theorem dd_Operators_popOpen_19 : decode bb_Operators_popOpen 19 = .ok (.getfield 9, 3) := by decide +kernel
theorem dd_Operators_popOpen_22 : decode bb_Operators_popOpen 22 = .ok (.iconst 1, 1) := by decide +kernel
theorem dd_Operators_popOpen_23 : decode bb_Operators_popOpen 23 = .ok (.isub, 1) := by decide +kernel
theorem dd_Operators_popOpen_24 : decode bb_Operators_popOpen 24 = .ok (.putfield 9, 3) := by decide +kernel
theorem dd_Operators_popOpen_27 : decode bb_Operators_popOpen 27 = .ok (.return_, 1) := by decide +kernel
def f_Operators_popOpen_17 (nf : Nat) (x0 : Nat) (c : Zc) : Option (Zc) :=
  (zgi c x0 4 0).bind fun v3 => (zpv c x0 4 0 (.int (v3 - 1))).bind fun c4 => some c4
def f_Operators_popOpen (nf : Nat) (a0 : Nat) (c : Zc) : Option (Zc) :=
  (zgi c a0 4 4).bind fun v1 => if v1 ≤ 0 then (f_Operators_popOpen_17 nf a0 c) else ((zgi c a0 4 4).bind fun v5 => (zpv c a0 4 4 (.int (v5 - 1))).bind fun c6 => f_Operators_popOpen_17 nf a0 c6)
set_option maxRecDepth 100000 in
set_option maxHeartbeats 4000000 in
theorem t_Operators_popOpen_17  (X : zX p s m args cd D cid B bb_Operators_popOpen 1 rr_Operators zT) (H : zH s meth B n0 none "popOpen") {nf : Nat} {x0 : Nat} {c : Zc} {res : Zc} (h : f_Operators_popOpen_17 nf x0 c = some res) : Zz p l e (zRm 0 0 0 0) s m args below meth cd (MQ below (zQv D cid B res n0 0) args s 0 0 (fun q => B ≤ q)) D cid B 1 0 0 c 17 [(0, .ref x0)] [] := by
  unfold f_Operators_popOpen_17 at h
  refine z_aload_n X dd_Operators_popOpen_17 rfl 0 rfl ?_
  refine z_dup X dd_Operators_popOpen_18 rfl ?_
  obtain ⟨v3, ev3, h⟩ := zb h
  refine z_get (j := 0) X dd_Operators_popOpen_19 kc_4 ki_4 (by decide) km_445 (zgi_v ev3) ?_
  refine z_iconst (v := 1) X dd_Operators_popOpen_22 (by decide) ?_
  refine z_isub X dd_Operators_popOpen_23 ?_
  obtain ⟨c4, ec4, h⟩ := zb h
  refine z_put (j := 0) X dd_Operators_popOpen_24 kc_4 ki_4 tt_Operators tk_Operators nn_Operators (by decide) km_445 rfl (tk_Operators 0 (by decide)) rfl rfl ec4 ?_
  obtain rfl := Option.some.inj h
  exact z_vret X H.1 H.2.1 H.2.2.1 dd_Operators_popOpen_27
set_option maxRecDepth 100000 in
set_option maxHeartbeats 4000000 in
theorem c_Operators_popOpen (l : Launch) {nf : Nat} {a0 : Nat} {c : Zc} {res : Zc} (h : f_Operators_popOpen nf a0 c = some res) : zM l yy_Operators_popOpen ww_Operators_popOpen 0 0 0 0 [.ref a0] c (fun D cid B => zQv D cid B res c.length 0) := by
  refine z_met (cc := bb_Operators_popOpen) (maxL := 1) (ret := none) (by decide +kernel) rfl (Nat.le_of_ble_eq_true rfl) ?_
  intro p e s m args below meth cd D cid B X h1 h2 h3 h4
  have X : zX p s m args cd D cid B bb_Operators_popOpen 1 rr_Operators zT := X
  have H : zH s meth B c.length none "popOpen" := ⟨h1, h2, h4, h3⟩
  unfold f_Operators_popOpen at h
  show Zz p l e (zRm 0 0 0 0) s m args below meth cd _ D cid B 1 0 0 c 0 [(0, .ref a0)] []
  refine z_aload_n X dd_Operators_popOpen_0 rfl 0 rfl ?_
  obtain ⟨v1, ev1, h⟩ := zb h
  refine z_get (j := 4) X dd_Operators_popOpen_1 kc_4 ki_4 (by decide) km_452 (zgi_v ev1) ?_
  refine z_if_le (tgt := 17) X dd_Operators_popOpen_4 (by decide) (fun q2 => ?_) (fun q2 => ?_)
  · rw [if_pos q2] at h
    exact t_Operators_popOpen_17 X H h
  · rw [if_neg q2] at h
    refine z_aload_n X dd_Operators_popOpen_7 rfl 0 rfl ?_
    refine z_dup X dd_Operators_popOpen_8 rfl ?_
    obtain ⟨v5, ev5, h⟩ := zb h
    refine z_get (j := 4) X dd_Operators_popOpen_9 kc_4 ki_4 (by decide) km_452 (zgi_v ev5) ?_
    refine z_iconst (v := 1) X dd_Operators_popOpen_12 (by decide) ?_
    refine z_isub X dd_Operators_popOpen_13 ?_
    obtain ⟨c6, ec6, h⟩ := zb h
    refine z_put (j := 4) X dd_Operators_popOpen_14 kc_4 ki_4 tt_Operators tk_Operators nn_Operators (by decide) km_452 rfl (tk_Operators 4 (by decide)) rfl rfl ec6 ?_
    exact t_Operators_popOpen_17 X H h
theorem dd_Operators_closeParen_0 : decode bb_Operators_closeParen 0 = .ok (.aload_n 0, 1) := by decide +kernel
theorem dd_Operators_closeParen_1 : decode bb_Operators_closeParen 1 = .ok (.iconst 5, 1) := by decide +kernel
theorem dd_Operators_closeParen_2 : decode bb_Operators_closeParen 2 = .ok (.invokevirtual 38, 3) := by decide +kernel
theorem dd_Operators_closeParen_5 : decode bb_Operators_closeParen 5 = .ok (.aload_n 0, 1) := by decide +kernel
theorem dd_Operators_closeParen_6 : decode bb_Operators_closeParen 6 = .ok (.dup, 1) := by decide +kernel
theorem dd_Operators_closeParen_7 : decode bb_Operators_closeParen 7 = .ok (.getfield 15, 3) := by decide +kernel
theorem dd_Operators_closeParen_10 : decode bb_Operators_closeParen 10 = .ok (.iconst 1, 1) := by decide +kernel
theorem dd_Operators_closeParen_11 : decode bb_Operators_closeParen 11 = .ok (.isub, 1) := by decide +kernel
theorem dd_Operators_closeParen_12 : decode bb_Operators_closeParen 12 = .ok (.putfield 15, 3) := by decide +kernel
theorem dd_Operators_closeParen_15 : decode bb_Operators_closeParen 15 = .ok (.aload_n 0, 1) := by decide +kernel
theorem dd_Operators_closeParen_16 : decode bb_Operators_closeParen 16 = .ok (.invokevirtual 55, 3) := by decide +kernel
theorem dd_Operators_closeParen_19 : decode bb_Operators_closeParen 19 = .ok (.aload_n 0, 1) := by decide +kernel
theorem dd_Operators_closeParen_20 : decode bb_Operators_closeParen 20 = .ok (.bipush 7, 2) := by decide +kernel
theorem dd_Operators_closeParen_22 : decode bb_Operators_closeParen 22 = .ok (.invokevirtual 38, 3) := by decide +kernel
theorem dd_Operators_closeParen_25 : decode bb_Operators_closeParen 25 = .ok (.return_, 1) := by decide +kernel
def f_Operators_closeParen (nf : Nat) (a0 : Nat) (c : Zc) : Option (Zc) :=
  (zob c a0 4).bind fun w2 => (f_Operators_unwind nf a0 5 c).bind fun q1 => (zgi q1 a0 4 1).bind fun v3 => (zpv q1 a0 4 1 (.int (v3 - 1))).bind fun c4 => (zob c4 a0 4).bind fun w6 => (f_Operators_popOpen nf a0 c4).bind fun q5 => (zob q5 a0 4).bind fun w8 => (f_Operators_unwind nf a0 7 q5).bind fun q7 => some q7
set_option maxRecDepth 100000 in
set_option maxHeartbeats 4000000 in
theorem c_Operators_closeParen (l : Launch) {nf : Nat} {a0 : Nat} {c : Zc} {res : Zc} (h : f_Operators_closeParen nf a0 c = some res) : zM l yy_Operators_closeParen ww_Operators_closeParen 2 45 0 0 [.ref a0] c (fun D cid B => zQv D cid B res c.length 0) := by
  refine z_met (cc := bb_Operators_closeParen) (maxL := 1) (ret := none) (by decide +kernel) rfl (Nat.le_of_ble_eq_true rfl) ?_
  intro p e s m args below meth cd D cid B X h1 h2 h3 h4
  have X : zX p s m args cd D cid B bb_Operators_closeParen 1 rr_Operators zT := X
  have H : zH s meth B c.length none "closeParen" := ⟨h1, h2, h4, h3⟩
  unfold f_Operators_closeParen at h
  show Zz p l e (zRm 2 45 0 0) s m args below meth cd _ D cid B 1 0 0 c 0 [(0, .ref a0)] []
  refine z_aload_n X dd_Operators_closeParen_0 rfl 0 rfl ?_
  refine z_iconst (v := 5) X dd_Operators_closeParen_1 (by decide) ?_
  obtain ⟨w2, ew2, h⟩ := zb h
  obtain ⟨q1, eq1, h⟩ := zb h
  refine z_callVv X [.int 5] rfl dd_Operators_closeParen_2 (c_Operators_unwind l eq1) (cwV 1 X.1.2.2.2.2 (zg_V km_1157 km_1060 km_1061 km_132 km_1062) rfl rfl rfl (by decide +kernel) ⟨Nat.le_of_ble_eq_true rfl, Nat.le_of_ble_eq_true rfl⟩) (zob_s ew2) kc_4 rfl (Nat.le_of_ble_eq_true rfl) ⟨Nat.le_of_ble_eq_true rfl, Nat.le_of_ble_eq_true rfl⟩ ?_
  refine z_aload_n X dd_Operators_closeParen_5 rfl 0 rfl ?_
  refine z_dup X dd_Operators_closeParen_6 rfl ?_
  obtain ⟨v3, ev3, h⟩ := zb h
  refine z_get (j := 1) X dd_Operators_closeParen_7 kc_4 ki_4 (by decide) km_447 (zgi_v ev3) ?_
  refine z_iconst (v := 1) X dd_Operators_closeParen_10 (by decide) ?_
  refine z_isub X dd_Operators_closeParen_11 ?_
  obtain ⟨c4, ec4, h⟩ := zb h
  refine z_put (j := 1) X dd_Operators_closeParen_12 kc_4 ki_4 tt_Operators tk_Operators nn_Operators (by decide) km_447 rfl (tk_Operators 1 (by decide)) rfl rfl ec4 ?_
  refine z_aload_n X dd_Operators_closeParen_15 rfl 0 rfl ?_
  obtain ⟨w6, ew6, h⟩ := zb h
  obtain ⟨q5, eq5, h⟩ := zb h
  refine z_callVv X [] rfl dd_Operators_closeParen_16 (c_Operators_popOpen l eq5) (cwV 0 X.1.2.2.2.2 (zg_V km_1162 km_1164 km_33 km_132 km_1165) rfl rfl rfl (by decide +kernel) ⟨Nat.le_of_ble_eq_true rfl, Nat.le_of_ble_eq_true rfl⟩) (zob_s ew6) kc_4 rfl (Nat.le_of_ble_eq_true rfl) ⟨Nat.le_of_ble_eq_true rfl, Nat.le_of_ble_eq_true rfl⟩ ?_
  refine z_aload_n X dd_Operators_closeParen_19 rfl 0 rfl ?_
  refine z_bipush (v := 7) X dd_Operators_closeParen_20 (by decide) ?_
  obtain ⟨w8, ew8, h⟩ := zb h
  obtain ⟨q7, eq7, h⟩ := zb h
  refine z_callVv X [.int 7] rfl dd_Operators_closeParen_22 (c_Operators_unwind l eq7) (cwV 1 X.1.2.2.2.2 (zg_V km_1157 km_1060 km_1061 km_132 km_1062) rfl rfl rfl (by decide +kernel) ⟨Nat.le_of_ble_eq_true rfl, Nat.le_of_ble_eq_true rfl⟩) (zob_s ew8) kc_4 rfl (Nat.le_of_ble_eq_true rfl) ⟨Nat.le_of_ble_eq_true rfl, Nat.le_of_ble_eq_true rfl⟩ ?_
  obtain rfl := Option.some.inj h
  exact z_vret X H.1 H.2.1 H.2.2.1 dd_Operators_closeParen_25
theorem dd_Operators_closeBracket_0 : decode bb_Operators_closeBracket 0 = .ok (.aload_n 0, 1) := by decide +kernel
theorem dd_Operators_closeBracket_1 : decode bb_Operators_closeBracket 1 = .ok (.iconst 1, 1) := by decide +kernel
theorem dd_Operators_closeBracket_2 : decode bb_Operators_closeBracket 2 = .ok (.invokevirtual 38, 3) := by decide +kernel
theorem dd_Operators_closeBracket_5 : decode bb_Operators_closeBracket 5 = .ok (.aload_n 0, 1) := by decide +kernel
theorem dd_Operators_closeBracket_6 : decode bb_Operators_closeBracket 6 = .ok (.dup, 1) := by decide +kernel
theorem dd_Operators_closeBracket_7 : decode bb_Operators_closeBracket 7 = .ok (.getfield 18, 3) := by decide +kernel
theorem dd_Operators_closeBracket_10 : decode bb_Operators_closeBracket 10 = .ok (.iconst 1, 1) := by decide +kernel
theorem dd_Operators_closeBracket_11 : decode bb_Operators_closeBracket 11 = .ok (.isub, 1) := by decide +kernel
theorem dd_Operators_closeBracket_12 : decode bb_Operators_closeBracket 12 = .ok (.putfield 18, 3) := by decide +kernel
theorem dd_Operators_closeBracket_15 : decode bb_Operators_closeBracket 15 = .ok (.aload_n 0, 1) := by decide +kernel
theorem dd_Operators_closeBracket_16 : decode bb_Operators_closeBracket 16 = .ok (.invokevirtual 55, 3) := by decide +kernel
theorem dd_Operators_closeBracket_19 : decode bb_Operators_closeBracket 19 = .ok (.aload_n 0, 1) := by decide +kernel
theorem dd_Operators_closeBracket_20 : decode bb_Operators_closeBracket 20 = .ok (.iconst 3, 1) := by decide +kernel
theorem dd_Operators_closeBracket_21 : decode bb_Operators_closeBracket 21 = .ok (.invokevirtual 38, 3) := by decide +kernel
theorem dd_Operators_closeBracket_24 : decode bb_Operators_closeBracket 24 = .ok (.return_, 1) := by decide +kernel
def f_Operators_closeBracket (nf : Nat) (a0 : Nat) (c : Zc) : Option (Zc) :=
  (zob c a0 4).bind fun w2 => (f_Operators_unwind nf a0 1 c).bind fun q1 => (zgi q1 a0 4 2).bind fun v3 => (zpv q1 a0 4 2 (.int (v3 - 1))).bind fun c4 => (zob c4 a0 4).bind fun w6 => (f_Operators_popOpen nf a0 c4).bind fun q5 => (zob q5 a0 4).bind fun w8 => (f_Operators_unwind nf a0 3 q5).bind fun q7 => some q7
set_option maxRecDepth 100000 in
set_option maxHeartbeats 4000000 in
theorem c_Operators_closeBracket (l : Launch) {nf : Nat} {a0 : Nat} {c : Zc} {res : Zc} (h : f_Operators_closeBracket nf a0 c = some res) : zM l yy_Operators_closeBracket ww_Operators_closeBracket 2 45 0 0 [.ref a0] c (fun D cid B => zQv D cid B res c.length 0) := by
  refine z_met (cc := bb_Operators_closeBracket) (maxL := 1) (ret := none) (by decide +kernel) rfl (Nat.le_of_ble_eq_true rfl) ?_
  intro p e s m args below meth cd D cid B X h1 h2 h3 h4
  have X : zX p s m args cd D cid B bb_Operators_closeBracket 1 rr_Operators zT := X
  have H : zH s meth B c.length none "closeBracket" := ⟨h1, h2, h4, h3⟩
  unfold f_Operators_closeBracket at h
  show Zz p l e (zRm 2 45 0 0) s m args below meth cd _ D cid B 1 0 0 c 0 [(0, .ref a0)] []
  refine z_aload_n X dd_Operators_closeBracket_0 rfl 0 rfl ?_
  refine z_iconst (v := 1) X dd_Operators_closeBracket_1 (by decide) ?_
  obtain ⟨w2, ew2, h⟩ := zb h
  obtain ⟨q1, eq1, h⟩ := zb h
  refine z_callVv X [.int 1] rfl dd_Operators_closeBracket_2 (c_Operators_unwind l eq1) (cwV 1 X.1.2.2.2.2 (zg_V km_1157 km_1060 km_1061 km_132 km_1062) rfl rfl rfl (by decide +kernel) ⟨Nat.le_of_ble_eq_true rfl, Nat.le_of_ble_eq_true rfl⟩) (zob_s ew2) kc_4 rfl (Nat.le_of_ble_eq_true rfl) ⟨Nat.le_of_ble_eq_true rfl, Nat.le_of_ble_eq_true rfl⟩ ?_
  refine z_aload_n X dd_Operators_closeBracket_5 rfl 0 rfl ?_
  refine z_dup X dd_Operators_closeBracket_6 rfl ?_
  obtain ⟨v3, ev3, h⟩ := zb h
  refine z_get (j := 2) X dd_Operators_closeBracket_7 kc_4 ki_4 (by decide) km_449 (zgi_v ev3) ?_
  refine z_iconst (v := 1) X dd_Operators_closeBracket_10 (by decide) ?_
  refine z_isub X dd_Operators_closeBracket_11 ?_
  obtain ⟨c4, ec4, h⟩ := zb h
  refine z_put (j := 2) X dd_Operators_closeBracket_12 kc_4 ki_4 tt_Operators tk_Operators nn_Operators (by decide) km_449 rfl (tk_Operators 2 (by decide)) rfl rfl ec4 ?_
  refine z_aload_n X dd_Operators_closeBracket_15 rfl 0 rfl ?_
  obtain ⟨w6, ew6, h⟩ := zb h
  obtain ⟨q5, eq5, h⟩ := zb h
  refine z_callVv X [] rfl dd_Operators_closeBracket_16 (c_Operators_popOpen l eq5) (cwV 0 X.1.2.2.2.2 (zg_V km_1162 km_1164 km_33 km_132 km_1165) rfl rfl rfl (by decide +kernel) ⟨Nat.le_of_ble_eq_true rfl, Nat.le_of_ble_eq_true rfl⟩) (zob_s ew6) kc_4 rfl (Nat.le_of_ble_eq_true rfl) ⟨Nat.le_of_ble_eq_true rfl, Nat.le_of_ble_eq_true rfl⟩ ?_
  refine z_aload_n X dd_Operators_closeBracket_19 rfl 0 rfl ?_
  refine z_iconst (v := 3) X dd_Operators_closeBracket_20 (by decide) ?_
  obtain ⟨w8, ew8, h⟩ := zb h
  obtain ⟨q7, eq7, h⟩ := zb h
  refine z_callVv X [.int 3] rfl dd_Operators_closeBracket_21 (c_Operators_unwind l eq7) (cwV 1 X.1.2.2.2.2 (zg_V km_1157 km_1060 km_1061 km_132 km_1062) rfl rfl rfl (by decide +kernel) ⟨Nat.le_of_ble_eq_true rfl, Nat.le_of_ble_eq_true rfl⟩) (zob_s ew8) kc_4 rfl (Nat.le_of_ble_eq_true rfl) ⟨Nat.le_of_ble_eq_true rfl, Nat.le_of_ble_eq_true rfl⟩ ?_
  obtain rfl := Option.some.inj h
  exact z_vret X H.1 H.2.1 H.2.2.1 dd_Operators_closeBracket_24
theorem dd_Reader_init_0 : decode bb_Reader_init 0 = .ok (.aload_n 0, 1) := by decide +kernel
theorem dd_Reader_init_1 : decode bb_Reader_init 1 = .ok (.invokespecial 3, 3) := by decide +kernel
theorem dd_Reader_init_4 : decode bb_Reader_init 4 = .ok (.aload_n 0, 1) := by decide +kernel
theorem dd_Reader_init_5 : decode bb_Reader_init 5 = .ok (.bipush (-2), 2) := by decide +kernel
theorem dd_Reader_init_7 : decode bb_Reader_init 7 = .ok (.putfield 9, 3) := by decide +kernel
theorem dd_Reader_init_10 : decode bb_Reader_init 10 = .ok (.aload_n 0, 1) := by decide +kernel
theorem dd_Reader_init_11 : decode bb_Reader_init 11 = .ok (.new 15, 3) := by decide +kernel
theorem dd_Reader_init_14 : decode bb_Reader_init 14 = .ok (.dup, 1) := by decide +kernel
theorem dd_Reader_init_15 : decode bb_Reader_init 15 = .ok (.invokespecial 17, 3) := by decide +kernel
theorem dd_Reader_init_18 : decode bb_Reader_init 18 = .ok (.putfield 18, 3) := by decide +kernel
theorem dd_Reader_init_21 : decode bb_Reader_init 21 = .ok (.aload_n 0, 1) := by decide +kernel
theorem dd_Reader_init_22 : decode bb_Reader_init 22 = .ok (.bipush 66, 2) := by decide +kernel
theorem dd_Reader_init_24 : decode bb_Reader_init 24 = .ok (.newarray .int, 2) := by decide +kernel
theorem dd_Reader_init_26 : decode bb_Reader_init 26 = .ok (.putfield 22, 3) := by decide +kernel
theorem dd_Reader_init_29 : decode bb_Reader_init 29 = .ok (.aload_n 0, 1) := by decide +kernel
theorem dd_Reader_init_30 : decode bb_Reader_init 30 = .ok (.iconst 0, 1) := by decide +kernel
theorem dd_Reader_init_31 : decode bb_Reader_init 31 = .ok (.putfield 26, 3) := by decide +kernel
theorem dd_Reader_init_34 : decode bb_Reader_init 34 = .ok (.aload_n 0, 1) := by decide +kernel
theorem dd_Reader_init_35 : decode bb_Reader_init 35 = .ok (.iconst 0, 1) := by decide +kernel
theorem dd_Reader_init_36 : decode bb_Reader_init 36 = .ok (.putfield 30, 3) := by decide +kernel
theorem dd_Reader_init_39 : decode bb_Reader_init 39 = .ok (.aload_n 0, 1) := by decide +kernel
theorem dd_Reader_init_40 : decode bb_Reader_init 40 = .ok (.iconst 0, 1) := by decide +kernel
theorem dd_Reader_init_41 : decode bb_Reader_init 41 = .ok (.putfield 33, 3) := by decide +kernel
theorem dd_Reader_init_44 : decode bb_Reader_init 44 = .ok (.aload_n 0, 1) := by decide +kernel
theorem dd_Reader_init_45 : decode bb_Reader_init 45 = .ok (.iconst 0, 1) := by decide +kernel
theorem dd_Reader_init_46 : decode bb_Reader_init 46 = .ok (.putfield 36, 3) := by decide +kernel
theorem dd_Reader_init_49 : decode bb_Reader_init 49 = .ok (.aload_n 0, 1) := by decide +kernel
theorem dd_Reader_init_50 : decode bb_Reader_init 50 = .ok (.iconst 0, 1) := by decide +kernel
theorem dd_Reader_init_51 : decode bb_Reader_init 51 = .ok (.putfield 39, 3) := by decide +kernel
theorem dd_Reader_init_54 : decode bb_Reader_init 54 = .ok (.aload_n 0, 1) := by decide +kernel
theorem dd_Reader_init_55 : decode bb_Reader_init 55 = .ok (.iconst 0, 1) := by decide +kernel
theorem dd_Reader_init_56 : decode bb_Reader_init 56 = .ok (.putfield 42, 3) := by decide +kernel
theorem dd_Reader_init_59 : decode bb_Reader_init 59 = .ok (.aload_n 0, 1) := by decide +kernel
theorem dd_Reader_init_60 : decode bb_Reader_init 60 = .ok (.iconst 0, 1) := by decide +kernel
theorem dd_Reader_init_61 : decode bb_Reader_init 61 = .ok (.putfield 45, 3) := by decide +kernel
theorem dd_Reader_init_64 : decode bb_Reader_init 64 = .ok (.aload_n 0, 1) := by decide +kernel
theorem dd_Reader_init_65 : decode bb_Reader_init 65 = .ok (.iconst (-1), 1) := by decide +kernel
theorem dd_Reader_init_66 : decode bb_Reader_init 66 = .ok (.putfield 48, 3) := by decide +kernel
theorem dd_Reader_init_69 : decode bb_Reader_init 69 = .ok (.aload_n 0, 1) := by decide +kernel
theorem dd_Reader_init_70 : decode bb_Reader_init 70 = .ok (.iconst 0, 1) := by decide +kernel
theorem dd_Reader_init_71 : decode bb_Reader_init 71 = .ok (.putfield 51, 3) := by decide +kernel
theorem dd_Reader_init_74 : decode bb_Reader_init 74 = .ok (.aload_n 0, 1) := by decide +kernel
theorem dd_Reader_init_75 : decode bb_Reader_init 75 = .ok (.iconst 0, 1) := by decide +kernel
theorem dd_Reader_init_76 : decode bb_Reader_init 76 = .ok (.putfield 54, 3) := by decide +kernel
theorem dd_Reader_init_79 : decode bb_Reader_init 79 = .ok (.aload_n 0, 1) := by decide +kernel
theorem dd_Reader_init_80 : decode bb_Reader_init 80 = .ok (.iconst 0, 1) := by decide +kernel
theorem dd_Reader_init_81 : decode bb_Reader_init 81 = .ok (.putfield 57, 3) := by decide +kernel
theorem dd_Reader_init_84 : decode bb_Reader_init 84 = .ok (.aload_n 0, 1) := by decide +kernel
theorem dd_Reader_init_85 : decode bb_Reader_init 85 = .ok (.iconst 0, 1) := by decide +kernel
theorem dd_Reader_init_86 : decode bb_Reader_init 86 = .ok (.putfield 60, 3) := by decide +kernel
theorem dd_Reader_init_89 : decode bb_Reader_init 89 = .ok (.aload_n 0, 1) := by decide +kernel
theorem dd_Reader_init_90 : decode bb_Reader_init 90 = .ok (.iconst 0, 1) := by decide +kernel
theorem dd_Reader_init_91 : decode bb_Reader_init 91 = .ok (.putfield 63, 3) := by decide +kernel
theorem dd_Reader_init_94 : decode bb_Reader_init 94 = .ok (.aload_n 0, 1) := by decide +kernel
theorem dd_Reader_init_95 : decode bb_Reader_init 95 = .ok (.iconst 0, 1) := by decide +kernel
theorem dd_Reader_init_96 : decode bb_Reader_init 96 = .ok (.putfield 66, 3) := by decide +kernel
theorem dd_Reader_init_99 : decode bb_Reader_init 99 = .ok (.aload_n 0, 1) := by decide +kernel
theorem dd_Reader_init_100 : decode bb_Reader_init 100 = .ok (.aload_n 1, 1) := by decide +kernel
theorem dd_Reader_init_101 : decode bb_Reader_init 101 = .ok (.putfield 69, 3) := by decide +kernel
theorem dd_Reader_init_104 : decode bb_Reader_init 104 = .ok (.aload_n 0, 1) := by decide +kernel
theorem dd_Reader_init_105 : decode bb_Reader_init 105 = .ok (.aload_n 1, 1) := by decide +kernel
theorem dd_Reader_init_106 : decode bb_Reader_init 106 = .ok (.getfield 73, 3) := by decide +kernel
theorem dd_Reader_init_109 : decode bb_Reader_init 109 = .ok (.iconst 0, 1) := by decide +kernel
theorem dd_Reader_init_110 : decode bb_Reader_init 110 = .ok (.aaload, 1) := by decide +kernel
theorem dd_Reader_init_111 : decode bb_Reader_init 111 = .ok (.putfield 79, 3) := by decide +kernel
theorem dd_Reader_init_114 : decode bb_Reader_init 114 = .ok (.aload_n 0, 1) := by decide +kernel
theorem dd_Reader_init_115 : decode bb_Reader_init 115 = .ok (.new 82, 3) := by decide +kernel
theorem dd_Reader_init_118 : decode bb_Reader_init 118 = .ok (.dup, 1) := by decide +kernel
theorem dd_Reader_init_119 : decode bb_Reader_init 119 = .ok (.aload_n 1, 1) := by decide +kernel
theorem dd_Reader_init_120 : decode bb_Reader_init 120 = .ok (.invokespecial 84, 3) := by decide +kernel
theorem dd_Reader_init_123 : decode bb_Reader_init 123 = .ok (.putfield 87, 3) := by decide +kernel
theorem dd_Reader_init_126 : decode bb_Reader_init 126 = .ok (.return_, 1) := by decide +kernel
def f_Reader_init (nf mc ms : Nat) (a0 : Nat) (a1 : Nat) (c : Zc) : Option (Zc) :=
  (zpv c a0 5 0 (.int (-2))).bind fun c1 => (zlim (0 + 1) (0 + 6) mc ms).bind fun u3 => (znw c1 (.inr (3, [.null, .null, .null, .int 0, .null, .int 0]))).bind fun c2 => (zlim ((0 + 1) + 4) ((0 + 6) + 606) mc ms).bind fun u5 => (f_Tokens_init nf 4 606 (List.length c1) c2).bind fun q4 => (zpv q4 a0 5 1 (.ref (List.length c1))).bind fun c6 => (zlim (((0 + 1) + 4) + 1) (((0 + 6) + 606) + 66) mc ms).bind fun u8 => (znw c6 (.inl (0, 66, .inl (fun _ => 0)))).bind fun c7 => (zpv c7 a0 5 3 (.ref (List.length c6))).bind fun c9 => (zpv c9 a0 5 6 (.int 0)).bind fun c10 => (zpv c10 a0 5 7 (.int 0)).bind fun c11 => (zpv c11 a0 5 8 (.int 0)).bind fun c12 => (zpv c12 a0 5 9 (.int 0)).bind fun c13 => (zpv c13 a0 5 10 (.int 0)).bind fun c14 => (zpv c14 a0 5 11 (.int 0)).bind fun c15 => (zpv c15 a0 5 12 (.int 0)).bind fun c16 => (zpv c16 a0 5 13 (.int (-1))).bind fun c17 => (zpv c17 a0 5 14 (.int 0)).bind fun c18 => (zpv c18 a0 5 15 (.int 0)).bind fun c19 => (zpv c19 a0 5 16 (.int 0)).bind fun c20 => (zpv c20 a0 5 17 (.int 0)).bind fun c21 => (zpv c21 a0 5 18 (.int 0)).bind fun c22 => (zpv c22 a0 5 19 (.int 0)).bind fun c23 => (zpv c23 a0 5 4 (.ref a1)).bind fun c24 => (zgr c24 a1 2 4).bind fun v25 => (zar c24 v25 3 0).bind fun v26 => (zpv c24 a0 5 5 (.ref v26)).bind fun c27 => (zlim ((((0 + 1) + 4) + 1) + 1) ((((0 + 6) + 606) + 66) + 8) mc ms).bind fun u29 => (znw c27 (.inr (4, [.int 0, .int 0, .int 0, .null, .int 0, .null, .null, .null]))).bind fun c28 => (zlim (((((0 + 1) + 4) + 1) + 1) + 3) (((((0 + 6) + 606) + 66) + 8) + 240) mc ms).bind fun u31 => (f_Operators_init nf 3 240 (List.length c27) a1 c28).bind fun q30 => (zpv q30 a0 5 2 (.ref (List.length c27))).bind fun c32 => (zend (((((0 + 1) + 4) + 1) + 1) + 3) (((((0 + 6) + 606) + 66) + 8) + 240) mc ms).bind fun u33 => some c32
set_option maxRecDepth 100000 in
set_option maxHeartbeats 4000000 in
theorem c_Reader_init (l : Launch) {nf mc ms : Nat} {a0 : Nat} {a1 : Nat} {c : Zc} {res : Zc} (h : f_Reader_init nf mc ms a0 a1 c = some res) : zM l yy_Reader_init ww_Reader_init 2 41 mc ms [.ref a0, .ref a1] c (fun D cid B => zQv D cid B res c.length mc) := by
  refine z_met (cc := bb_Reader_init) (maxL := 2) (ret := none) (by decide +kernel) rfl (Nat.le_of_ble_eq_true rfl) ?_
  intro p e s m args below meth cd D cid B X h1 h2 h3 h4
  have X : zX p s m args cd D cid B bb_Reader_init 2 rr_Reader zT := X
  have H : zH s meth B c.length none "<init>" := ⟨h1, h2, h4, h3⟩
  unfold f_Reader_init at h
  show Zz p l e (zRm 2 41 mc ms) s m args below meth cd _ D cid B 2 0 0 c 0 [(0, .ref a0), (1, .ref a1)] []
  refine z_aload_n X dd_Reader_init_0 rfl 0 rfl ?_
  refine z_objInit X dd_Reader_init_1 km_409 km_153 km_154 (Nat.le_of_ble_eq_true rfl) (Nat.le_of_ble_eq_true rfl) ?_
  refine z_aload_n X dd_Reader_init_4 rfl 0 rfl ?_
  refine z_bipush (v := (-2)) X dd_Reader_init_5 (by decide) ?_
  obtain ⟨c1, ec1, h⟩ := zb h
  refine z_put (j := 0) X dd_Reader_init_7 kc_5 ki_5 tt_Reader tk_Reader nn_Reader (by decide) km_473 rfl (tk_Reader 0 (by decide)) rfl rfl ec1 ?_
  refine z_aload_n X dd_Reader_init_10 rfl 0 rfl ?_
  obtain ⟨u3, eu3, h⟩ := zb h
  obtain ⟨c2, ec2, h⟩ := zb h
  refine z_newC X dd_Reader_init_11 kc_3 ki_3 tt_Tokens tk_Tokens km_410 km_411 km_131 (by decide +kernel) (fun _ _ => rfl) (zlim_s eu3).1 (zlim_s eu3).2 ec2 ?_
  refine z_dup X dd_Reader_init_14 rfl ?_
  obtain ⟨u5, eu5, h⟩ := zb h
  obtain ⟨q4, eq4, h⟩ := zb h
  refine z_callIv (ret := none) X [] rfl dd_Reader_init_15 (c_Tokens_init l eq4) (cwI 0 X.1.2.2.2.2 (zg_I km_414) rfl rfl rfl (X.1.2.2.2.2 _ km_131) (X.1.2.2.2.2 _ km_412) (X.1.2.2.2.2 _ km_413) rfl (by decide +kernel) ⟨Nat.le_of_ble_eq_true rfl, Nat.le_of_ble_eq_true rfl⟩) rfl (Nat.le_of_ble_eq_true rfl) (zlim_s eu5) ?_
  obtain ⟨c6, ec6, h⟩ := zb h
  refine z_putF (j := 1) X dd_Reader_init_18 kc_5 ki_5 tt_Reader tk_Reader nn_Reader (by decide) km_475 rfl H.2.2.2 rfl (tk_Reader 1 (by decide)) rfl rfl ec6 ?_
  refine z_aload_n X dd_Reader_init_21 rfl 0 rfl ?_
  refine z_bipush (v := 66) X dd_Reader_init_22 (by decide) ?_
  obtain ⟨u8, eu8, h⟩ := zb h
  obtain ⟨c7, ec7, h⟩ := zb h
  refine z_newaC (ty := .int) X dd_Reader_init_24 rfl km_206 rfl (fun _ q => by cases q) (fun _ => rfl) (fun _ => rfl) (by decide) (by decide) (by decide) (zlim_s eu8).1 (zlim_s eu8).2 ec7 ?_
  obtain ⟨c9, ec9, h⟩ := zb h
  refine z_putF (j := 3) X dd_Reader_init_26 kc_5 ki_5 tt_Reader tk_Reader nn_Reader (by decide) km_477 rfl H.2.2.2 rfl (tk_Reader 3 (by decide)) rfl rfl ec9 ?_
  refine z_aload_n X dd_Reader_init_29 rfl 0 rfl ?_
  refine z_iconst (v := 0) X dd_Reader_init_30 (by decide) ?_
  obtain ⟨c10, ec10, h⟩ := zb h
  refine z_put (j := 6) X dd_Reader_init_31 kc_5 ki_5 tt_Reader tk_Reader nn_Reader (by decide) km_480 rfl (tk_Reader 6 (by decide)) rfl rfl ec10 ?_
  refine z_aload_n X dd_Reader_init_34 rfl 0 rfl ?_
  refine z_iconst (v := 0) X dd_Reader_init_35 (by decide) ?_
  obtain ⟨c11, ec11, h⟩ := zb h
  refine z_put (j := 7) X dd_Reader_init_36 kc_5 ki_5 tt_Reader tk_Reader nn_Reader (by decide) km_481 rfl (tk_Reader 7 (by decide)) rfl rfl ec11 ?_
  refine z_aload_n X dd_Reader_init_39 rfl 0 rfl ?_
  refine z_iconst (v := 0) X dd_Reader_init_40 (by decide) ?_
  obtain ⟨c12, ec12, h⟩ := zb h
  refine z_put (j := 8) X dd_Reader_init_41 kc_5 ki_5 tt_Reader tk_Reader nn_Reader (by decide) km_482 rfl (tk_Reader 8 (by decide)) rfl rfl ec12 ?_
  refine z_aload_n X dd_Reader_init_44 rfl 0 rfl ?_
  refine z_iconst (v := 0) X dd_Reader_init_45 (by decide) ?_
  obtain ⟨c13, ec13, h⟩ := zb h
  refine z_put (j := 9) X dd_Reader_init_46 kc_5 ki_5 tt_Reader tk_Reader nn_Reader (by decide) km_483 rfl (tk_Reader 9 (by decide)) rfl rfl ec13 ?_
  refine z_aload_n X dd_Reader_init_49 rfl 0 rfl ?_
  refine z_iconst (v := 0) X dd_Reader_init_50 (by decide) ?_
  obtain ⟨c14, ec14, h⟩ := zb h
  refine z_put (j := 10) X dd_Reader_init_51 kc_5 ki_5 tt_Reader tk_Reader nn_Reader (by decide) km_484 rfl (tk_Reader 10 (by decide)) rfl rfl ec14 ?_
  refine z_aload_n X dd_Reader_init_54 rfl 0 rfl ?_
  refine z_iconst (v := 0) X dd_Reader_init_55 (by decide) ?_
  obtain ⟨c15, ec15, h⟩ := zb h
  refine z_put (j := 11) X dd_Reader_init_56 kc_5 ki_5 tt_Reader tk_Reader nn_Reader (by decide) km_485 rfl (tk_Reader 11 (by decide)) rfl rfl ec15 ?_
  refine z_aload_n X dd_Reader_init_59 rfl 0 rfl ?_
  refine z_iconst (v := 0) X dd_Reader_init_60 (by decide) ?_
  obtain ⟨c16, ec16, h⟩ := zb h
  refine z_put (j := 12) X dd_Reader_init_61 kc_5 ki_5 tt_Reader tk_Reader nn_Reader (by decide) km_486 rfl (tk_Reader 12 (by decide)) rfl rfl ec16 ?_
  refine z_aload_n X dd_Reader_init_64 rfl 0 rfl ?_
  refine z_iconst (v := (-1)) X dd_Reader_init_65 (by decide) ?_
  obtain ⟨c17, ec17, h⟩ := zb h
  refine z_put (j := 13) X dd_Reader_init_66 kc_5 ki_5 tt_Reader tk_Reader nn_Reader (by decide) km_487 rfl (tk_Reader 13 (by decide)) rfl rfl ec17 ?_
  refine z_aload_n X dd_Reader_init_69 rfl 0 rfl ?_
  refine z_iconst (v := 0) X dd_Reader_init_70 (by decide) ?_
  obtain ⟨c18, ec18, h⟩ := zb h
  refine z_put (j := 14) X dd_Reader_init_71 kc_5 ki_5 tt_Reader tk_Reader nn_Reader (by decide) km_488 rfl (tk_Reader 14 (by decide)) rfl rfl ec18 ?_
  refine z_aload_n X dd_Reader_init_74 rfl 0 rfl ?_
  refine z_iconst (v := 0) X dd_Reader_init_75 (by decide) ?_
  obtain ⟨c19, ec19, h⟩ := zb h
  refine z_put (j := 15) X dd_Reader_init_76 kc_5 ki_5 tt_Reader tk_Reader nn_Reader (by decide) km_489 rfl (tk_Reader 15 (by decide)) rfl rfl ec19 ?_
  refine z_aload_n X dd_Reader_init_79 rfl 0 rfl ?_
  refine z_iconst (v := 0) X dd_Reader_init_80 (by decide) ?_
  obtain ⟨c20, ec20, h⟩ := zb h
  refine z_put (j := 16) X dd_Reader_init_81 kc_5 ki_5 tt_Reader tk_Reader nn_Reader (by decide) km_490 rfl (tk_Reader 16 (by decide)) rfl rfl ec20 ?_
  refine z_aload_n X dd_Reader_init_84 rfl 0 rfl ?_
  refine z_iconst (v := 0) X dd_Reader_init_85 (by decide) ?_
  obtain ⟨c21, ec21, h⟩ := zb h
  refine z_put (j := 17) X dd_Reader_init_86 kc_5 ki_5 tt_Reader tk_Reader nn_Reader (by decide) km_491 rfl (tk_Reader 17 (by decide)) rfl rfl ec21 ?_
  refine z_aload_n X dd_Reader_init_89 rfl 0 rfl ?_
  refine z_iconst (v := 0) X dd_Reader_init_90 (by decide) ?_
  obtain ⟨c22, ec22, h⟩ := zb h
  refine z_put (j := 18) X dd_Reader_init_91 kc_5 ki_5 tt_Reader tk_Reader nn_Reader (by decide) km_492 rfl (tk_Reader 18 (by decide)) rfl rfl ec22 ?_
  refine z_aload_n X dd_Reader_init_94 rfl 0 rfl ?_
  refine z_iconst (v := 0) X dd_Reader_init_95 (by decide) ?_
  obtain ⟨c23, ec23, h⟩ := zb h
  refine z_put (j := 19) X dd_Reader_init_96 kc_5 ki_5 tt_Reader tk_Reader nn_Reader (by decide) km_493 rfl (tk_Reader 19 (by decide)) rfl rfl ec23 ?_
  refine z_aload_n X dd_Reader_init_99 rfl 0 rfl ?_
  refine z_aload_n X dd_Reader_init_100 rfl 1 rfl ?_
  obtain ⟨c24, ec24, h⟩ := zb h
  refine z_put (j := 4) X dd_Reader_init_101 kc_5 ki_5 tt_Reader tk_Reader nn_Reader (by decide) km_478 rfl (tk_Reader 4 (by decide)) rfl rfl ec24 ?_
  refine z_aload_n X dd_Reader_init_104 rfl 0 rfl ?_
  refine z_aload_n X dd_Reader_init_105 rfl 1 rfl ?_
  obtain ⟨v25, ev25, h⟩ := zb h
  refine z_get (j := 4) X dd_Reader_init_106 kc_2 ki_2 (by decide) km_314 (zgr_v ev25) ?_
  refine z_iconst (v := 0) X dd_Reader_init_109 (by decide) ?_
  obtain ⟨v26, ev26, h⟩ := zb h
  refine z_aaload X dd_Reader_init_110 rfl ev26 ?_
  obtain ⟨c27, ec27, h⟩ := zb h
  refine z_put (j := 5) X dd_Reader_init_111 kc_5 ki_5 tt_Reader tk_Reader nn_Reader (by decide) km_479 rfl (tk_Reader 5 (by decide)) rfl rfl ec27 ?_
  refine z_aload_n X dd_Reader_init_114 rfl 0 rfl ?_
  obtain ⟨u29, eu29, h⟩ := zb h
  obtain ⟨c28, ec28, h⟩ := zb h
  refine z_newC X dd_Reader_init_115 kc_4 ki_4 tt_Operators tk_Operators km_439 km_440 km_132 (by decide +kernel) (fun _ _ => rfl) (zlim_s eu29).1 (zlim_s eu29).2 ec28 ?_
  refine z_dup X dd_Reader_init_118 rfl ?_
  refine z_aload_n X dd_Reader_init_119 rfl 1 rfl ?_
  obtain ⟨u31, eu31, h⟩ := zb h
  obtain ⟨q30, eq30, h⟩ := zb h
  refine z_callIv (ret := none) X [.ref a1] rfl dd_Reader_init_120 (c_Operators_init l eq30) (cwI 1 X.1.2.2.2.2 (zg_I km_443) rfl rfl rfl (X.1.2.2.2.2 _ km_132) (X.1.2.2.2.2 _ km_441) (X.1.2.2.2.2 _ km_442) rfl (by decide +kernel) ⟨Nat.le_of_ble_eq_true rfl, Nat.le_of_ble_eq_true rfl⟩) rfl (Nat.le_of_ble_eq_true rfl) (zlim_s eu31) ?_
  obtain ⟨c32, ec32, h⟩ := zb h
  refine z_putF (j := 2) X dd_Reader_init_123 kc_5 ki_5 tt_Reader tk_Reader nn_Reader (by decide) km_476 rfl H.2.2.2 rfl (tk_Reader 2 (by decide)) rfl rfl ec32 ?_
  obtain ⟨u33, eu33, h⟩ := zb h
  refine z_wid (zend_s eu33).1 (zend_s eu33).2 ?_
  obtain rfl := Option.some.inj h
  exact z_vret X H.1 H.2.1 H.2.2.1 dd_Reader_init_126
theorem dd_Reader_begin_0 : decode bb_Reader_begin 0 = .ok (.aload_n 0, 1) := by decide +kernel
theorem dd_Reader_begin_1 : decode bb_Reader_begin 1 = .ok (.aload_n 1, 1) := by decide +kernel
theorem dd_Reader_begin_2 : decode bb_Reader_begin 2 = .ok (.putfield 69, 3) := by decide +kernel
theorem dd_Reader_begin_5 : decode bb_Reader_begin 5 = .ok (.aload_n 0, 1) := by decide +kernel
theorem dd_Reader_begin_6 : decode bb_Reader_begin 6 = .ok (.getfield 69, 3) := by decide +kernel
theorem dd_Reader_begin_9 : decode bb_Reader_begin 9 = .ok (.invokevirtual 115, 3) := by decide +kernel
theorem dd_Reader_begin_12 : decode bb_Reader_begin 12 = .ok (.aload_n 0, 1) := by decide +kernel
theorem dd_Reader_begin_13 : decode bb_Reader_begin 13 = .ok (.getfield 87, 3) := by decide +kernel
theorem dd_Reader_begin_16 : decode bb_Reader_begin 16 = .ok (.aload_n 1, 1) := by decide +kernel
theorem dd_Reader_begin_17 : decode bb_Reader_begin 17 = .ok (.invokevirtual 118, 3) := by decide +kernel
theorem dd_Reader_begin_20 : decode bb_Reader_begin 20 = .ok (.aload_n 0, 1) := by decide +kernel
theorem dd_Reader_begin_21 : decode bb_Reader_begin 21 = .ok (.aload_n 1, 1) := by decide +kernel
theorem dd_Reader_begin_22 : decode bb_Reader_begin 22 = .ok (.getfield 73, 3) := by decide +kernel
theorem dd_Reader_begin_25 : decode bb_Reader_begin 25 = .ok (.iconst 0, 1) := by decide +kernel
theorem dd_Reader_begin_26 : decode bb_Reader_begin 26 = .ok (.aaload, 1) := by decide +kernel
theorem dd_Reader_begin_27 : decode bb_Reader_begin 27 = .ok (.putfield 79, 3) := by decide +kernel
theorem dd_Reader_begin_30 : decode bb_Reader_begin 30 = .ok (.aload_n 0, 1) := by decide +kernel
theorem dd_Reader_begin_31 : decode bb_Reader_begin 31 = .ok (.iload_n 2, 1) := by decide +kernel
theorem dd_Reader_begin_32 : decode bb_Reader_begin 32 = .ok (.putfield 26, 3) := by decide +kernel
theorem dd_Reader_begin_35 : decode bb_Reader_begin 35 = .ok (.aload_n 0, 1) := by decide +kernel
theorem dd_Reader_begin_36 : decode bb_Reader_begin 36 = .ok (.iconst 0, 1) := by decide +kernel
theorem dd_Reader_begin_37 : decode bb_Reader_begin 37 = .ok (.putfield 33, 3) := by decide +kernel
theorem dd_Reader_begin_40 : decode bb_Reader_begin 40 = .ok (.aload_n 0, 1) := by decide +kernel
theorem dd_Reader_begin_41 : decode bb_Reader_begin 41 = .ok (.iconst 0, 1) := by decide +kernel
theorem dd_Reader_begin_42 : decode bb_Reader_begin 42 = .ok (.putfield 36, 3) := by decide +kernel
theorem dd_Reader_begin_45 : decode bb_Reader_begin 45 = .ok (.aload_n 0, 1) := by decide +kernel
theorem dd_Reader_begin_46 : decode bb_Reader_begin 46 = .ok (.bipush (-2), 2) := by decide +kernel
theorem dd_Reader_begin_48 : decode bb_Reader_begin 48 = .ok (.putfield 9, 3) := by decide +kernel
theorem dd_Reader_begin_51 : decode bb_Reader_begin 51 = .ok (.aload_n 0, 1) := by decide +kernel
theorem dd_Reader_begin_52 : decode bb_Reader_begin 52 = .ok (.iconst 0, 1) := by decide +kernel
theorem dd_Reader_begin_53 : decode bb_Reader_begin 53 = .ok (.putfield 39, 3) := by decide +kernel
theorem dd_Reader_begin_56 : decode bb_Reader_begin 56 = .ok (.aload_n 0, 1) := by decide +kernel
theorem dd_Reader_begin_57 : decode bb_Reader_begin 57 = .ok (.iconst 0, 1) := by decide +kernel
theorem dd_Reader_begin_58 : decode bb_Reader_begin 58 = .ok (.putfield 42, 3) := by decide +kernel
theorem dd_Reader_begin_61 : decode bb_Reader_begin 61 = .ok (.aload_n 0, 1) := by decide +kernel
theorem dd_Reader_begin_62 : decode bb_Reader_begin 62 = .ok (.iconst 0, 1) := by decide +kernel
theorem dd_Reader_begin_63 : decode bb_Reader_begin 63 = .ok (.putfield 45, 3) := by decide +kernel
theorem dd_Reader_begin_66 : decode bb_Reader_begin 66 = .ok (.aload_n 0, 1) := by decide +kernel
theorem dd_Reader_begin_67 : decode bb_Reader_begin 67 = .ok (.iconst (-1), 1) := by decide +kernel
theorem dd_Reader_begin_68 : decode bb_Reader_begin 68 = .ok (.putfield 48, 3) := by decide +kernel
theorem dd_Reader_begin_71 : decode bb_Reader_begin 71 = .ok (.aload_n 0, 1) := by decide +kernel
theorem dd_Reader_begin_72 : decode bb_Reader_begin 72 = .ok (.iconst (-1), 1) := by decide +kernel
theorem dd_Reader_begin_73 : decode bb_Reader_begin 73 = .ok (.putfield 54, 3) := by decide +kernel
theorem dd_Reader_begin_76 : decode bb_Reader_begin 76 = .ok (.aload_n 0, 1) := by decide +kernel
theorem dd_Reader_begin_77 : decode bb_Reader_begin 77 = .ok (.getfield 22, 3) := by decide +kernel
theorem dd_Reader_begin_80 : decode bb_Reader_begin 80 = .ok (.iconst (-1), 1) := by decide +kernel
theorem dd_Reader_begin_81 : decode bb_Reader_begin 81 = .ok (.invokestatic 120, 3) := by decide +kernel
theorem dd_Reader_begin_84 : decode bb_Reader_begin 84 = .ok (.return_, 1) := by decide +kernel
def f_Reader_begin (nf : Nat) (a0 : Nat) (a1 : Nat) (a2 : Int32) (c : Zc) : Option (Zc) :=
  (zpv c a0 5 4 (.ref a1)).bind fun c1 => (zgr c1 a0 5 4).bind fun v2 => (zob c1 v2 2).bind fun w4 => (f_Text_clear nf v2 c1).bind fun q3 => (zgr q3 a0 5 2).bind fun v5 => (zob q3 v5 4).bind fun w7 => (f_Operators_begin nf v5 a1 q3).bind fun q6 => (zgr q6 a1 2 4).bind fun v8 => (zar q6 v8 3 0).bind fun v9 => (zpv q6 a0 5 5 (.ref v9)).bind fun c10 => (zpz c10 a0 5 6 a2).bind fun c11 => (zpv c11 a0 5 8 (.int 0)).bind fun c12 => (zpv c12 a0 5 9 (.int 0)).bind fun c13 => (zpv c13 a0 5 0 (.int (-2))).bind fun c14 => (zpv c14 a0 5 10 (.int 0)).bind fun c15 => (zpv c15 a0 5 11 (.int 0)).bind fun c16 => (zpv c16 a0 5 12 (.int 0)).bind fun c17 => (zpv c17 a0 5 13 (.int (-1))).bind fun c18 => (zpv c18 a0 5 15 (.int (-1))).bind fun c19 => (zgr c19 a0 5 3).bind fun v20 => (f_Arrays_fill nf v20 (-1) c19).bind fun q21 => some q21
set_option maxRecDepth 100000 in
set_option maxHeartbeats 4000000 in
theorem c_Reader_begin (l : Launch) {nf : Nat} {a0 : Nat} {a1 : Nat} {a2 : Int32} {c : Zc} {res : Zc} (h : f_Reader_begin nf a0 a1 a2 c = some res) : zM l yy_Reader_begin ww_Reader_begin 3 60 0 0 [.ref a0, .ref a1, .int a2] c (fun D cid B => zQv D cid B res c.length 0) := by
  refine z_met (cc := bb_Reader_begin) (maxL := 3) (ret := none) (by decide +kernel) rfl (Nat.le_of_ble_eq_true rfl) ?_
  intro p e s m args below meth cd D cid B X h1 h2 h3 h4
  have X : zX p s m args cd D cid B bb_Reader_begin 3 rr_Reader zT := X
  have H : zH s meth B c.length none "begin" := ⟨h1, h2, h4, h3⟩
  unfold f_Reader_begin at h
  show Zz p l e (zRm 3 60 0 0) s m args below meth cd _ D cid B 3 0 0 c 0 [(0, .ref a0), (1, .ref a1), (2, .int a2)] []
  refine z_aload_n X dd_Reader_begin_0 rfl 0 rfl ?_
  refine z_aload_n X dd_Reader_begin_1 rfl 1 rfl ?_
  obtain ⟨c1, ec1, h⟩ := zb h
  refine z_put (j := 4) X dd_Reader_begin_2 kc_5 ki_5 tt_Reader tk_Reader nn_Reader (by decide) km_478 rfl (tk_Reader 4 (by decide)) rfl rfl ec1 ?_
  refine z_aload_n X dd_Reader_begin_5 rfl 0 rfl ?_
  obtain ⟨v2, ev2, h⟩ := zb h
  refine z_get (j := 4) X dd_Reader_begin_6 kc_5 ki_5 (by decide) km_478 (zgr_v ev2) ?_
  obtain ⟨w4, ew4, h⟩ := zb h
  obtain ⟨q3, eq3, h⟩ := zb h
  refine z_callVv X [] rfl dd_Reader_begin_9 (c_Text_clear l eq3) (cwV 0 X.1.2.2.2.2 (zg_V km_820 km_821 km_822 km_128 km_823) rfl rfl rfl (by decide +kernel) ⟨Nat.le_of_ble_eq_true rfl, Nat.le_of_ble_eq_true rfl⟩) (zob_s ew4) kc_2 rfl (Nat.le_of_ble_eq_true rfl) ⟨Nat.le_of_ble_eq_true rfl, Nat.le_of_ble_eq_true rfl⟩ ?_
  refine z_aload_n X dd_Reader_begin_12 rfl 0 rfl ?_
  obtain ⟨v5, ev5, h⟩ := zb h
  refine z_get (j := 2) X dd_Reader_begin_13 kc_5 ki_5 (by decide) km_476 (zgr_v ev5) ?_
  refine z_aload_n X dd_Reader_begin_16 rfl 1 rfl ?_
  obtain ⟨w7, ew7, h⟩ := zb h
  obtain ⟨q6, eq6, h⟩ := zb h
  refine z_callVv X [.ref a1] rfl dd_Reader_begin_17 (c_Operators_begin l eq6) (cwV 1 X.1.2.2.2.2 (zg_V km_832 km_833 km_834 km_132 km_835) rfl rfl rfl (by decide +kernel) ⟨Nat.le_of_ble_eq_true rfl, Nat.le_of_ble_eq_true rfl⟩) (zob_s ew7) kc_4 rfl (Nat.le_of_ble_eq_true rfl) ⟨Nat.le_of_ble_eq_true rfl, Nat.le_of_ble_eq_true rfl⟩ ?_
  refine z_aload_n X dd_Reader_begin_20 rfl 0 rfl ?_
  refine z_aload_n X dd_Reader_begin_21 rfl 1 rfl ?_
  obtain ⟨v8, ev8, h⟩ := zb h
  refine z_get (j := 4) X dd_Reader_begin_22 kc_2 ki_2 (by decide) km_314 (zgr_v ev8) ?_
  refine z_iconst (v := 0) X dd_Reader_begin_25 (by decide) ?_
  obtain ⟨v9, ev9, h⟩ := zb h
  refine z_aaload X dd_Reader_begin_26 rfl ev9 ?_
  obtain ⟨c10, ec10, h⟩ := zb h
  refine z_put (j := 5) X dd_Reader_begin_27 kc_5 ki_5 tt_Reader tk_Reader nn_Reader (by decide) km_479 rfl (tk_Reader 5 (by decide)) rfl rfl ec10 ?_
  refine z_aload_n X dd_Reader_begin_30 rfl 0 rfl ?_
  refine z_iload_n X dd_Reader_begin_31 rfl 2 rfl ?_
  obtain ⟨c11, ec11, h⟩ := zb h
  obtain ⟨bc11, ec11⟩ := zpz_s ec11
  refine z_put (j := 6) X dd_Reader_begin_32 kc_5 ki_5 tt_Reader tk_Reader nn_Reader (by decide) km_480 rfl (tk_Reader 6 (by decide)) (zn_z bc11) (zf_z bc11) ec11 ?_
  refine z_aload_n X dd_Reader_begin_35 rfl 0 rfl ?_
  refine z_iconst (v := 0) X dd_Reader_begin_36 (by decide) ?_
  obtain ⟨c12, ec12, h⟩ := zb h
  refine z_put (j := 8) X dd_Reader_begin_37 kc_5 ki_5 tt_Reader tk_Reader nn_Reader (by decide) km_482 rfl (tk_Reader 8 (by decide)) rfl rfl ec12 ?_
  refine z_aload_n X dd_Reader_begin_40 rfl 0 rfl ?_
  refine z_iconst (v := 0) X dd_Reader_begin_41 (by decide) ?_
  obtain ⟨c13, ec13, h⟩ := zb h
  refine z_put (j := 9) X dd_Reader_begin_42 kc_5 ki_5 tt_Reader tk_Reader nn_Reader (by decide) km_483 rfl (tk_Reader 9 (by decide)) rfl rfl ec13 ?_
  refine z_aload_n X dd_Reader_begin_45 rfl 0 rfl ?_
  refine z_bipush (v := (-2)) X dd_Reader_begin_46 (by decide) ?_
  obtain ⟨c14, ec14, h⟩ := zb h
  refine z_put (j := 0) X dd_Reader_begin_48 kc_5 ki_5 tt_Reader tk_Reader nn_Reader (by decide) km_473 rfl (tk_Reader 0 (by decide)) rfl rfl ec14 ?_
  refine z_aload_n X dd_Reader_begin_51 rfl 0 rfl ?_
  refine z_iconst (v := 0) X dd_Reader_begin_52 (by decide) ?_
  obtain ⟨c15, ec15, h⟩ := zb h
  refine z_put (j := 10) X dd_Reader_begin_53 kc_5 ki_5 tt_Reader tk_Reader nn_Reader (by decide) km_484 rfl (tk_Reader 10 (by decide)) rfl rfl ec15 ?_
  refine z_aload_n X dd_Reader_begin_56 rfl 0 rfl ?_
  refine z_iconst (v := 0) X dd_Reader_begin_57 (by decide) ?_
  obtain ⟨c16, ec16, h⟩ := zb h
  refine z_put (j := 11) X dd_Reader_begin_58 kc_5 ki_5 tt_Reader tk_Reader nn_Reader (by decide) km_485 rfl (tk_Reader 11 (by decide)) rfl rfl ec16 ?_
  refine z_aload_n X dd_Reader_begin_61 rfl 0 rfl ?_
  refine z_iconst (v := 0) X dd_Reader_begin_62 (by decide) ?_
  obtain ⟨c17, ec17, h⟩ := zb h
  refine z_put (j := 12) X dd_Reader_begin_63 kc_5 ki_5 tt_Reader tk_Reader nn_Reader (by decide) km_486 rfl (tk_Reader 12 (by decide)) rfl rfl ec17 ?_
  refine z_aload_n X dd_Reader_begin_66 rfl 0 rfl ?_
  refine z_iconst (v := (-1)) X dd_Reader_begin_67 (by decide) ?_
  obtain ⟨c18, ec18, h⟩ := zb h
  refine z_put (j := 13) X dd_Reader_begin_68 kc_5 ki_5 tt_Reader tk_Reader nn_Reader (by decide) km_487 rfl (tk_Reader 13 (by decide)) rfl rfl ec18 ?_
  refine z_aload_n X dd_Reader_begin_71 rfl 0 rfl ?_
  refine z_iconst (v := (-1)) X dd_Reader_begin_72 (by decide) ?_
  obtain ⟨c19, ec19, h⟩ := zb h
  refine z_put (j := 15) X dd_Reader_begin_73 kc_5 ki_5 tt_Reader tk_Reader nn_Reader (by decide) km_489 rfl (tk_Reader 15 (by decide)) rfl rfl ec19 ?_
  refine z_aload_n X dd_Reader_begin_76 rfl 0 rfl ?_
  obtain ⟨v20, ev20, h⟩ := zb h
  refine z_get (j := 3) X dd_Reader_begin_77 kc_5 ki_5 (by decide) km_477 (zgr_v ev20) ?_
  refine z_iconst (v := (-1)) X dd_Reader_begin_80 (by decide) ?_
  obtain ⟨q21, eq21, h⟩ := zb h
  refine z_callSv X [.ref v20, .int (-1)] rfl dd_Reader_begin_81 (c_Arrays_fill l eq21) (va_cwS 2 X.1.2.2.2.2 (zg_S km_836 km_162 km_127 km_163) rfl rfl rfl (by decide +kernel) ⟨Nat.le_of_ble_eq_true rfl, Nat.le_of_ble_eq_true rfl⟩) rfl (Nat.le_of_ble_eq_true rfl) ⟨Nat.le_of_ble_eq_true rfl, Nat.le_of_ble_eq_true rfl⟩ ?_
  obtain rfl := Option.some.inj h
  exact z_vret X H.1 H.2.1 H.2.2.1 dd_Reader_begin_84
theorem dd_Reader_failAt_0 : decode bb_Reader_failAt 0 = .ok (.aload_n 0, 1) := by decide +kernel
theorem dd_Reader_failAt_1 : decode bb_Reader_failAt 1 = .ok (.iload_n 1, 1) := by decide +kernel
theorem dd_Reader_failAt_2 : decode bb_Reader_failAt 2 = .ok (.putfield 36, 3) := by decide +kernel
theorem dd_Reader_failAt_5 : decode bb_Reader_failAt 5 = .ok (.aload_n 0, 1) := by decide +kernel
theorem dd_Reader_failAt_6 : decode bb_Reader_failAt 6 = .ok (.aload_n 0, 1) := by decide +kernel
theorem dd_Reader_failAt_7 : decode bb_Reader_failAt 7 = .ok (.getfield 18, 3) := by decide +kernel
theorem dd_Reader_failAt_10 : decode bb_Reader_failAt 10 = .ok (.getfield 130, 3) := by decide +kernel
theorem dd_Reader_failAt_13 : decode bb_Reader_failAt 13 = .ok (.iload_n 2, 1) := by decide +kernel
theorem dd_Reader_failAt_14 : decode bb_Reader_failAt 14 = .ok (.iaload, 1) := by decide +kernel
theorem dd_Reader_failAt_15 : decode bb_Reader_failAt 15 = .ok (.putfield 9, 3) := by decide +kernel
theorem dd_Reader_failAt_18 : decode bb_Reader_failAt 18 = .ok (.return_, 1) := by decide +kernel
def f_Reader_failAt (nf : Nat) (a0 : Nat) (a1 : Int32) (a2 : Int32) (c : Zc) : Option (Zc) :=
  (zpv c a0 5 9 (.int a1)).bind fun c1 => (zgr c1 a0 5 1).bind fun v2 => (zgr c1 v2 3 2).bind fun v3 => (zai c1 v3 0 a2).bind fun v4 => (zpv c1 a0 5 0 (.int v4)).bind fun c5 => some c5
set_option maxRecDepth 100000 in
set_option maxHeartbeats 4000000 in
theorem c_Reader_failAt (l : Launch) {nf : Nat} {a0 : Nat} {a1 : Int32} {a2 : Int32} {c : Zc} {res : Zc} (h : f_Reader_failAt nf a0 a1 a2 c = some res) : zM l yy_Reader_failAt ww_Reader_failAt 0 0 0 0 [.ref a0, .int a1, .int a2] c (fun D cid B => zQv D cid B res c.length 0) := by
  refine z_met (cc := bb_Reader_failAt) (maxL := 3) (ret := none) (by decide +kernel) rfl (Nat.le_of_ble_eq_true rfl) ?_
  intro p e s m args below meth cd D cid B X h1 h2 h3 h4
  have X : zX p s m args cd D cid B bb_Reader_failAt 3 rr_Reader zT := X
  have H : zH s meth B c.length none "failAt" := ⟨h1, h2, h4, h3⟩
  unfold f_Reader_failAt at h
  show Zz p l e (zRm 0 0 0 0) s m args below meth cd _ D cid B 3 0 0 c 0 [(0, .ref a0), (1, .int a1), (2, .int a2)] []
  refine z_aload_n X dd_Reader_failAt_0 rfl 0 rfl ?_
  refine z_iload_n X dd_Reader_failAt_1 rfl 1 rfl ?_
  obtain ⟨c1, ec1, h⟩ := zb h
  refine z_put (j := 9) X dd_Reader_failAt_2 kc_5 ki_5 tt_Reader tk_Reader nn_Reader (by decide) km_483 rfl (tk_Reader 9 (by decide)) rfl rfl ec1 ?_
  refine z_aload_n X dd_Reader_failAt_5 rfl 0 rfl ?_
  refine z_aload_n X dd_Reader_failAt_6 rfl 0 rfl ?_
  obtain ⟨v2, ev2, h⟩ := zb h
  refine z_get (j := 1) X dd_Reader_failAt_7 kc_5 ki_5 (by decide) km_475 (zgr_v ev2) ?_
  obtain ⟨v3, ev3, h⟩ := zb h
  refine z_get (j := 2) X dd_Reader_failAt_10 kc_3 ki_3 (by decide) km_421 (zgr_v ev3) ?_
  refine z_iload_n X dd_Reader_failAt_13 rfl 2 rfl ?_
  obtain ⟨v4, ev4, h⟩ := zb h
  refine z_iaload X dd_Reader_failAt_14 rfl ev4 ?_
  obtain ⟨c5, ec5, h⟩ := zb h
  refine z_put (j := 0) X dd_Reader_failAt_15 kc_5 ki_5 tt_Reader tk_Reader nn_Reader (by decide) km_473 rfl (tk_Reader 0 (by decide)) rfl rfl ec5 ?_
  obtain rfl := Option.some.inj h
  exact z_vret X H.1 H.2.1 H.2.2.1 dd_Reader_failAt_18
theorem dd_Reader_fail_0 : decode bb_Reader_fail 0 = .ok (.aload_n 0, 1) := by decide +kernel
theorem dd_Reader_fail_1 : decode bb_Reader_fail 1 = .ok (.iload_n 1, 1) := by decide +kernel
theorem dd_Reader_fail_2 : decode bb_Reader_fail 2 = .ok (.aload_n 0, 1) := by decide +kernel
theorem dd_Reader_fail_3 : decode bb_Reader_fail 3 = .ok (.getfield 30, 3) := by decide +kernel
theorem dd_Reader_fail_6 : decode bb_Reader_fail 6 = .ok (.invokevirtual 126, 3) := by decide +kernel
theorem dd_Reader_fail_9 : decode bb_Reader_fail 9 = .ok (.return_, 1) := by decide +kernel
def f_Reader_fail (nf : Nat) (a0 : Nat) (a1 : Int32) (c : Zc) : Option (Zc) :=
  (zgi c a0 5 7).bind fun v1 => (zob c a0 5).bind fun w3 => (f_Reader_failAt nf a0 a1 v1 c).bind fun q2 => some q2
set_option maxRecDepth 100000 in
set_option maxHeartbeats 4000000 in
theorem c_Reader_fail (l : Launch) {nf : Nat} {a0 : Nat} {a1 : Int32} {c : Zc} {res : Zc} (h : f_Reader_fail nf a0 a1 c = some res) : zM l yy_Reader_fail ww_Reader_fail 1 22 0 0 [.ref a0, .int a1] c (fun D cid B => zQv D cid B res c.length 0) := by
  refine z_met (cc := bb_Reader_fail) (maxL := 2) (ret := none) (by decide +kernel) rfl (Nat.le_of_ble_eq_true rfl) ?_
  intro p e s m args below meth cd D cid B X h1 h2 h3 h4
  have X : zX p s m args cd D cid B bb_Reader_fail 2 rr_Reader zT := X
  have H : zH s meth B c.length none "fail" := ⟨h1, h2, h4, h3⟩
  unfold f_Reader_fail at h
  show Zz p l e (zRm 1 22 0 0) s m args below meth cd _ D cid B 2 0 0 c 0 [(0, .ref a0), (1, .int a1)] []
  refine z_aload_n X dd_Reader_fail_0 rfl 0 rfl ?_
  refine z_iload_n X dd_Reader_fail_1 rfl 1 rfl ?_
  refine z_aload_n X dd_Reader_fail_2 rfl 0 rfl ?_
  obtain ⟨v1, ev1, h⟩ := zb h
  refine z_get (j := 7) X dd_Reader_fail_3 kc_5 ki_5 (by decide) km_481 (zgi_v ev1) ?_
  obtain ⟨w3, ew3, h⟩ := zb h
  obtain ⟨q2, eq2, h⟩ := zb h
  refine z_callVv X [.int a1, .int v1] rfl dd_Reader_fail_6 (c_Reader_failAt l eq2) (cwV 2 X.1.2.2.2.2 (zg_V km_1002 km_1004 km_12 km_130 km_1005) rfl rfl rfl (by decide +kernel) ⟨Nat.le_of_ble_eq_true rfl, Nat.le_of_ble_eq_true rfl⟩) (zob_s ew3) kc_5 rfl (Nat.le_of_ble_eq_true rfl) ⟨Nat.le_of_ble_eq_true rfl, Nat.le_of_ble_eq_true rfl⟩ ?_
  obtain rfl := Option.some.inj h
  exact z_vret X H.1 H.2.1 H.2.2.1 dd_Reader_fail_9
theorem dd_Reader_takeHead_0 : decode bb_Reader_takeHead 0 = .ok (.aload_n 0, 1) := by decide +kernel
theorem dd_Reader_takeHead_1 : decode bb_Reader_takeHead 1 = .ok (.getfield 18, 3) := by decide +kernel
theorem dd_Reader_takeHead_4 : decode bb_Reader_takeHead 4 = .ok (.getfield 178, 3) := by decide +kernel
theorem dd_Reader_takeHead_7 : decode bb_Reader_takeHead 7 = .ok (.aload_n 0, 1) := by decide +kernel
theorem dd_Reader_takeHead_8 : decode bb_Reader_takeHead 8 = .ok (.getfield 30, 3) := by decide +kernel
theorem dd_Reader_takeHead_11 : decode bb_Reader_takeHead 11 = .ok (.iaload, 1) := by decide +kernel
theorem dd_Reader_takeHead_12 : decode bb_Reader_takeHead 12 = .ok (.istore_n 2, 1) := by decide +kernel
theorem dd_Reader_takeHead_13 : decode bb_Reader_takeHead 13 = .ok (.aload_n 0, 1) := by decide +kernel
theorem dd_Reader_takeHead_14 : decode bb_Reader_takeHead 14 = .ok (.getfield 33, 3) := by decide +kernel
theorem dd_Reader_takeHead_17 : decode bb_Reader_takeHead 17 = .ok (.ifCond .ne 24, 3) := by decide +kernel
theorem dd_Reader_takeHead_20 : decode bb_Reader_takeHead 20 = .ok (.aload_n 0, 1) := by decide +kernel
theorem dd_Reader_takeHead_21 : decode bb_Reader_takeHead 21 = .ok (.getfield 26, 3) := by decide +kernel
theorem dd_Reader_takeHead_24 : decode bb_Reader_takeHead 24 = .ok (.ifCond .eq 17, 3) := by decide +kernel
theorem dd_Reader_takeHead_27 : decode bb_Reader_takeHead 27 = .ok (.iload_n 1, 1) := by decide +kernel
theorem dd_Reader_takeHead_28 : decode bb_Reader_takeHead 28 = .ok (.bipush 23, 2) := by decide +kernel
theorem dd_Reader_takeHead_30 : decode bb_Reader_takeHead 30 = .ok (.if_icmp .ne 11, 3) := by decide +kernel
theorem dd_Reader_takeHead_33 : decode bb_Reader_takeHead 33 = .ok (.aload_n 0, 1) := by decide +kernel
theorem dd_Reader_takeHead_34 : decode bb_Reader_takeHead 34 = .ok (.iconst 1, 1) := by decide +kernel
theorem dd_Reader_takeHead_35 : decode bb_Reader_takeHead 35 = .ok (.putfield 33, 3) := by decide +kernel
theorem dd_Reader_takeHead_38 : decode bb_Reader_takeHead 38 = .ok (.goto 82, 3) := by decide +kernel
theorem dd_Reader_takeHead_41 : decode bb_Reader_takeHead 41 = .ok (.aload_n 0, 1) := by decide +kernel
theorem dd_Reader_takeHead_42 : decode bb_Reader_takeHead 42 = .ok (.getfield 33, 3) := by decide +kernel
theorem dd_Reader_takeHead_45 : decode bb_Reader_takeHead 45 = .ok (.iconst 1, 1) := by decide +kernel
theorem dd_Reader_takeHead_46 : decode bb_Reader_takeHead 46 = .ok (.if_icmp .ne 33, 3) := by decide +kernel
theorem dd_Reader_takeHead_49 : decode bb_Reader_takeHead 49 = .ok (.iload_n 1, 1) := by decide +kernel
theorem dd_Reader_takeHead_50 : decode bb_Reader_takeHead 50 = .ok (.iconst 5, 1) := by decide +kernel
theorem dd_Reader_takeHead_51 : decode bb_Reader_takeHead 51 = .ok (.if_icmp .ne 28, 3) := by decide +kernel
theorem dd_Reader_takeHead_54 : decode bb_Reader_takeHead 54 = .ok (.iload_n 2, 1) := by decide +kernel
theorem dd_Reader_takeHead_55 : decode bb_Reader_takeHead 55 = .ok (.bipush 8, 2) := by decide +kernel
theorem dd_Reader_takeHead_57 : decode bb_Reader_takeHead 57 = .ok (.if_icmp .lt 22, 3) := by decide +kernel
theorem dd_Reader_takeHead_60 : decode bb_Reader_takeHead 60 = .ok (.aload_n 0, 1) := by decide +kernel
theorem dd_Reader_takeHead_61 : decode bb_Reader_takeHead 61 = .ok (.getfield 69, 3) := by decide +kernel
theorem dd_Reader_takeHead_64 : decode bb_Reader_takeHead 64 = .ok (.iload_n 2, 1) := by decide +kernel
theorem dd_Reader_takeHead_65 : decode bb_Reader_takeHead 65 = .ok (.bipush 8, 2) := by decide +kernel
theorem dd_Reader_takeHead_67 : decode bb_Reader_takeHead 67 = .ok (.isub, 1) := by decide +kernel
theorem dd_Reader_takeHead_68 : decode bb_Reader_takeHead 68 = .ok (.putfield 181, 3) := by decide +kernel
theorem dd_Reader_takeHead_71 : decode bb_Reader_takeHead 71 = .ok (.aload_n 0, 1) := by decide +kernel
theorem dd_Reader_takeHead_72 : decode bb_Reader_takeHead 72 = .ok (.iconst 2, 1) := by decide +kernel
theorem dd_Reader_takeHead_73 : decode bb_Reader_takeHead 73 = .ok (.putfield 33, 3) := by decide +kernel
theorem dd_Reader_takeHead_76 : decode bb_Reader_takeHead 76 = .ok (.goto 44, 3) := by decide +kernel
theorem dd_Reader_takeHead_79 : decode bb_Reader_takeHead 79 = .ok (.iload_n 1, 1) := by decide +kernel
theorem dd_Reader_takeHead_80 : decode bb_Reader_takeHead 80 = .ok (.bipush 10, 2) := by decide +kernel
theorem dd_Reader_takeHead_82 : decode bb_Reader_takeHead 82 = .ok (.if_icmp .ne 33, 3) := by decide +kernel
theorem dd_Reader_takeHead_85 : decode bb_Reader_takeHead 85 = .ok (.aload_n 0, 1) := by decide +kernel
theorem dd_Reader_takeHead_86 : decode bb_Reader_takeHead 86 = .ok (.getfield 33, 3) := by decide +kernel
theorem dd_Reader_takeHead_89 : decode bb_Reader_takeHead 89 = .ok (.iconst 2, 1) := by decide +kernel
theorem dd_Reader_takeHead_90 : decode bb_Reader_takeHead 90 = .ok (.if_icmp .eq 17, 3) := by decide +kernel
theorem dd_Reader_takeHead_93 : decode bb_Reader_takeHead 93 = .ok (.aload_n 0, 1) := by decide +kernel
theorem dd_Reader_takeHead_94 : decode bb_Reader_takeHead 94 = .ok (.getfield 33, 3) := by decide +kernel
theorem dd_Reader_takeHead_97 : decode bb_Reader_takeHead 97 = .ok (.ifCond .ne 18, 3) := by decide +kernel
theorem dd_Reader_takeHead_100 : decode bb_Reader_takeHead 100 = .ok (.aload_n 0, 1) := by decide +kernel
theorem dd_Reader_takeHead_101 : decode bb_Reader_takeHead 101 = .ok (.getfield 26, 3) := by decide +kernel
theorem dd_Reader_takeHead_104 : decode bb_Reader_takeHead 104 = .ok (.ifCond .ne 11, 3) := by decide +kernel
theorem dd_Reader_takeHead_107 : decode bb_Reader_takeHead 107 = .ok (.aload_n 0, 1) := by decide +kernel
theorem dd_Reader_takeHead_108 : decode bb_Reader_takeHead 108 = .ok (.iconst 3, 1) := by decide +kernel
theorem dd_Reader_takeHead_109 : decode bb_Reader_takeHead 109 = .ok (.putfield 33, 3) := by decide +kernel
theorem dd_Reader_takeHead_112 : decode bb_Reader_takeHead 112 = .ok (.goto 8, 3) := by decide +kernel
theorem dd_Reader_takeHead_115 : decode bb_Reader_takeHead 115 = .ok (.aload_n 0, 1) := by decide +kernel
theorem dd_Reader_takeHead_116 : decode bb_Reader_takeHead 116 = .ok (.iconst 2, 1) := by decide +kernel
theorem dd_Reader_takeHead_117 : decode bb_Reader_takeHead 117 = .ok (.invokevirtual 133, 3) := by decide +kernel
theorem dd_Reader_takeHead_120 : decode bb_Reader_takeHead 120 = .ok (.return_, 1) := by decide +kernel
def f_Reader_takeHead_120 (nf : Nat)  (c : Zc) : Option (Zc) :=
  some c
def f_Reader_takeHead_115 (nf : Nat) (x0 : Nat) (c : Zc) : Option (Zc) :=
  (zob c x0 5).bind fun w11 => (f_Reader_fail nf x0 2 c).bind fun q10 => f_Reader_takeHead_120 nf  q10
def f_Reader_takeHead_107 (nf : Nat) (x0 : Nat) (c : Zc) : Option (Zc) :=
  (zpv c x0 5 8 (.int 3)).bind fun c14 => f_Reader_takeHead_120 nf  c14
def f_Reader_takeHead_79 (nf : Nat) (x0 : Nat) (x1 : Int32) (c : Zc) : Option (Zc) :=
  if x1 = 10 then ((zgi c x0 5 8).bind fun v12 => if v12 = 2 then (f_Reader_takeHead_107 nf x0 c) else ((zgi c x0 5 8).bind fun v15 => if v15 = 0 then ((zgi c x0 5 6).bind fun v17 => if v17 = 0 then (f_Reader_takeHead_107 nf x0 c) else (f_Reader_takeHead_115 nf x0 c)) else (f_Reader_takeHead_115 nf x0 c))) else (f_Reader_takeHead_115 nf x0 c)
def f_Reader_takeHead_41 (nf : Nat) (x0 : Nat) (x1 : Int32) (x2 : Int32) (c : Zc) : Option (Zc) :=
  (zgi c x0 5 8).bind fun v7 => if v7 = 1 then (if x1 = 5 then (if x2 < 8 then (f_Reader_takeHead_79 nf x0 x1 c) else ((zgr c x0 5 4).bind fun v21 => (zpv c v21 2 1 (.int (x2 - 8))).bind fun c22 => (zpv c22 x0 5 8 (.int 2)).bind fun c23 => f_Reader_takeHead_120 nf  c23)) else (f_Reader_takeHead_79 nf x0 x1 c)) else (f_Reader_takeHead_79 nf x0 x1 c)
def f_Reader_takeHead (nf : Nat) (a0 : Nat) (a1 : Int32) (c : Zc) : Option (Zc) :=
  (zgr c a0 5 1).bind fun v1 => (zgr c v1 3 1).bind fun v2 => (zgi c a0 5 7).bind fun v3 => (zai c v2 0 v3).bind fun v4 => (zgi c a0 5 8).bind fun v5 => if v5 = 0 then ((zgi c a0 5 6).bind fun v24 => if v24 = 0 then (f_Reader_takeHead_41 nf a0 a1 v4 c) else (if a1 = 23 then ((zpv c a0 5 8 (.int 1)).bind fun c27 => f_Reader_takeHead_120 nf  c27) else (f_Reader_takeHead_41 nf a0 a1 v4 c))) else (f_Reader_takeHead_41 nf a0 a1 v4 c)
set_option maxRecDepth 100000 in
set_option maxHeartbeats 4000000 in
theorem t_Reader_takeHead_120  (X : zX p s m args cd D cid B bb_Reader_takeHead 3 rr_Reader zT) (H : zH s meth B n0 none "takeHead") {nf : Nat}  {c : Zc} {res : Zc} (h : f_Reader_takeHead_120 nf  c = some res) : Zz p l e (zRm 2 43 0 0) s m args below meth cd (MQ below (zQv D cid B res n0 0) args s 0 0 (fun q => B ≤ q)) D cid B 3 0 0 c 120 [] [] := by
  unfold f_Reader_takeHead_120 at h
  obtain rfl := Option.some.inj h
  exact z_vret X H.1 H.2.1 H.2.2.1 dd_Reader_takeHead_120
set_option maxRecDepth 100000 in
set_option maxHeartbeats 4000000 in
theorem t_Reader_takeHead_115  (X : zX p s m args cd D cid B bb_Reader_takeHead 3 rr_Reader zT) (H : zH s meth B n0 none "takeHead") {nf : Nat} {x0 : Nat} {c : Zc} {res : Zc} (h : f_Reader_takeHead_115 nf x0 c = some res) : Zz p l e (zRm 2 43 0 0) s m args below meth cd (MQ below (zQv D cid B res n0 0) args s 0 0 (fun q => B ≤ q)) D cid B 3 0 0 c 115 [(0, .ref x0)] [] := by
  unfold f_Reader_takeHead_115 at h
  refine z_aload_n X dd_Reader_takeHead_115 rfl 0 rfl ?_
  refine z_iconst (v := 2) X dd_Reader_takeHead_116 (by decide) ?_
  obtain ⟨w11, ew11, h⟩ := zb h
  obtain ⟨q10, eq10, h⟩ := zb h
  refine z_callVv X [.int 2] rfl dd_Reader_takeHead_117 (c_Reader_fail l eq10) (cwV 1 X.1.2.2.2.2 (zg_V km_998 km_1000 km_11 km_130 km_1001) rfl rfl rfl (by decide +kernel) ⟨Nat.le_of_ble_eq_true rfl, Nat.le_of_ble_eq_true rfl⟩) (zob_s ew11) kc_5 rfl (Nat.le_of_ble_eq_true rfl) ⟨Nat.le_of_ble_eq_true rfl, Nat.le_of_ble_eq_true rfl⟩ ?_
  refine z_sub [] rfl ?_
  exact t_Reader_takeHead_120 X H h
set_option maxRecDepth 100000 in
set_option maxHeartbeats 4000000 in
theorem t_Reader_takeHead_107  (X : zX p s m args cd D cid B bb_Reader_takeHead 3 rr_Reader zT) (H : zH s meth B n0 none "takeHead") {nf : Nat} {x0 : Nat} {c : Zc} {res : Zc} (h : f_Reader_takeHead_107 nf x0 c = some res) : Zz p l e (zRm 2 43 0 0) s m args below meth cd (MQ below (zQv D cid B res n0 0) args s 0 0 (fun q => B ≤ q)) D cid B 3 0 0 c 107 [(0, .ref x0)] [] := by
  unfold f_Reader_takeHead_107 at h
  refine z_aload_n X dd_Reader_takeHead_107 rfl 0 rfl ?_
  refine z_iconst (v := 3) X dd_Reader_takeHead_108 (by decide) ?_
  obtain ⟨c14, ec14, h⟩ := zb h
  refine z_put (j := 8) X dd_Reader_takeHead_109 kc_5 ki_5 tt_Reader tk_Reader nn_Reader (by decide) km_482 rfl (tk_Reader 8 (by decide)) rfl rfl ec14 ?_
  refine z_goto (tgt := 120) X dd_Reader_takeHead_112 (by decide) ?_
  refine z_sub [] rfl ?_
  exact t_Reader_takeHead_120 X H h
set_option maxRecDepth 100000 in
set_option maxHeartbeats 4000000 in
theorem t_Reader_takeHead_79  (X : zX p s m args cd D cid B bb_Reader_takeHead 3 rr_Reader zT) (H : zH s meth B n0 none "takeHead") {nf : Nat} {x0 : Nat} {x1 : Int32} {c : Zc} {res : Zc} (h : f_Reader_takeHead_79 nf x0 x1 c = some res) : Zz p l e (zRm 2 43 0 0) s m args below meth cd (MQ below (zQv D cid B res n0 0) args s 0 0 (fun q => B ≤ q)) D cid B 3 0 0 c 79 [(0, .ref x0), (1, .int x1)] [] := by
  unfold f_Reader_takeHead_79 at h
  refine z_iload_n X dd_Reader_takeHead_79 rfl 1 rfl ?_
  refine z_bipush (v := 10) X dd_Reader_takeHead_80 (by decide) ?_
  refine z_icmp_ne (tgt := 115) X dd_Reader_takeHead_82 (by decide) (fun q9 => ?_) (fun q9 => ?_)
  · rw [if_neg q9] at h
    refine z_sub [0] rfl ?_
    exact t_Reader_takeHead_115 X H h
  · rw [if_pos q9] at h
    refine z_aload_n X dd_Reader_takeHead_85 rfl 0 rfl ?_
    obtain ⟨v12, ev12, h⟩ := zb h
    refine z_get (j := 8) X dd_Reader_takeHead_86 kc_5 ki_5 (by decide) km_482 (zgi_v ev12) ?_
    refine z_iconst (v := 2) X dd_Reader_takeHead_89 (by decide) ?_
    refine z_icmp_eq (tgt := 107) X dd_Reader_takeHead_90 (by decide) (fun q13 => ?_) (fun q13 => ?_)
    · rw [if_pos q13] at h
      refine z_sub [0] rfl ?_
      exact t_Reader_takeHead_107 X H h
    · rw [if_neg q13] at h
      refine z_aload_n X dd_Reader_takeHead_93 rfl 0 rfl ?_
      obtain ⟨v15, ev15, h⟩ := zb h
      refine z_get (j := 8) X dd_Reader_takeHead_94 kc_5 ki_5 (by decide) km_482 (zgi_v ev15) ?_
      refine z_if_ne (tgt := 115) X dd_Reader_takeHead_97 (by decide) (fun q16 => ?_) (fun q16 => ?_)
      · rw [if_neg q16] at h
        refine z_sub [0] rfl ?_
        exact t_Reader_takeHead_115 X H h
      · rw [if_pos q16] at h
        refine z_aload_n X dd_Reader_takeHead_100 rfl 0 rfl ?_
        obtain ⟨v17, ev17, h⟩ := zb h
        refine z_get (j := 6) X dd_Reader_takeHead_101 kc_5 ki_5 (by decide) km_480 (zgi_v ev17) ?_
        refine z_if_ne (tgt := 115) X dd_Reader_takeHead_104 (by decide) (fun q18 => ?_) (fun q18 => ?_)
        · rw [if_neg q18] at h
          refine z_sub [0] rfl ?_
          exact t_Reader_takeHead_115 X H h
        · rw [if_pos q18] at h
          refine z_sub [0] rfl ?_
          exact t_Reader_takeHead_107 X H h
set_option maxRecDepth 100000 in
set_option maxHeartbeats 4000000 in
theorem t_Reader_takeHead_41  (X : zX p s m args cd D cid B bb_Reader_takeHead 3 rr_Reader zT) (H : zH s meth B n0 none "takeHead") {nf : Nat} {x0 : Nat} {x1 : Int32} {x2 : Int32} {c : Zc} {res : Zc} (h : f_Reader_takeHead_41 nf x0 x1 x2 c = some res) : Zz p l e (zRm 2 43 0 0) s m args below meth cd (MQ below (zQv D cid B res n0 0) args s 0 0 (fun q => B ≤ q)) D cid B 3 0 0 c 41 [(0, .ref x0), (1, .int x1), (2, .int x2)] [] := by
  unfold f_Reader_takeHead_41 at h
  refine z_aload_n X dd_Reader_takeHead_41 rfl 0 rfl ?_
  obtain ⟨v7, ev7, h⟩ := zb h
  refine z_get (j := 8) X dd_Reader_takeHead_42 kc_5 ki_5 (by decide) km_482 (zgi_v ev7) ?_
  refine z_iconst (v := 1) X dd_Reader_takeHead_45 (by decide) ?_
  refine z_icmp_ne (tgt := 79) X dd_Reader_takeHead_46 (by decide) (fun q8 => ?_) (fun q8 => ?_)
  · rw [if_neg q8] at h
    refine z_sub [0, 1] rfl ?_
    exact t_Reader_takeHead_79 X H h
  · rw [if_pos q8] at h
    refine z_iload_n X dd_Reader_takeHead_49 rfl 1 rfl ?_
    refine z_iconst (v := 5) X dd_Reader_takeHead_50 (by decide) ?_
    refine z_icmp_ne (tgt := 79) X dd_Reader_takeHead_51 (by decide) (fun q19 => ?_) (fun q19 => ?_)
    · rw [if_neg q19] at h
      refine z_sub [0, 1] rfl ?_
      exact t_Reader_takeHead_79 X H h
    · rw [if_pos q19] at h
      refine z_iload_n X dd_Reader_takeHead_54 rfl 2 rfl ?_
      refine z_bipush (v := 8) X dd_Reader_takeHead_55 (by decide) ?_
      refine z_icmp_lt (tgt := 79) X dd_Reader_takeHead_57 (by decide) (fun q20 => ?_) (fun q20 => ?_)
      · rw [if_pos q20] at h
        refine z_sub [0, 1] rfl ?_
        exact t_Reader_takeHead_79 X H h
      · rw [if_neg q20] at h
        refine z_aload_n X dd_Reader_takeHead_60 rfl 0 rfl ?_
        obtain ⟨v21, ev21, h⟩ := zb h
        refine z_get (j := 4) X dd_Reader_takeHead_61 kc_5 ki_5 (by decide) km_478 (zgr_v ev21) ?_
        refine z_iload_n X dd_Reader_takeHead_64 rfl 2 rfl ?_
        refine z_bipush (v := 8) X dd_Reader_takeHead_65 (by decide) ?_
        refine z_isub X dd_Reader_takeHead_67 ?_
        obtain ⟨c22, ec22, h⟩ := zb h
        refine z_put (j := 1) X dd_Reader_takeHead_68 kc_2 ki_2 tt_Text tk_Text nn_Text (by decide) km_304 rfl (tk_Text 1 (by decide)) rfl rfl ec22 ?_
        refine z_aload_n X dd_Reader_takeHead_71 rfl 0 rfl ?_
        refine z_iconst (v := 2) X dd_Reader_takeHead_72 (by decide) ?_
        obtain ⟨c23, ec23, h⟩ := zb h
        refine z_put (j := 8) X dd_Reader_takeHead_73 kc_5 ki_5 tt_Reader tk_Reader nn_Reader (by decide) km_482 rfl (tk_Reader 8 (by decide)) rfl rfl ec23 ?_
        refine z_goto (tgt := 120) X dd_Reader_takeHead_76 (by decide) ?_
        refine z_sub [] rfl ?_
        exact t_Reader_takeHead_120 X H h
set_option maxRecDepth 100000 in
set_option maxHeartbeats 4000000 in
theorem c_Reader_takeHead (l : Launch) {nf : Nat} {a0 : Nat} {a1 : Int32} {c : Zc} {res : Zc} (h : f_Reader_takeHead nf a0 a1 c = some res) : zM l yy_Reader_takeHead ww_Reader_takeHead 2 43 0 0 [.ref a0, .int a1] c (fun D cid B => zQv D cid B res c.length 0) := by
  refine z_met (cc := bb_Reader_takeHead) (maxL := 3) (ret := none) (by decide +kernel) rfl (Nat.le_of_ble_eq_true rfl) ?_
  intro p e s m args below meth cd D cid B X h1 h2 h3 h4
  have X : zX p s m args cd D cid B bb_Reader_takeHead 3 rr_Reader zT := X
  have H : zH s meth B c.length none "takeHead" := ⟨h1, h2, h4, h3⟩
  unfold f_Reader_takeHead at h
  show Zz p l e (zRm 2 43 0 0) s m args below meth cd _ D cid B 3 0 0 c 0 [(0, .ref a0), (1, .int a1)] []
  refine z_aload_n X dd_Reader_takeHead_0 rfl 0 rfl ?_
  obtain ⟨v1, ev1, h⟩ := zb h
  refine z_get (j := 1) X dd_Reader_takeHead_1 kc_5 ki_5 (by decide) km_475 (zgr_v ev1) ?_
  obtain ⟨v2, ev2, h⟩ := zb h
  refine z_get (j := 1) X dd_Reader_takeHead_4 kc_3 ki_3 (by decide) km_419 (zgr_v ev2) ?_
  refine z_aload_n X dd_Reader_takeHead_7 rfl 0 rfl ?_
  obtain ⟨v3, ev3, h⟩ := zb h
  refine z_get (j := 7) X dd_Reader_takeHead_8 kc_5 ki_5 (by decide) km_481 (zgi_v ev3) ?_
  obtain ⟨v4, ev4, h⟩ := zb h
  refine z_iaload X dd_Reader_takeHead_11 rfl ev4 ?_
  refine z_istore_n (lv' := [(2, .int v4), (0, .ref a0), (1, .int a1)]) X dd_Reader_takeHead_12 rfl (by decide) rfl ?_
  refine z_aload_n X dd_Reader_takeHead_13 rfl 1 rfl ?_
  obtain ⟨v5, ev5, h⟩ := zb h
  refine z_get (j := 8) X dd_Reader_takeHead_14 kc_5 ki_5 (by decide) km_482 (zgi_v ev5) ?_
  refine z_if_ne (tgt := 41) X dd_Reader_takeHead_17 (by decide) (fun q6 => ?_) (fun q6 => ?_)
  · rw [if_neg q6] at h
    refine z_sub [1, 2, 0] rfl ?_
    exact t_Reader_takeHead_41 X H h
  · rw [if_pos q6] at h
    refine z_aload_n X dd_Reader_takeHead_20 rfl 1 rfl ?_
    obtain ⟨v24, ev24, h⟩ := zb h
    refine z_get (j := 6) X dd_Reader_takeHead_21 kc_5 ki_5 (by decide) km_480 (zgi_v ev24) ?_
    refine z_if_eq (tgt := 41) X dd_Reader_takeHead_24 (by decide) (fun q25 => ?_) (fun q25 => ?_)
    · rw [if_pos q25] at h
      refine z_sub [1, 2, 0] rfl ?_
      exact t_Reader_takeHead_41 X H h
    · rw [if_neg q25] at h
      refine z_iload_n X dd_Reader_takeHead_27 rfl 2 rfl ?_
      refine z_bipush (v := 23) X dd_Reader_takeHead_28 (by decide) ?_
      refine z_icmp_ne (tgt := 41) X dd_Reader_takeHead_30 (by decide) (fun q26 => ?_) (fun q26 => ?_)
      · rw [if_neg q26] at h
        refine z_sub [1, 2, 0] rfl ?_
        exact t_Reader_takeHead_41 X H h
      · rw [if_pos q26] at h
        refine z_aload_n X dd_Reader_takeHead_33 rfl 1 rfl ?_
        refine z_iconst (v := 1) X dd_Reader_takeHead_34 (by decide) ?_
        obtain ⟨c27, ec27, h⟩ := zb h
        refine z_put (j := 8) X dd_Reader_takeHead_35 kc_5 ki_5 tt_Reader tk_Reader nn_Reader (by decide) km_482 rfl (tk_Reader 8 (by decide)) rfl rfl ec27 ?_
        refine z_goto (tgt := 120) X dd_Reader_takeHead_38 (by decide) ?_
        refine z_sub [] rfl ?_
        exact t_Reader_takeHead_120 X H h
theorem dd_Reader_takeSlot_0 : decode bb_Reader_takeSlot 0 = .ok (.aload_n 0, 1) := by decide +kernel
theorem dd_Reader_takeSlot_1 : decode bb_Reader_takeSlot 1 = .ok (.getfield 39, 3) := by decide +kernel
theorem dd_Reader_takeSlot_4 : decode bb_Reader_takeSlot 4 = .ok (.bipush 8, 2) := by decide +kernel
theorem dd_Reader_takeSlot_6 : decode bb_Reader_takeSlot 6 = .ok (.if_icmp .lt 17, 3) := by decide +kernel
theorem dd_Reader_takeSlot_9 : decode bb_Reader_takeSlot 9 = .ok (.aload_n 0, 1) := by decide +kernel
theorem dd_Reader_takeSlot_10 : decode bb_Reader_takeSlot 10 = .ok (.iconst (-1), 1) := by decide +kernel
theorem dd_Reader_takeSlot_11 : decode bb_Reader_takeSlot 11 = .ok (.putfield 57, 3) := by decide +kernel
theorem dd_Reader_takeSlot_14 : decode bb_Reader_takeSlot 14 = .ok (.aload_n 0, 1) := by decide +kernel
theorem dd_Reader_takeSlot_15 : decode bb_Reader_takeSlot 15 = .ok (.iconst 3, 1) := by decide +kernel
theorem dd_Reader_takeSlot_16 : decode bb_Reader_takeSlot 16 = .ok (.iload_n 1, 1) := by decide +kernel
theorem dd_Reader_takeSlot_17 : decode bb_Reader_takeSlot 17 = .ok (.invokevirtual 126, 3) := by decide +kernel
theorem dd_Reader_takeSlot_20 : decode bb_Reader_takeSlot 20 = .ok (.goto 21, 3) := by decide +kernel
theorem dd_Reader_takeSlot_23 : decode bb_Reader_takeSlot 23 = .ok (.aload_n 0, 1) := by decide +kernel
theorem dd_Reader_takeSlot_24 : decode bb_Reader_takeSlot 24 = .ok (.aload_n 0, 1) := by decide +kernel
theorem dd_Reader_takeSlot_25 : decode bb_Reader_takeSlot 25 = .ok (.getfield 39, 3) := by decide +kernel
theorem dd_Reader_takeSlot_28 : decode bb_Reader_takeSlot 28 = .ok (.putfield 57, 3) := by decide +kernel
theorem dd_Reader_takeSlot_31 : decode bb_Reader_takeSlot 31 = .ok (.aload_n 0, 1) := by decide +kernel
theorem dd_Reader_takeSlot_32 : decode bb_Reader_takeSlot 32 = .ok (.dup, 1) := by decide +kernel
theorem dd_Reader_takeSlot_33 : decode bb_Reader_takeSlot 33 = .ok (.getfield 39, 3) := by decide +kernel
theorem dd_Reader_takeSlot_36 : decode bb_Reader_takeSlot 36 = .ok (.iconst 1, 1) := by decide +kernel
theorem dd_Reader_takeSlot_37 : decode bb_Reader_takeSlot 37 = .ok (.iadd, 1) := by decide +kernel
theorem dd_Reader_takeSlot_38 : decode bb_Reader_takeSlot 38 = .ok (.putfield 39, 3) := by decide +kernel
theorem dd_Reader_takeSlot_41 : decode bb_Reader_takeSlot 41 = .ok (.return_, 1) := by decide +kernel
def f_Reader_takeSlot_41 (nf : Nat)  (c : Zc) : Option (Zc) :=
  some c
def f_Reader_takeSlot (nf : Nat) (a0 : Nat) (a1 : Int32) (c : Zc) : Option (Zc) :=
  (zgi c a0 5 10).bind fun v1 => if v1 < 8 then ((zgi c a0 5 10).bind fun v3 => (zpv c a0 5 16 (.int v3)).bind fun c4 => (zgi c4 a0 5 10).bind fun v5 => (zpv c4 a0 5 10 (.int (v5 + 1))).bind fun c6 => f_Reader_takeSlot_41 nf  c6) else ((zpv c a0 5 16 (.int (-1))).bind fun c7 => (zob c7 a0 5).bind fun w9 => (f_Reader_failAt nf a0 3 a1 c7).bind fun q8 => f_Reader_takeSlot_41 nf  q8)
set_option maxRecDepth 100000 in
set_option maxHeartbeats 4000000 in
theorem t_Reader_takeSlot_41  (X : zX p s m args cd D cid B bb_Reader_takeSlot 2 rr_Reader zT) (H : zH s meth B n0 none "takeSlot") {nf : Nat}  {c : Zc} {res : Zc} (h : f_Reader_takeSlot_41 nf  c = some res) : Zz p l e (zRm 1 22 0 0) s m args below meth cd (MQ below (zQv D cid B res n0 0) args s 0 0 (fun q => B ≤ q)) D cid B 2 0 0 c 41 [] [] := by
  unfold f_Reader_takeSlot_41 at h
  obtain rfl := Option.some.inj h
  exact z_vret X H.1 H.2.1 H.2.2.1 dd_Reader_takeSlot_41
set_option maxRecDepth 100000 in
set_option maxHeartbeats 4000000 in
theorem c_Reader_takeSlot (l : Launch) {nf : Nat} {a0 : Nat} {a1 : Int32} {c : Zc} {res : Zc} (h : f_Reader_takeSlot nf a0 a1 c = some res) : zM l yy_Reader_takeSlot ww_Reader_takeSlot 1 22 0 0 [.ref a0, .int a1] c (fun D cid B => zQv D cid B res c.length 0) := by
  refine z_met (cc := bb_Reader_takeSlot) (maxL := 2) (ret := none) (by decide +kernel) rfl (Nat.le_of_ble_eq_true rfl) ?_
  intro p e s m args below meth cd D cid B X h1 h2 h3 h4
  have X : zX p s m args cd D cid B bb_Reader_takeSlot 2 rr_Reader zT := X
  have H : zH s meth B c.length none "takeSlot" := ⟨h1, h2, h4, h3⟩
  unfold f_Reader_takeSlot at h
  show Zz p l e (zRm 1 22 0 0) s m args below meth cd _ D cid B 2 0 0 c 0 [(0, .ref a0), (1, .int a1)] []
  refine z_aload_n X dd_Reader_takeSlot_0 rfl 0 rfl ?_
  obtain ⟨v1, ev1, h⟩ := zb h
  refine z_get (j := 10) X dd_Reader_takeSlot_1 kc_5 ki_5 (by decide) km_484 (zgi_v ev1) ?_
  refine z_bipush (v := 8) X dd_Reader_takeSlot_4 (by decide) ?_
  refine z_icmp_lt (tgt := 23) X dd_Reader_takeSlot_6 (by decide) (fun q2 => ?_) (fun q2 => ?_)
  · rw [if_pos q2] at h
    refine z_aload_n X dd_Reader_takeSlot_23 rfl 0 rfl ?_
    refine z_aload_n X dd_Reader_takeSlot_24 rfl 0 rfl ?_
    obtain ⟨v3, ev3, h⟩ := zb h
    refine z_get (j := 10) X dd_Reader_takeSlot_25 kc_5 ki_5 (by decide) km_484 (zgi_v ev3) ?_
    obtain ⟨c4, ec4, h⟩ := zb h
    refine z_put (j := 16) X dd_Reader_takeSlot_28 kc_5 ki_5 tt_Reader tk_Reader nn_Reader (by decide) km_490 rfl (tk_Reader 16 (by decide)) rfl rfl ec4 ?_
    refine z_aload_n X dd_Reader_takeSlot_31 rfl 0 rfl ?_
    refine z_dup X dd_Reader_takeSlot_32 rfl ?_
    obtain ⟨v5, ev5, h⟩ := zb h
    refine z_get (j := 10) X dd_Reader_takeSlot_33 kc_5 ki_5 (by decide) km_484 (zgi_v ev5) ?_
    refine z_iconst (v := 1) X dd_Reader_takeSlot_36 (by decide) ?_
    refine z_iadd X dd_Reader_takeSlot_37 ?_
    obtain ⟨c6, ec6, h⟩ := zb h
    refine z_put (j := 10) X dd_Reader_takeSlot_38 kc_5 ki_5 tt_Reader tk_Reader nn_Reader (by decide) km_484 rfl (tk_Reader 10 (by decide)) rfl rfl ec6 ?_
    refine z_sub [] rfl ?_
    exact t_Reader_takeSlot_41 X H h
  · rw [if_neg q2] at h
    refine z_aload_n X dd_Reader_takeSlot_9 rfl 0 rfl ?_
    refine z_iconst (v := (-1)) X dd_Reader_takeSlot_10 (by decide) ?_
    obtain ⟨c7, ec7, h⟩ := zb h
    refine z_put (j := 16) X dd_Reader_takeSlot_11 kc_5 ki_5 tt_Reader tk_Reader nn_Reader (by decide) km_490 rfl (tk_Reader 16 (by decide)) rfl rfl ec7 ?_
    refine z_aload_n X dd_Reader_takeSlot_14 rfl 0 rfl ?_
    refine z_iconst (v := 3) X dd_Reader_takeSlot_15 (by decide) ?_
    refine z_iload_n X dd_Reader_takeSlot_16 rfl 1 rfl ?_
    obtain ⟨w9, ew9, h⟩ := zb h
    obtain ⟨q8, eq8, h⟩ := zb h
    refine z_callVv X [.int 3, .int a1] rfl dd_Reader_takeSlot_17 (c_Reader_failAt l eq8) (cwV 2 X.1.2.2.2.2 (zg_V km_1002 km_1004 km_12 km_130 km_1005) rfl rfl rfl (by decide +kernel) ⟨Nat.le_of_ble_eq_true rfl, Nat.le_of_ble_eq_true rfl⟩) (zob_s ew9) kc_5 rfl (Nat.le_of_ble_eq_true rfl) ⟨Nat.le_of_ble_eq_true rfl, Nat.le_of_ble_eq_true rfl⟩ ?_
    refine z_goto (tgt := 41) X dd_Reader_takeSlot_20 (by decide) ?_
    refine z_sub [] rfl ?_
    exact t_Reader_takeSlot_41 X H h
theorem dd_Reader_makeKnown_0 : decode bb_Reader_makeKnown 0 = .ok (.aload_n 0, 1) := by decide +kernel
theorem dd_Reader_makeKnown_1 : decode bb_Reader_makeKnown 1 = .ok (.dup, 1) := by decide +kernel
theorem dd_Reader_makeKnown_2 : decode bb_Reader_makeKnown 2 = .ok (.getfield 42, 3) := by decide +kernel
theorem dd_Reader_makeKnown_5 : decode bb_Reader_makeKnown 5 = .ok (.iconst 1, 1) := by decide +kernel
theorem dd_Reader_makeKnown_6 : decode bb_Reader_makeKnown 6 = .ok (.aload_n 0, 1) := by decide +kernel
theorem dd_Reader_makeKnown_7 : decode bb_Reader_makeKnown 7 = .ok (.getfield 57, 3) := by decide +kernel
theorem dd_Reader_makeKnown_10 : decode bb_Reader_makeKnown 10 = .ok (.ishl, 1) := by decide +kernel
theorem dd_Reader_makeKnown_11 : decode bb_Reader_makeKnown 11 = .ok (.ior, 1) := by decide +kernel
theorem dd_Reader_makeKnown_12 : decode bb_Reader_makeKnown 12 = .ok (.putfield 42, 3) := by decide +kernel
theorem dd_Reader_makeKnown_15 : decode bb_Reader_makeKnown 15 = .ok (.aload_n 0, 1) := by decide +kernel
theorem dd_Reader_makeKnown_16 : decode bb_Reader_makeKnown 16 = .ok (.getfield 69, 3) := by decide +kernel
theorem dd_Reader_makeKnown_19 : decode bb_Reader_makeKnown 19 = .ok (.getfield 202, 3) := by decide +kernel
theorem dd_Reader_makeKnown_22 : decode bb_Reader_makeKnown 22 = .ok (.aload_n 0, 1) := by decide +kernel
theorem dd_Reader_makeKnown_23 : decode bb_Reader_makeKnown 23 = .ok (.getfield 69, 3) := by decide +kernel
theorem dd_Reader_makeKnown_26 : decode bb_Reader_makeKnown 26 = .ok (.getfield 205, 3) := by decide +kernel
theorem dd_Reader_makeKnown_29 : decode bb_Reader_makeKnown 29 = .ok (.iconst 1, 1) := by decide +kernel
theorem dd_Reader_makeKnown_30 : decode bb_Reader_makeKnown 30 = .ok (.isub, 1) := by decide +kernel
theorem dd_Reader_makeKnown_31 : decode bb_Reader_makeKnown 31 = .ok (.dup2, 1) := by decide +kernel
theorem dd_Reader_makeKnown_32 : decode bb_Reader_makeKnown 32 = .ok (.iaload, 1) := by decide +kernel
theorem dd_Reader_makeKnown_33 : decode bb_Reader_makeKnown 33 = .ok (.iconst 1, 1) := by decide +kernel
theorem dd_Reader_makeKnown_34 : decode bb_Reader_makeKnown 34 = .ok (.aload_n 0, 1) := by decide +kernel
theorem dd_Reader_makeKnown_35 : decode bb_Reader_makeKnown 35 = .ok (.getfield 57, 3) := by decide +kernel
theorem dd_Reader_makeKnown_38 : decode bb_Reader_makeKnown 38 = .ok (.ishl, 1) := by decide +kernel
theorem dd_Reader_makeKnown_39 : decode bb_Reader_makeKnown 39 = .ok (.ior, 1) := by decide +kernel
theorem dd_Reader_makeKnown_40 : decode bb_Reader_makeKnown 40 = .ok (.iastore, 1) := by decide +kernel
theorem dd_Reader_makeKnown_41 : decode bb_Reader_makeKnown 41 = .ok (.return_, 1) := by decide +kernel
def f_Reader_makeKnown (nf : Nat) (a0 : Nat) (c : Zc) : Option (Zc) :=
  (zgi c a0 5 11).bind fun v1 => (zgi c a0 5 16).bind fun v2 => (zpv c a0 5 11 (.int (v1 ||| (1 <<< (v2 &&& 31))))).bind fun c3 => (zgr c3 a0 5 4).bind fun v4 => (zgr c3 v4 2 9).bind fun v5 => (zgr c3 a0 5 4).bind fun v6 => (zgi c3 v6 2 8).bind fun v7 => (zai c3 v5 0 (v7 - 1)).bind fun v8 => (zgi c3 a0 5 16).bind fun v9 => (zsi c3 v5 0 (v7 - 1) (v8 ||| (1 <<< (v9 &&& 31)))).bind fun c10 => some c10
set_option maxRecDepth 100000 in
set_option maxHeartbeats 4000000 in
theorem c_Reader_makeKnown (l : Launch) {nf : Nat} {a0 : Nat} {c : Zc} {res : Zc} (h : f_Reader_makeKnown nf a0 c = some res) : zM l yy_Reader_makeKnown ww_Reader_makeKnown 0 0 0 0 [.ref a0] c (fun D cid B => zQv D cid B res c.length 0) := by
  refine z_met (cc := bb_Reader_makeKnown) (maxL := 1) (ret := none) (by decide +kernel) rfl (Nat.le_of_ble_eq_true rfl) ?_
  intro p e s m args below meth cd D cid B X h1 h2 h3 h4
  have X : zX p s m args cd D cid B bb_Reader_makeKnown 1 rr_Reader zT := X
  have H : zH s meth B c.length none "makeKnown" := ⟨h1, h2, h4, h3⟩
  unfold f_Reader_makeKnown at h
  show Zz p l e (zRm 0 0 0 0) s m args below meth cd _ D cid B 1 0 0 c 0 [(0, .ref a0)] []
  refine z_aload_n X dd_Reader_makeKnown_0 rfl 0 rfl ?_
  refine z_dup X dd_Reader_makeKnown_1 rfl ?_
  obtain ⟨v1, ev1, h⟩ := zb h
  refine z_get (j := 11) X dd_Reader_makeKnown_2 kc_5 ki_5 (by decide) km_485 (zgi_v ev1) ?_
  refine z_iconst (v := 1) X dd_Reader_makeKnown_5 (by decide) ?_
  refine z_aload_n X dd_Reader_makeKnown_6 rfl 0 rfl ?_
  obtain ⟨v2, ev2, h⟩ := zb h
  refine z_get (j := 16) X dd_Reader_makeKnown_7 kc_5 ki_5 (by decide) km_490 (zgi_v ev2) ?_
  refine z_ishl X dd_Reader_makeKnown_10 ?_
  refine z_ior X dd_Reader_makeKnown_11 ?_
  obtain ⟨c3, ec3, h⟩ := zb h
  refine z_put (j := 11) X dd_Reader_makeKnown_12 kc_5 ki_5 tt_Reader tk_Reader nn_Reader (by decide) km_485 rfl (tk_Reader 11 (by decide)) rfl rfl ec3 ?_
  refine z_aload_n X dd_Reader_makeKnown_15 rfl 0 rfl ?_
  obtain ⟨v4, ev4, h⟩ := zb h
  refine z_get (j := 4) X dd_Reader_makeKnown_16 kc_5 ki_5 (by decide) km_478 (zgr_v ev4) ?_
  obtain ⟨v5, ev5, h⟩ := zb h
  refine z_get (j := 9) X dd_Reader_makeKnown_19 kc_2 ki_2 (by decide) km_331 (zgr_v ev5) ?_
  refine z_aload_n X dd_Reader_makeKnown_22 rfl 0 rfl ?_
  obtain ⟨v6, ev6, h⟩ := zb h
  refine z_get (j := 4) X dd_Reader_makeKnown_23 kc_5 ki_5 (by decide) km_478 (zgr_v ev6) ?_
  obtain ⟨v7, ev7, h⟩ := zb h
  refine z_get (j := 8) X dd_Reader_makeKnown_26 kc_2 ki_2 (by decide) km_328 (zgi_v ev7) ?_
  refine z_iconst (v := 1) X dd_Reader_makeKnown_29 (by decide) ?_
  refine z_isub X dd_Reader_makeKnown_30 ?_
  refine z_dup2_11 X dd_Reader_makeKnown_31 rfl rfl ?_
  obtain ⟨v8, ev8, h⟩ := zb h
  refine z_iaload X dd_Reader_makeKnown_32 rfl ev8 ?_
  refine z_iconst (v := 1) X dd_Reader_makeKnown_33 (by decide) ?_
  refine z_aload_n X dd_Reader_makeKnown_34 rfl 0 rfl ?_
  obtain ⟨v9, ev9, h⟩ := zb h
  refine z_get (j := 16) X dd_Reader_makeKnown_35 kc_5 ki_5 (by decide) km_490 (zgi_v ev9) ?_
  refine z_ishl X dd_Reader_makeKnown_38 ?_
  refine z_ior X dd_Reader_makeKnown_39 ?_
  obtain ⟨c10, ec10, h⟩ := zb h
  refine z_iastore X dd_Reader_makeKnown_40 rfl ec10 ?_
  obtain rfl := Option.some.inj h
  exact z_vret X H.1 H.2.1 H.2.2.1 dd_Reader_makeKnown_41
theorem dd_Reader_tellNode_0 : decode bb_Reader_tellNode 0 = .ok (.aload_n 0, 1) := by decide +kernel
theorem dd_Reader_tellNode_1 : decode bb_Reader_tellNode 1 = .ok (.iload_n 1, 1) := by decide +kernel
theorem dd_Reader_tellNode_2 : decode bb_Reader_tellNode 2 = .ok (.invokevirtual 196, 3) := by decide +kernel
theorem dd_Reader_tellNode_5 : decode bb_Reader_tellNode 5 = .ok (.aload_n 0, 1) := by decide +kernel
theorem dd_Reader_tellNode_6 : decode bb_Reader_tellNode 6 = .ok (.getfield 36, 3) := by decide +kernel
theorem dd_Reader_tellNode_9 : decode bb_Reader_tellNode 9 = .ok (.ifCond .ne 20, 3) := by decide +kernel
theorem dd_Reader_tellNode_12 : decode bb_Reader_tellNode 12 = .ok (.aload_n 0, 1) := by decide +kernel
theorem dd_Reader_tellNode_13 : decode bb_Reader_tellNode 13 = .ok (.getfield 69, 3) := by decide +kernel
theorem dd_Reader_tellNode_16 : decode bb_Reader_tellNode 16 = .ok (.dup, 1) := by decide +kernel
theorem dd_Reader_tellNode_17 : decode bb_Reader_tellNode 17 = .ok (.getfield 199, 3) := by decide +kernel
theorem dd_Reader_tellNode_20 : decode bb_Reader_tellNode 20 = .ok (.iconst 1, 1) := by decide +kernel
theorem dd_Reader_tellNode_21 : decode bb_Reader_tellNode 21 = .ok (.iadd, 1) := by decide +kernel
theorem dd_Reader_tellNode_22 : decode bb_Reader_tellNode 22 = .ok (.putfield 199, 3) := by decide +kernel
theorem dd_Reader_tellNode_25 : decode bb_Reader_tellNode 25 = .ok (.aload_n 0, 1) := by decide +kernel
theorem dd_Reader_tellNode_26 : decode bb_Reader_tellNode 26 = .ok (.invokevirtual 193, 3) := by decide +kernel
theorem dd_Reader_tellNode_29 : decode bb_Reader_tellNode 29 = .ok (.return_, 1) := by decide +kernel
def f_Reader_tellNode_29 (nf : Nat)  (c : Zc) : Option (Zc) :=
  some c
def f_Reader_tellNode (nf : Nat) (a0 : Nat) (a1 : Int32) (c : Zc) : Option (Zc) :=
  (zob c a0 5).bind fun w2 => (f_Reader_takeSlot nf a0 a1 c).bind fun q1 => (zgi q1 a0 5 9).bind fun v3 => if v3 = 0 then ((zgr q1 a0 5 4).bind fun v5 => (zgi q1 v5 2 2).bind fun v6 => (zpv q1 v5 2 2 (.int (v6 + 1))).bind fun c7 => (zob c7 a0 5).bind fun w9 => (f_Reader_makeKnown nf a0 c7).bind fun q8 => f_Reader_tellNode_29 nf  q8) else (f_Reader_tellNode_29 nf  q1)
set_option maxRecDepth 100000 in
set_option maxHeartbeats 4000000 in
theorem t_Reader_tellNode_29  (X : zX p s m args cd D cid B bb_Reader_tellNode 2 rr_Reader zT) (H : zH s meth B n0 none "tellNode") {nf : Nat}  {c : Zc} {res : Zc} (h : f_Reader_tellNode_29 nf  c = some res) : Zz p l e (zRm 2 43 0 0) s m args below meth cd (MQ below (zQv D cid B res n0 0) args s 0 0 (fun q => B ≤ q)) D cid B 2 0 0 c 29 [] [] := by
  unfold f_Reader_tellNode_29 at h
  obtain rfl := Option.some.inj h
  exact z_vret X H.1 H.2.1 H.2.2.1 dd_Reader_tellNode_29
set_option maxRecDepth 100000 in
set_option maxHeartbeats 4000000 in
theorem c_Reader_tellNode (l : Launch) {nf : Nat} {a0 : Nat} {a1 : Int32} {c : Zc} {res : Zc} (h : f_Reader_tellNode nf a0 a1 c = some res) : zM l yy_Reader_tellNode ww_Reader_tellNode 2 43 0 0 [.ref a0, .int a1] c (fun D cid B => zQv D cid B res c.length 0) := by
  refine z_met (cc := bb_Reader_tellNode) (maxL := 2) (ret := none) (by decide +kernel) rfl (Nat.le_of_ble_eq_true rfl) ?_
  intro p e s m args below meth cd D cid B X h1 h2 h3 h4
  have X : zX p s m args cd D cid B bb_Reader_tellNode 2 rr_Reader zT := X
  have H : zH s meth B c.length none "tellNode" := ⟨h1, h2, h4, h3⟩
  unfold f_Reader_tellNode at h
  show Zz p l e (zRm 2 43 0 0) s m args below meth cd _ D cid B 2 0 0 c 0 [(0, .ref a0), (1, .int a1)] []
  refine z_aload_n X dd_Reader_tellNode_0 rfl 0 rfl ?_
  refine z_iload_n X dd_Reader_tellNode_1 rfl 1 rfl ?_
  obtain ⟨w2, ew2, h⟩ := zb h
  obtain ⟨q1, eq1, h⟩ := zb h
  refine z_callVv X [.int a1] rfl dd_Reader_tellNode_2 (c_Reader_takeSlot l eq1) (cwV 1 X.1.2.2.2.2 (zg_V km_1022 km_1024 km_17 km_130 km_1025) rfl rfl rfl (by decide +kernel) ⟨Nat.le_of_ble_eq_true rfl, Nat.le_of_ble_eq_true rfl⟩) (zob_s ew2) kc_5 rfl (Nat.le_of_ble_eq_true rfl) ⟨Nat.le_of_ble_eq_true rfl, Nat.le_of_ble_eq_true rfl⟩ ?_
  refine z_aload_n X dd_Reader_tellNode_5 rfl 0 rfl ?_
  obtain ⟨v3, ev3, h⟩ := zb h
  refine z_get (j := 9) X dd_Reader_tellNode_6 kc_5 ki_5 (by decide) km_483 (zgi_v ev3) ?_
  refine z_if_ne (tgt := 29) X dd_Reader_tellNode_9 (by decide) (fun q4 => ?_) (fun q4 => ?_)
  · rw [if_neg q4] at h
    refine z_sub [] rfl ?_
    exact t_Reader_tellNode_29 X H h
  · rw [if_pos q4] at h
    refine z_aload_n X dd_Reader_tellNode_12 rfl 0 rfl ?_
    obtain ⟨v5, ev5, h⟩ := zb h
    refine z_get (j := 4) X dd_Reader_tellNode_13 kc_5 ki_5 (by decide) km_478 (zgr_v ev5) ?_
    refine z_dup X dd_Reader_tellNode_16 rfl ?_
    obtain ⟨v6, ev6, h⟩ := zb h
    refine z_get (j := 2) X dd_Reader_tellNode_17 kc_2 ki_2 (by decide) km_307 (zgi_v ev6) ?_
    refine z_iconst (v := 1) X dd_Reader_tellNode_20 (by decide) ?_
    refine z_iadd X dd_Reader_tellNode_21 ?_
    obtain ⟨c7, ec7, h⟩ := zb h
    refine z_put (j := 2) X dd_Reader_tellNode_22 kc_2 ki_2 tt_Text tk_Text nn_Text (by decide) km_307 rfl (tk_Text 2 (by decide)) rfl rfl ec7 ?_
    refine z_aload_n X dd_Reader_tellNode_25 rfl 0 rfl ?_
    obtain ⟨w9, ew9, h⟩ := zb h
    obtain ⟨q8, eq8, h⟩ := zb h
    refine z_callVv X [] rfl dd_Reader_tellNode_26 (c_Reader_makeKnown l eq8) (cwV 0 X.1.2.2.2.2 (zg_V km_1026 km_1028 km_18 km_130 km_1029) rfl rfl rfl (by decide +kernel) ⟨Nat.le_of_ble_eq_true rfl, Nat.le_of_ble_eq_true rfl⟩) (zob_s ew9) kc_5 rfl (Nat.le_of_ble_eq_true rfl) ⟨Nat.le_of_ble_eq_true rfl, Nat.le_of_ble_eq_true rfl⟩ ?_
    refine z_sub [] rfl ?_
    exact t_Reader_tellNode_29 X H h
theorem dd_Reader_nameNode_0 : decode bb_Reader_nameNode 0 = .ok (.aload_n 0, 1) := by decide +kernel
theorem dd_Reader_nameNode_1 : decode bb_Reader_nameNode 1 = .ok (.aload_n 0, 1) := by decide +kernel
theorem dd_Reader_nameNode_2 : decode bb_Reader_nameNode 2 = .ok (.getfield 22, 3) := by decide +kernel
theorem dd_Reader_nameNode_5 : decode bb_Reader_nameNode 5 = .ok (.iload_n 1, 1) := by decide +kernel
theorem dd_Reader_nameNode_6 : decode bb_Reader_nameNode 6 = .ok (.iaload, 1) := by decide +kernel
theorem dd_Reader_nameNode_7 : decode bb_Reader_nameNode 7 = .ok (.putfield 57, 3) := by decide +kernel
theorem dd_Reader_nameNode_10 : decode bb_Reader_nameNode 10 = .ok (.aload_n 0, 1) := by decide +kernel
theorem dd_Reader_nameNode_11 : decode bb_Reader_nameNode 11 = .ok (.getfield 57, 3) := by decide +kernel
theorem dd_Reader_nameNode_14 : decode bb_Reader_nameNode 14 = .ok (.iconst (-1), 1) := by decide +kernel
theorem dd_Reader_nameNode_15 : decode bb_Reader_nameNode 15 = .ok (.if_icmp .ne 24, 3) := by decide +kernel
theorem dd_Reader_nameNode_18 : decode bb_Reader_nameNode 18 = .ok (.aload_n 0, 1) := by decide +kernel
theorem dd_Reader_nameNode_19 : decode bb_Reader_nameNode 19 = .ok (.aload_n 0, 1) := by decide +kernel
theorem dd_Reader_nameNode_20 : decode bb_Reader_nameNode 20 = .ok (.getfield 30, 3) := by decide +kernel
theorem dd_Reader_nameNode_23 : decode bb_Reader_nameNode 23 = .ok (.invokevirtual 187, 3) := by decide +kernel
theorem dd_Reader_nameNode_26 : decode bb_Reader_nameNode 26 = .ok (.aload_n 0, 1) := by decide +kernel
theorem dd_Reader_nameNode_27 : decode bb_Reader_nameNode 27 = .ok (.getfield 22, 3) := by decide +kernel
theorem dd_Reader_nameNode_30 : decode bb_Reader_nameNode 30 = .ok (.iload_n 1, 1) := by decide +kernel
theorem dd_Reader_nameNode_31 : decode bb_Reader_nameNode 31 = .ok (.aload_n 0, 1) := by decide +kernel
theorem dd_Reader_nameNode_32 : decode bb_Reader_nameNode 32 = .ok (.getfield 57, 3) := by decide +kernel
theorem dd_Reader_nameNode_35 : decode bb_Reader_nameNode 35 = .ok (.iastore, 1) := by decide +kernel
theorem dd_Reader_nameNode_36 : decode bb_Reader_nameNode 36 = .ok (.goto 43, 3) := by decide +kernel
theorem dd_Reader_nameNode_39 : decode bb_Reader_nameNode 39 = .ok (.aload_n 0, 1) := by decide +kernel
theorem dd_Reader_nameNode_40 : decode bb_Reader_nameNode 40 = .ok (.getfield 45, 3) := by decide +kernel
theorem dd_Reader_nameNode_43 : decode bb_Reader_nameNode 43 = .ok (.aload_n 0, 1) := by decide +kernel
theorem dd_Reader_nameNode_44 : decode bb_Reader_nameNode 44 = .ok (.getfield 57, 3) := by decide +kernel
theorem dd_Reader_nameNode_47 : decode bb_Reader_nameNode 47 = .ok (.ishr, 1) := by decide +kernel
theorem dd_Reader_nameNode_48 : decode bb_Reader_nameNode 48 = .ok (.iconst 1, 1) := by decide +kernel
theorem dd_Reader_nameNode_49 : decode bb_Reader_nameNode 49 = .ok (.iand, 1) := by decide +kernel
theorem dd_Reader_nameNode_50 : decode bb_Reader_nameNode 50 = .ok (.ifCond .eq 11, 3) := by decide +kernel
theorem dd_Reader_nameNode_53 : decode bb_Reader_nameNode 53 = .ok (.aload_n 0, 1) := by decide +kernel
theorem dd_Reader_nameNode_54 : decode bb_Reader_nameNode 54 = .ok (.iconst 4, 1) := by decide +kernel
theorem dd_Reader_nameNode_55 : decode bb_Reader_nameNode 55 = .ok (.invokevirtual 133, 3) := by decide +kernel
theorem dd_Reader_nameNode_58 : decode bb_Reader_nameNode 58 = .ok (.goto 21, 3) := by decide +kernel
theorem dd_Reader_nameNode_61 : decode bb_Reader_nameNode 61 = .ok (.aload_n 0, 1) := by decide +kernel
theorem dd_Reader_nameNode_62 : decode bb_Reader_nameNode 62 = .ok (.getfield 42, 3) := by decide +kernel
theorem dd_Reader_nameNode_65 : decode bb_Reader_nameNode 65 = .ok (.aload_n 0, 1) := by decide +kernel
theorem dd_Reader_nameNode_66 : decode bb_Reader_nameNode 66 = .ok (.getfield 57, 3) := by decide +kernel
theorem dd_Reader_nameNode_69 : decode bb_Reader_nameNode 69 = .ok (.ishr, 1) := by decide +kernel
theorem dd_Reader_nameNode_70 : decode bb_Reader_nameNode 70 = .ok (.iconst 1, 1) := by decide +kernel
theorem dd_Reader_nameNode_71 : decode bb_Reader_nameNode 71 = .ok (.iand, 1) := by decide +kernel
theorem dd_Reader_nameNode_72 : decode bb_Reader_nameNode 72 = .ok (.ifCond .ne 7, 3) := by decide +kernel
theorem dd_Reader_nameNode_75 : decode bb_Reader_nameNode 75 = .ok (.aload_n 0, 1) := by decide +kernel
theorem dd_Reader_nameNode_76 : decode bb_Reader_nameNode 76 = .ok (.invokevirtual 193, 3) := by decide +kernel
theorem dd_Reader_nameNode_79 : decode bb_Reader_nameNode 79 = .ok (.return_, 1) := by decide +kernel
def f_Reader_nameNode_79 (nf : Nat)  (c : Zc) : Option (Zc) :=
  some c
def f_Reader_nameNode (nf : Nat) (a0 : Nat) (a1 : Int32) (c : Zc) : Option (Zc) :=
  (zgr c a0 5 3).bind fun v1 => (zai c v1 0 a1).bind fun v2 => (zpv c a0 5 16 (.int v2)).bind fun c3 => (zgi c3 a0 5 16).bind fun v4 => if v4 = (-1) then ((zgi c3 a0 5 7).bind fun v16 => (zob c3 a0 5).bind fun w18 => (f_Reader_tellNode nf a0 v16 c3).bind fun q17 => (zgr q17 a0 5 3).bind fun v19 => (zgi q17 a0 5 16).bind fun v20 => (zsi q17 v19 0 a1 v20).bind fun c21 => f_Reader_nameNode_79 nf  c21) else ((zgi c3 a0 5 12).bind fun v6 => (zgi c3 a0 5 16).bind fun v7 => if ((v6 >>> (v7 &&& 31)) &&& 1) = 0 then ((zgi c3 a0 5 11).bind fun v9 => (zgi c3 a0 5 16).bind fun v10 => if ((v9 >>> (v10 &&& 31)) &&& 1) = 0 then ((zob c3 a0 5).bind fun w13 => (f_Reader_makeKnown nf a0 c3).bind fun q12 => f_Reader_nameNode_79 nf  q12) else (f_Reader_nameNode_79 nf  c3)) else ((zob c3 a0 5).bind fun w15 => (f_Reader_fail nf a0 4 c3).bind fun q14 => f_Reader_nameNode_79 nf  q14))
set_option maxRecDepth 100000 in
set_option maxHeartbeats 4000000 in
theorem t_Reader_nameNode_79  (X : zX p s m args cd D cid B bb_Reader_nameNode 2 rr_Reader zT) (H : zH s meth B n0 none "nameNode") {nf : Nat}  {c : Zc} {res : Zc} (h : f_Reader_nameNode_79 nf  c = some res) : Zz p l e (zRm 3 64 0 0) s m args below meth cd (MQ below (zQv D cid B res n0 0) args s 0 0 (fun q => B ≤ q)) D cid B 2 0 0 c 79 [] [] := by
  unfold f_Reader_nameNode_79 at h
  obtain rfl := Option.some.inj h
  exact z_vret X H.1 H.2.1 H.2.2.1 dd_Reader_nameNode_79
set_option maxRecDepth 100000 in
set_option maxHeartbeats 4000000 in
theorem c_Reader_nameNode (l : Launch) {nf : Nat} {a0 : Nat} {a1 : Int32} {c : Zc} {res : Zc} (h : f_Reader_nameNode nf a0 a1 c = some res) : zM l yy_Reader_nameNode ww_Reader_nameNode 3 64 0 0 [.ref a0, .int a1] c (fun D cid B => zQv D cid B res c.length 0) := by
  refine z_met (cc := bb_Reader_nameNode) (maxL := 2) (ret := none) (by decide +kernel) rfl (Nat.le_of_ble_eq_true rfl) ?_
  intro p e s m args below meth cd D cid B X h1 h2 h3 h4
  have X : zX p s m args cd D cid B bb_Reader_nameNode 2 rr_Reader zT := X
  have H : zH s meth B c.length none "nameNode" := ⟨h1, h2, h4, h3⟩
  unfold f_Reader_nameNode at h
  show Zz p l e (zRm 3 64 0 0) s m args below meth cd _ D cid B 2 0 0 c 0 [(0, .ref a0), (1, .int a1)] []
  refine z_aload_n X dd_Reader_nameNode_0 rfl 0 rfl ?_
  refine z_aload_n X dd_Reader_nameNode_1 rfl 0 rfl ?_
  obtain ⟨v1, ev1, h⟩ := zb h
  refine z_get (j := 3) X dd_Reader_nameNode_2 kc_5 ki_5 (by decide) km_477 (zgr_v ev1) ?_
  refine z_iload_n X dd_Reader_nameNode_5 rfl 1 rfl ?_
  obtain ⟨v2, ev2, h⟩ := zb h
  refine z_iaload X dd_Reader_nameNode_6 rfl ev2 ?_
  obtain ⟨c3, ec3, h⟩ := zb h
  refine z_put (j := 16) X dd_Reader_nameNode_7 kc_5 ki_5 tt_Reader tk_Reader nn_Reader (by decide) km_490 rfl (tk_Reader 16 (by decide)) rfl rfl ec3 ?_
  refine z_aload_n X dd_Reader_nameNode_10 rfl 0 rfl ?_
  obtain ⟨v4, ev4, h⟩ := zb h
  refine z_get (j := 16) X dd_Reader_nameNode_11 kc_5 ki_5 (by decide) km_490 (zgi_v ev4) ?_
  refine z_iconst (v := (-1)) X dd_Reader_nameNode_14 (by decide) ?_
  refine z_icmp_ne (tgt := 39) X dd_Reader_nameNode_15 (by decide) (fun q5 => ?_) (fun q5 => ?_)
  · rw [if_neg q5] at h
    refine z_aload_n X dd_Reader_nameNode_39 rfl 0 rfl ?_
    obtain ⟨v6, ev6, h⟩ := zb h
    refine z_get (j := 12) X dd_Reader_nameNode_40 kc_5 ki_5 (by decide) km_486 (zgi_v ev6) ?_
    refine z_aload_n X dd_Reader_nameNode_43 rfl 0 rfl ?_
    obtain ⟨v7, ev7, h⟩ := zb h
    refine z_get (j := 16) X dd_Reader_nameNode_44 kc_5 ki_5 (by decide) km_490 (zgi_v ev7) ?_
    refine z_ishr X dd_Reader_nameNode_47 ?_
    refine z_iconst (v := 1) X dd_Reader_nameNode_48 (by decide) ?_
    refine z_iand X dd_Reader_nameNode_49 ?_
    refine z_if_eq (tgt := 61) X dd_Reader_nameNode_50 (by decide) (fun q8 => ?_) (fun q8 => ?_)
    · rw [if_pos q8] at h
      refine z_aload_n X dd_Reader_nameNode_61 rfl 0 rfl ?_
      obtain ⟨v9, ev9, h⟩ := zb h
      refine z_get (j := 11) X dd_Reader_nameNode_62 kc_5 ki_5 (by decide) km_485 (zgi_v ev9) ?_
      refine z_aload_n X dd_Reader_nameNode_65 rfl 0 rfl ?_
      obtain ⟨v10, ev10, h⟩ := zb h
      refine z_get (j := 16) X dd_Reader_nameNode_66 kc_5 ki_5 (by decide) km_490 (zgi_v ev10) ?_
      refine z_ishr X dd_Reader_nameNode_69 ?_
      refine z_iconst (v := 1) X dd_Reader_nameNode_70 (by decide) ?_
      refine z_iand X dd_Reader_nameNode_71 ?_
      refine z_if_ne (tgt := 79) X dd_Reader_nameNode_72 (by decide) (fun q11 => ?_) (fun q11 => ?_)
      · rw [if_neg q11] at h
        refine z_sub [] rfl ?_
        exact t_Reader_nameNode_79 X H h
      · rw [if_pos q11] at h
        refine z_aload_n X dd_Reader_nameNode_75 rfl 0 rfl ?_
        obtain ⟨w13, ew13, h⟩ := zb h
        obtain ⟨q12, eq12, h⟩ := zb h
        refine z_callVv X [] rfl dd_Reader_nameNode_76 (c_Reader_makeKnown l eq12) (cwV 0 X.1.2.2.2.2 (zg_V km_1026 km_1028 km_18 km_130 km_1029) rfl rfl rfl (by decide +kernel) ⟨Nat.le_of_ble_eq_true rfl, Nat.le_of_ble_eq_true rfl⟩) (zob_s ew13) kc_5 rfl (Nat.le_of_ble_eq_true rfl) ⟨Nat.le_of_ble_eq_true rfl, Nat.le_of_ble_eq_true rfl⟩ ?_
        refine z_sub [] rfl ?_
        exact t_Reader_nameNode_79 X H h
    · rw [if_neg q8] at h
      refine z_aload_n X dd_Reader_nameNode_53 rfl 0 rfl ?_
      refine z_iconst (v := 4) X dd_Reader_nameNode_54 (by decide) ?_
      obtain ⟨w15, ew15, h⟩ := zb h
      obtain ⟨q14, eq14, h⟩ := zb h
      refine z_callVv X [.int 4] rfl dd_Reader_nameNode_55 (c_Reader_fail l eq14) (cwV 1 X.1.2.2.2.2 (zg_V km_998 km_1000 km_11 km_130 km_1001) rfl rfl rfl (by decide +kernel) ⟨Nat.le_of_ble_eq_true rfl, Nat.le_of_ble_eq_true rfl⟩) (zob_s ew15) kc_5 rfl (Nat.le_of_ble_eq_true rfl) ⟨Nat.le_of_ble_eq_true rfl, Nat.le_of_ble_eq_true rfl⟩ ?_
      refine z_goto (tgt := 79) X dd_Reader_nameNode_58 (by decide) ?_
      refine z_sub [] rfl ?_
      exact t_Reader_nameNode_79 X H h
  · rw [if_pos q5] at h
    refine z_aload_n X dd_Reader_nameNode_18 rfl 0 rfl ?_
    refine z_aload_n X dd_Reader_nameNode_19 rfl 0 rfl ?_
    obtain ⟨v16, ev16, h⟩ := zb h
    refine z_get (j := 7) X dd_Reader_nameNode_20 kc_5 ki_5 (by decide) km_481 (zgi_v ev16) ?_
    obtain ⟨w18, ew18, h⟩ := zb h
    obtain ⟨q17, eq17, h⟩ := zb h
    refine z_callVv X [.int v16] rfl dd_Reader_nameNode_23 (c_Reader_tellNode l eq17) (cwV 1 X.1.2.2.2.2 (zg_V km_1018 km_1020 km_16 km_130 km_1021) rfl rfl rfl (by decide +kernel) ⟨Nat.le_of_ble_eq_true rfl, Nat.le_of_ble_eq_true rfl⟩) (zob_s ew18) kc_5 rfl (Nat.le_of_ble_eq_true rfl) ⟨Nat.le_of_ble_eq_true rfl, Nat.le_of_ble_eq_true rfl⟩ ?_
    refine z_aload_n X dd_Reader_nameNode_26 rfl 0 rfl ?_
    obtain ⟨v19, ev19, h⟩ := zb h
    refine z_get (j := 3) X dd_Reader_nameNode_27 kc_5 ki_5 (by decide) km_477 (zgr_v ev19) ?_
    refine z_iload_n X dd_Reader_nameNode_30 rfl 1 rfl ?_
    refine z_aload_n X dd_Reader_nameNode_31 rfl 0 rfl ?_
    obtain ⟨v20, ev20, h⟩ := zb h
    refine z_get (j := 16) X dd_Reader_nameNode_32 kc_5 ki_5 (by decide) km_490 (zgi_v ev20) ?_
    obtain ⟨c21, ec21, h⟩ := zb h
    refine z_iastore X dd_Reader_nameNode_35 rfl ec21 ?_
    refine z_goto (tgt := 79) X dd_Reader_nameNode_36 (by decide) ?_
    refine z_sub [] rfl ?_
    exact t_Reader_nameNode_79 X H h
end ZzM
