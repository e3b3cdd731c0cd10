section ZzM
variable {p : Program} {l : Launch} {e : Env} {s : State} {m : MethodId} {args : Array Value} {below : List Frame} {meth : Method} {cd : Code} {Q : State → Prop} {D : va_G} {cid : Nat → ClassId} {B n0 : Nat}
theorem dd_Integer_numberOfTrailingZeros_0 : decode bb_Integer_numberOfTrailingZeros 0 = .ok (.iload_n 0, 1) := by decide +kernel
theorem dd_Integer_numberOfTrailingZeros_1 : decode bb_Integer_numberOfTrailingZeros 1 = .ok (.iconst (-1), 1) := by decide +kernel
theorem dd_Integer_numberOfTrailingZeros_2 : decode bb_Integer_numberOfTrailingZeros 2 = .ok (.ixor, 1) := by decide +kernel
theorem dd_Integer_numberOfTrailingZeros_3 : decode bb_Integer_numberOfTrailingZeros 3 = .ok (.iload_n 0, 1) := by decide +kernel
theorem dd_Integer_numberOfTrailingZeros_4 : decode bb_Integer_numberOfTrailingZeros 4 = .ok (.iconst 1, 1) := by decide +kernel
theorem dd_Integer_numberOfTrailingZeros_5 : decode bb_Integer_numberOfTrailingZeros 5 = .ok (.isub, 1) := by decide +kernel
theorem dd_Integer_numberOfTrailingZeros_6 : decode bb_Integer_numberOfTrailingZeros 6 = .ok (.iand, 1) := by decide +kernel
theorem dd_Integer_numberOfTrailingZeros_7 : decode bb_Integer_numberOfTrailingZeros 7 = .ok (.istore_n 0, 1) := by decide +kernel
theorem dd_Integer_numberOfTrailingZeros_8 : decode bb_Integer_numberOfTrailingZeros 8 = .ok (.iload_n 0, 1) := by decide +kernel
theorem dd_Integer_numberOfTrailingZeros_9 : decode bb_Integer_numberOfTrailingZeros 9 = .ok (.ifCond .gt 8, 3) := by decide +kernel
theorem dd_Integer_numberOfTrailingZeros_12 : decode bb_Integer_numberOfTrailingZeros 12 = .ok (.iload_n 0, 1) := by decide +kernel
theorem dd_Integer_numberOfTrailingZeros_13 : decode bb_Integer_numberOfTrailingZeros 13 = .ok (.bipush 32, 2) := by decide +kernel
theorem dd_Integer_numberOfTrailingZeros_15 : decode bb_Integer_numberOfTrailingZeros 15 = .ok (.iand, 1) := by decide +kernel
theorem dd_Integer_numberOfTrailingZeros_16 : decode bb_Integer_numberOfTrailingZeros 16 = .ok (.ireturn, 1) := by decide +kernel
theorem dd_Integer_numberOfTrailingZeros_17 : decode bb_Integer_numberOfTrailingZeros 17 = .ok (.iconst 1, 1) := by decide +kernel
theorem dd_Integer_numberOfTrailingZeros_18 : decode bb_Integer_numberOfTrailingZeros 18 = .ok (.istore_n 1, 1) := by decide +kernel
theorem dd_Integer_numberOfTrailingZeros_19 : decode bb_Integer_numberOfTrailingZeros 19 = .ok (.iload_n 0, 1) := by decide +kernel
theorem dd_Integer_numberOfTrailingZeros_20 : decode bb_Integer_numberOfTrailingZeros 20 = .ok (.ldc_w 264, 3) := by decide +kernel
theorem dd_Integer_numberOfTrailingZeros_23 : decode bb_Integer_numberOfTrailingZeros 23 = .ok (.if_icmp .le 11, 3) := by decide +kernel
theorem dd_Integer_numberOfTrailingZeros_26 : decode bb_Integer_numberOfTrailingZeros 26 = .ok (.iinc 1 16, 3) := by decide +kernel
theorem dd_Integer_numberOfTrailingZeros_29 : decode bb_Integer_numberOfTrailingZeros 29 = .ok (.iload_n 0, 1) := by decide +kernel
theorem dd_Integer_numberOfTrailingZeros_30 : decode bb_Integer_numberOfTrailingZeros 30 = .ok (.bipush 16, 2) := by decide +kernel
theorem dd_Integer_numberOfTrailingZeros_32 : decode bb_Integer_numberOfTrailingZeros 32 = .ok (.iushr, 1) := by decide +kernel
theorem dd_Integer_numberOfTrailingZeros_33 : decode bb_Integer_numberOfTrailingZeros 33 = .ok (.istore_n 0, 1) := by decide +kernel
theorem dd_Integer_numberOfTrailingZeros_34 : decode bb_Integer_numberOfTrailingZeros 34 = .ok (.iload_n 0, 1) := by decide +kernel
theorem dd_Integer_numberOfTrailingZeros_35 : decode bb_Integer_numberOfTrailingZeros 35 = .ok (.sipush 256, 3) := by decide +kernel
theorem dd_Integer_numberOfTrailingZeros_38 : decode bb_Integer_numberOfTrailingZeros 38 = .ok (.if_icmp .le 11, 3) := by decide +kernel
theorem dd_Integer_numberOfTrailingZeros_41 : decode bb_Integer_numberOfTrailingZeros 41 = .ok (.iinc 1 8, 3) := by decide +kernel
theorem dd_Integer_numberOfTrailingZeros_44 : decode bb_Integer_numberOfTrailingZeros 44 = .ok (.iload_n 0, 1) := by decide +kernel
theorem dd_Integer_numberOfTrailingZeros_45 : decode bb_Integer_numberOfTrailingZeros 45 = .ok (.bipush 8, 2) := by decide +kernel
theorem dd_Integer_numberOfTrailingZeros_47 : decode bb_Integer_numberOfTrailingZeros 47 = .ok (.iushr, 1) := by decide +kernel
theorem dd_Integer_numberOfTrailingZeros_48 : decode bb_Integer_numberOfTrailingZeros 48 = .ok (.istore_n 0, 1) := by decide +kernel
theorem dd_Integer_numberOfTrailingZeros_49 : decode bb_Integer_numberOfTrailingZeros 49 = .ok (.iload_n 0, 1) := by decide +kernel
theorem dd_Integer_numberOfTrailingZeros_50 : decode bb_Integer_numberOfTrailingZeros 50 = .ok (.bipush 16, 2) := by decide +kernel
theorem dd_Integer_numberOfTrailingZeros_52 : decode bb_Integer_numberOfTrailingZeros 52 = .ok (.if_icmp .le 10, 3) := by decide +kernel
theorem dd_Integer_numberOfTrailingZeros_55 : decode bb_Integer_numberOfTrailingZeros 55 = .ok (.iinc 1 4, 3) := by decide +kernel
theorem dd_Integer_numberOfTrailingZeros_58 : decode bb_Integer_numberOfTrailingZeros 58 = .ok (.iload_n 0, 1) := by decide +kernel
theorem dd_Integer_numberOfTrailingZeros_59 : decode bb_Integer_numberOfTrailingZeros 59 = .ok (.iconst 4, 1) := by decide +kernel
theorem dd_Integer_numberOfTrailingZeros_60 : decode bb_Integer_numberOfTrailingZeros 60 = .ok (.iushr, 1) := by decide +kernel
theorem dd_Integer_numberOfTrailingZeros_61 : decode bb_Integer_numberOfTrailingZeros 61 = .ok (.istore_n 0, 1) := by decide +kernel
theorem dd_Integer_numberOfTrailingZeros_62 : decode bb_Integer_numberOfTrailingZeros 62 = .ok (.iload_n 0, 1) := by decide +kernel
theorem dd_Integer_numberOfTrailingZeros_63 : decode bb_Integer_numberOfTrailingZeros 63 = .ok (.iconst 4, 1) := by decide +kernel
theorem dd_Integer_numberOfTrailingZeros_64 : decode bb_Integer_numberOfTrailingZeros 64 = .ok (.if_icmp .le 10, 3) := by decide +kernel
theorem dd_Integer_numberOfTrailingZeros_67 : decode bb_Integer_numberOfTrailingZeros 67 = .ok (.iinc 1 2, 3) := by decide +kernel
theorem dd_Integer_numberOfTrailingZeros_70 : decode bb_Integer_numberOfTrailingZeros 70 = .ok (.iload_n 0, 1) := by decide +kernel
theorem dd_Integer_numberOfTrailingZeros_71 : decode bb_Integer_numberOfTrailingZeros 71 = .ok (.iconst 2, 1) := by decide +kernel
theorem dd_Integer_numberOfTrailingZeros_72 : decode bb_Integer_numberOfTrailingZeros 72 = .ok (.iushr, 1) := by decide +kernel
theorem dd_Integer_numberOfTrailingZeros_73 : decode bb_Integer_numberOfTrailingZeros 73 = .ok (.istore_n 0, 1) := by decide +kernel
theorem dd_Integer_numberOfTrailingZeros_74 : decode bb_Integer_numberOfTrailingZeros 74 = .ok (.iload_n 1, 1) := by decide +kernel
theorem dd_Integer_numberOfTrailingZeros_75 : decode bb_Integer_numberOfTrailingZeros 75 = .ok (.iload_n 0, 1) := by decide +kernel
theorem dd_Integer_numberOfTrailingZeros_76 : decode bb_Integer_numberOfTrailingZeros 76 = .ok (.iconst 1, 1) := by decide +kernel
theorem dd_Integer_numberOfTrailingZeros_77 : decode bb_Integer_numberOfTrailingZeros 77 = .ok (.iushr, 1) := by decide +kernel
theorem dd_Integer_numberOfTrailingZeros_78 : decode bb_Integer_numberOfTrailingZeros 78 = .ok (.iadd, 1) := by decide +kernel
theorem dd_Integer_numberOfTrailingZeros_79 : decode bb_Integer_numberOfTrailingZeros 79 = .ok (.ireturn, 1) := by decide +kernel
set_option maxRecDepth 100000 in
set_option maxHeartbeats 4000000 in
theorem t_Integer_numberOfTrailingZeros_74  (X : zX p s m args cd D cid B bb_Integer_numberOfTrailingZeros 2 rr_Integer zT) (H : zH s meth B n0 (some (.int)) "numberOfTrailingZeros") {nf : Nat} {x0 : Int32} {x1 : Int32} {c : Zc} {res : Int32 × Zc} (h : f_Integer_numberOfTrailingZeros_74 nf x0 x1 c = some res) : Zz p l e (zRm 0 0 0 0) s m args below meth cd (MQ below (zQi D cid B res.1 res.2 n0 0) args s 0 0 (fun q => B ≤ q)) D cid B 2 0 0 c 74 [(0, .int x0), (1, .int x1)] [] := by
  unfold f_Integer_numberOfTrailingZeros_74 at h
  refine z_iload_n X dd_Integer_numberOfTrailingZeros_74 rfl 1 rfl ?_
  refine z_iload_n X dd_Integer_numberOfTrailingZeros_75 rfl 0 rfl ?_
  refine z_iconst (v := 1) X dd_Integer_numberOfTrailingZeros_76 (by decide) ?_
  refine z_iushr X dd_Integer_numberOfTrailingZeros_77 ?_
  refine z_iadd X dd_Integer_numberOfTrailingZeros_78 ?_
  obtain rfl := Option.some.inj h
  exact z_iret X H.1 H.2.1 H.2.2.1 dd_Integer_numberOfTrailingZeros_79
set_option maxRecDepth 100000 in
set_option maxHeartbeats 4000000 in
theorem t_Integer_numberOfTrailingZeros_62  (X : zX p s m args cd D cid B bb_Integer_numberOfTrailingZeros 2 rr_Integer zT) (H : zH s meth B n0 (some (.int)) "numberOfTrailingZeros") {nf : Nat} {x0 : Int32} {x1 : Int32} {c : Zc} {res : Int32 × Zc} (h : f_Integer_numberOfTrailingZeros_62 nf x0 x1 c = some res) : Zz p l e (zRm 0 0 0 0) s m args below meth cd (MQ below (zQi D cid B res.1 res.2 n0 0) args s 0 0 (fun q => B ≤ q)) D cid B 2 0 0 c 62 [(0, .int x0), (1, .int x1)] [] := by
  unfold f_Integer_numberOfTrailingZeros_62 at h
  refine z_iload_n X dd_Integer_numberOfTrailingZeros_62 rfl 0 rfl ?_
  refine z_iconst (v := 4) X dd_Integer_numberOfTrailingZeros_63 (by decide) ?_
  refine z_icmp_le (tgt := 74) X dd_Integer_numberOfTrailingZeros_64 (by decide) (fun q5 => ?_) (fun q5 => ?_)
  · rw [if_pos q5] at h
    exact t_Integer_numberOfTrailingZeros_74 X H h
  · rw [if_neg q5] at h
    refine z_iinc (v := (x1 + 2)) (lv' := [(1, .int (x1 + 2)), (0, .int x0)]) X dd_Integer_numberOfTrailingZeros_67 1 rfl rfl (by decide) rfl ?_
    refine z_iload_n X dd_Integer_numberOfTrailingZeros_70 rfl 1 rfl ?_
    refine z_iconst (v := 2) X dd_Integer_numberOfTrailingZeros_71 (by decide) ?_
    refine z_iushr X dd_Integer_numberOfTrailingZeros_72 ?_
    refine z_istore_n (lv' := [(0, .int (Int32.toUInt32 x0 >>> (Int32.toUInt32 2 &&& Int32.toUInt32 31)).toInt32), (1, .int (x1 + 2))]) X dd_Integer_numberOfTrailingZeros_73 rfl (by decide) rfl ?_
    exact t_Integer_numberOfTrailingZeros_74 X H h
set_option maxRecDepth 100000 in
set_option maxHeartbeats 4000000 in
theorem t_Integer_numberOfTrailingZeros_49  (X : zX p s m args cd D cid B bb_Integer_numberOfTrailingZeros 2 rr_Integer zT) (H : zH s meth B n0 (some (.int)) "numberOfTrailingZeros") {nf : Nat} {x0 : Int32} {x1 : Int32} {c : Zc} {res : Int32 × Zc} (h : f_Integer_numberOfTrailingZeros_49 nf x0 x1 c = some res) : Zz p l e (zRm 0 0 0 0) s m args below meth cd (MQ below (zQi D cid B res.1 res.2 n0 0) args s 0 0 (fun q => B ≤ q)) D cid B 2 0 0 c 49 [(0, .int x0), (1, .int x1)] [] := by
  unfold f_Integer_numberOfTrailingZeros_49 at h
  refine z_iload_n X dd_Integer_numberOfTrailingZeros_49 rfl 0 rfl ?_
  refine z_bipush (v := 16) X dd_Integer_numberOfTrailingZeros_50 (by decide) ?_
  refine z_icmp_le (tgt := 62) X dd_Integer_numberOfTrailingZeros_52 (by decide) (fun q4 => ?_) (fun q4 => ?_)
  · rw [if_pos q4] at h
    exact t_Integer_numberOfTrailingZeros_62 X H h
  · rw [if_neg q4] at h
    refine z_iinc (v := (x1 + 4)) (lv' := [(1, .int (x1 + 4)), (0, .int x0)]) X dd_Integer_numberOfTrailingZeros_55 1 rfl rfl (by decide) rfl ?_
    refine z_iload_n X dd_Integer_numberOfTrailingZeros_58 rfl 1 rfl ?_
    refine z_iconst (v := 4) X dd_Integer_numberOfTrailingZeros_59 (by decide) ?_
    refine z_iushr X dd_Integer_numberOfTrailingZeros_60 ?_
    refine z_istore_n (lv' := [(0, .int (Int32.toUInt32 x0 >>> (Int32.toUInt32 4 &&& Int32.toUInt32 31)).toInt32), (1, .int (x1 + 4))]) X dd_Integer_numberOfTrailingZeros_61 rfl (by decide) rfl ?_
    exact t_Integer_numberOfTrailingZeros_62 X H h
set_option maxRecDepth 100000 in
set_option maxHeartbeats 4000000 in
theorem t_Integer_numberOfTrailingZeros_34  (X : zX p s m args cd D cid B bb_Integer_numberOfTrailingZeros 2 rr_Integer zT) (H : zH s meth B n0 (some (.int)) "numberOfTrailingZeros") {nf : Nat} {x0 : Int32} {x1 : Int32} {c : Zc} {res : Int32 × Zc} (h : f_Integer_numberOfTrailingZeros_34 nf x0 x1 c = some res) : Zz p l e (zRm 0 0 0 0) s m args below meth cd (MQ below (zQi D cid B res.1 res.2 n0 0) args s 0 0 (fun q => B ≤ q)) D cid B 2 0 0 c 34 [(0, .int x0), (1, .int x1)] [] := by
  unfold f_Integer_numberOfTrailingZeros_34 at h
  refine z_iload_n X dd_Integer_numberOfTrailingZeros_34 rfl 0 rfl ?_
  refine z_sipush (v := 256) X dd_Integer_numberOfTrailingZeros_35 (by decide) ?_
  refine z_icmp_le (tgt := 49) X dd_Integer_numberOfTrailingZeros_38 (by decide) (fun q3 => ?_) (fun q3 => ?_)
  · rw [if_pos q3] at h
    exact t_Integer_numberOfTrailingZeros_49 X H h
  · rw [if_neg q3] at h
    refine z_iinc (v := (x1 + 8)) (lv' := [(1, .int (x1 + 8)), (0, .int x0)]) X dd_Integer_numberOfTrailingZeros_41 1 rfl rfl (by decide) rfl ?_
    refine z_iload_n X dd_Integer_numberOfTrailingZeros_44 rfl 1 rfl ?_
    refine z_bipush (v := 8) X dd_Integer_numberOfTrailingZeros_45 (by decide) ?_
    refine z_iushr X dd_Integer_numberOfTrailingZeros_47 ?_
    refine z_istore_n (lv' := [(0, .int (Int32.toUInt32 x0 >>> (Int32.toUInt32 8 &&& Int32.toUInt32 31)).toInt32), (1, .int (x1 + 8))]) X dd_Integer_numberOfTrailingZeros_48 rfl (by decide) rfl ?_
    exact t_Integer_numberOfTrailingZeros_49 X H h
set_option maxRecDepth 100000 in
set_option maxHeartbeats 4000000 in
theorem c_Integer_numberOfTrailingZeros (l : Launch) {nf : Nat} {a0 : Int32} {c : Zc} {res : Int32 × Zc} (h : f_Integer_numberOfTrailingZeros nf a0 c = some res) : zM l yy_Integer_numberOfTrailingZeros ww_Integer_numberOfTrailingZeros 0 0 0 0 [.int a0] c (fun D cid B => zQi D cid B res.1 res.2 c.length 0) := by
  refine z_met (cc := bb_Integer_numberOfTrailingZeros) (maxL := 2) (ret := (some (.int))) (by decide +kernel) rfl (Nat.le_of_ble_eq_true rfl) ?_
  intro p e s m args below meth cd D cid B X h1 h2 h3 h4
  have X : zX p s m args cd D cid B bb_Integer_numberOfTrailingZeros 2 rr_Integer zT := X
  have H : zH s meth B c.length (some (.int)) "numberOfTrailingZeros" := ⟨h1, h2, h4, h3⟩
  unfold f_Integer_numberOfTrailingZeros at h
  show Zz p l e (zRm 0 0 0 0) s m args below meth cd _ D cid B 2 0 0 c 0 [(0, .int a0)] []
  refine z_iload_n X dd_Integer_numberOfTrailingZeros_0 rfl 0 rfl ?_
  refine z_iconst (v := (-1)) X dd_Integer_numberOfTrailingZeros_1 (by decide) ?_
  refine z_ixor X dd_Integer_numberOfTrailingZeros_2 ?_
  refine z_iload_n X dd_Integer_numberOfTrailingZeros_3 rfl 0 rfl ?_
  refine z_iconst (v := 1) X dd_Integer_numberOfTrailingZeros_4 (by decide) ?_
  refine z_isub X dd_Integer_numberOfTrailingZeros_5 ?_
  refine z_iand X dd_Integer_numberOfTrailingZeros_6 ?_
  refine z_istore_n (lv' := [(0, .int ((a0 ^^^ (-1)) &&& (a0 - 1)))]) X dd_Integer_numberOfTrailingZeros_7 rfl (by decide) rfl ?_
  refine z_iload_n X dd_Integer_numberOfTrailingZeros_8 rfl 0 rfl ?_
  refine z_if_gt (tgt := 17) X dd_Integer_numberOfTrailingZeros_9 (by decide) (fun q1 => ?_) (fun q1 => ?_)
  · rw [if_pos q1] at h
    refine z_iconst (v := 1) X dd_Integer_numberOfTrailingZeros_17 (by decide) ?_
    refine z_istore_n (lv' := [(1, .int 1), (0, .int ((a0 ^^^ (-1)) &&& (a0 - 1)))]) X dd_Integer_numberOfTrailingZeros_18 rfl (by decide) rfl ?_
    refine z_iload_n X dd_Integer_numberOfTrailingZeros_19 rfl 1 rfl ?_
    refine z_ldcw (v := 65536) X dd_Integer_numberOfTrailingZeros_20 km_1349 ?_
    refine z_icmp_le (tgt := 34) X dd_Integer_numberOfTrailingZeros_23 (by decide) (fun q2 => ?_) (fun q2 => ?_)
    · rw [if_pos q2] at h
      refine z_sub [1, 0] rfl ?_
      exact t_Integer_numberOfTrailingZeros_34 X H h
    · rw [if_neg q2] at h
      refine z_iinc (v := (1 + 16)) (lv' := [(1, .int (1 + 16)), (0, .int ((a0 ^^^ (-1)) &&& (a0 - 1)))]) X dd_Integer_numberOfTrailingZeros_26 0 rfl rfl (by decide) rfl ?_
      refine z_iload_n X dd_Integer_numberOfTrailingZeros_29 rfl 1 rfl ?_
      refine z_bipush (v := 16) X dd_Integer_numberOfTrailingZeros_30 (by decide) ?_
      refine z_iushr X dd_Integer_numberOfTrailingZeros_32 ?_
      refine z_istore_n (lv' := [(0, .int (Int32.toUInt32 ((a0 ^^^ (-1)) &&& (a0 - 1)) >>> (Int32.toUInt32 16 &&& Int32.toUInt32 31)).toInt32), (1, .int (1 + 16))]) X dd_Integer_numberOfTrailingZeros_33 rfl (by decide) rfl ?_
      exact t_Integer_numberOfTrailingZeros_34 X H h
  · rw [if_neg q1] at h
    refine z_iload_n X dd_Integer_numberOfTrailingZeros_12 rfl 0 rfl ?_
    refine z_bipush (v := 32) X dd_Integer_numberOfTrailingZeros_13 (by decide) ?_
    refine z_iand X dd_Integer_numberOfTrailingZeros_15 ?_
    obtain rfl := Option.some.inj h
    exact z_iret X H.1 H.2.1 H.2.2.1 dd_Integer_numberOfTrailingZeros_16
theorem dd_Search_next_0 : decode bb_Search_next 0 = .ok (.iconst 0, 1) := by decide +kernel
theorem dd_Search_next_1 : decode bb_Search_next 1 = .ok (.istore_n 1, 1) := by decide +kernel
theorem dd_Search_next_2 : decode bb_Search_next 2 = .ok (.iload_n 1, 1) := by decide +kernel
theorem dd_Search_next_3 : decode bb_Search_next 3 = .ok (.ldc 66, 2) := by decide +kernel
theorem dd_Search_next_5 : decode bb_Search_next 5 = .ok (.if_icmp .ge 117, 3) := by decide +kernel
theorem dd_Search_next_8 : decode bb_Search_next 8 = .ok (.aload_n 0, 1) := by decide +kernel
theorem dd_Search_next_9 : decode bb_Search_next 9 = .ok (.getfield 37, 3) := by decide +kernel
theorem dd_Search_next_12 : decode bb_Search_next 12 = .ok (.ifCond .lt 110, 3) := by decide +kernel
theorem dd_Search_next_15 : decode bb_Search_next 15 = .ok (.aload_n 0, 1) := by decide +kernel
theorem dd_Search_next_16 : decode bb_Search_next 16 = .ok (.getfield 18, 3) := by decide +kernel
theorem dd_Search_next_19 : decode bb_Search_next 19 = .ok (.aload_n 0, 1) := by decide +kernel
theorem dd_Search_next_20 : decode bb_Search_next 20 = .ok (.getfield 37, 3) := by decide +kernel
theorem dd_Search_next_23 : decode bb_Search_next 23 = .ok (.iaload, 1) := by decide +kernel
theorem dd_Search_next_24 : decode bb_Search_next 24 = .ok (.istore_n 2, 1) := by decide +kernel
theorem dd_Search_next_25 : decode bb_Search_next 25 = .ok (.iload_n 2, 1) := by decide +kernel
theorem dd_Search_next_26 : decode bb_Search_next 26 = .ok (.ifCond .ne 16, 3) := by decide +kernel
theorem dd_Search_next_29 : decode bb_Search_next 29 = .ok (.aload_n 0, 1) := by decide +kernel
theorem dd_Search_next_30 : decode bb_Search_next 30 = .ok (.dup, 1) := by decide +kernel
theorem dd_Search_next_31 : decode bb_Search_next 31 = .ok (.getfield 37, 3) := by decide +kernel
theorem dd_Search_next_34 : decode bb_Search_next 34 = .ok (.iconst 1, 1) := by decide +kernel
theorem dd_Search_next_35 : decode bb_Search_next 35 = .ok (.isub, 1) := by decide +kernel
theorem dd_Search_next_36 : decode bb_Search_next 36 = .ok (.putfield 37, 3) := by decide +kernel
theorem dd_Search_next_39 : decode bb_Search_next 39 = .ok (.goto 77, 3) := by decide +kernel
theorem dd_Search_next_42 : decode bb_Search_next 42 = .ok (.aload_n 0, 1) := by decide +kernel
theorem dd_Search_next_43 : decode bb_Search_next 43 = .ok (.getfield 18, 3) := by decide +kernel
theorem dd_Search_next_46 : decode bb_Search_next 46 = .ok (.aload_n 0, 1) := by decide +kernel
theorem dd_Search_next_47 : decode bb_Search_next 47 = .ok (.getfield 37, 3) := by decide +kernel
theorem dd_Search_next_50 : decode bb_Search_next 50 = .ok (.iload_n 2, 1) := by decide +kernel
theorem dd_Search_next_51 : decode bb_Search_next 51 = .ok (.iload_n 2, 1) := by decide +kernel
theorem dd_Search_next_52 : decode bb_Search_next 52 = .ok (.iconst 1, 1) := by decide +kernel
theorem dd_Search_next_53 : decode bb_Search_next 53 = .ok (.isub, 1) := by decide +kernel
theorem dd_Search_next_54 : decode bb_Search_next 54 = .ok (.iand, 1) := by decide +kernel
theorem dd_Search_next_55 : decode bb_Search_next 55 = .ok (.iastore, 1) := by decide +kernel
theorem dd_Search_next_56 : decode bb_Search_next 56 = .ok (.aload_n 0, 1) := by decide +kernel
theorem dd_Search_next_57 : decode bb_Search_next 57 = .ok (.getfield 48, 3) := by decide +kernel
theorem dd_Search_next_60 : decode bb_Search_next 60 = .ok (.aload_n 0, 1) := by decide +kernel
theorem dd_Search_next_61 : decode bb_Search_next 61 = .ok (.getfield 9, 3) := by decide +kernel
theorem dd_Search_next_64 : decode bb_Search_next 64 = .ok (.aload_n 0, 1) := by decide +kernel
theorem dd_Search_next_65 : decode bb_Search_next 65 = .ok (.getfield 37, 3) := by decide +kernel
theorem dd_Search_next_68 : decode bb_Search_next 68 = .ok (.iaload, 1) := by decide +kernel
theorem dd_Search_next_69 : decode bb_Search_next 69 = .ok (.iload_n 2, 1) := by decide +kernel
theorem dd_Search_next_70 : decode bb_Search_next 70 = .ok (.invokestatic 67, 3) := by decide +kernel
theorem dd_Search_next_73 : decode bb_Search_next 73 = .ok (.iastore, 1) := by decide +kernel
theorem dd_Search_next_74 : decode bb_Search_next 74 = .ok (.aload_n 0, 1) := by decide +kernel
theorem dd_Search_next_75 : decode bb_Search_next 75 = .ok (.getfield 37, 3) := by decide +kernel
theorem dd_Search_next_78 : decode bb_Search_next 78 = .ok (.iconst 1, 1) := by decide +kernel
theorem dd_Search_next_79 : decode bb_Search_next 79 = .ok (.iadd, 1) := by decide +kernel
theorem dd_Search_next_80 : decode bb_Search_next 80 = .ok (.aload_n 0, 1) := by decide +kernel
theorem dd_Search_next_81 : decode bb_Search_next 81 = .ok (.getfield 34, 3) := by decide +kernel
theorem dd_Search_next_84 : decode bb_Search_next 84 = .ok (.if_icmp .lt 5, 3) := by decide +kernel
theorem dd_Search_next_87 : decode bb_Search_next 87 = .ok (.iconst 1, 1) := by decide +kernel
theorem dd_Search_next_88 : decode bb_Search_next 88 = .ok (.ireturn, 1) := by decide +kernel
theorem dd_Search_next_89 : decode bb_Search_next 89 = .ok (.aload_n 0, 1) := by decide +kernel
theorem dd_Search_next_90 : decode bb_Search_next 90 = .ok (.dup, 1) := by decide +kernel
theorem dd_Search_next_91 : decode bb_Search_next 91 = .ok (.getfield 37, 3) := by decide +kernel
theorem dd_Search_next_94 : decode bb_Search_next 94 = .ok (.iconst 1, 1) := by decide +kernel
theorem dd_Search_next_95 : decode bb_Search_next 95 = .ok (.iadd, 1) := by decide +kernel
theorem dd_Search_next_96 : decode bb_Search_next 96 = .ok (.putfield 37, 3) := by decide +kernel
theorem dd_Search_next_99 : decode bb_Search_next 99 = .ok (.aload_n 0, 1) := by decide +kernel
theorem dd_Search_next_100 : decode bb_Search_next 100 = .ok (.getfield 18, 3) := by decide +kernel
theorem dd_Search_next_103 : decode bb_Search_next 103 = .ok (.aload_n 0, 1) := by decide +kernel
theorem dd_Search_next_104 : decode bb_Search_next 104 = .ok (.getfield 37, 3) := by decide +kernel
theorem dd_Search_next_107 : decode bb_Search_next 107 = .ok (.aload_n 0, 1) := by decide +kernel
theorem dd_Search_next_108 : decode bb_Search_next 108 = .ok (.aload_n 0, 1) := by decide +kernel
theorem dd_Search_next_109 : decode bb_Search_next 109 = .ok (.getfield 37, 3) := by decide +kernel
theorem dd_Search_next_112 : decode bb_Search_next 112 = .ok (.invokevirtual 62, 3) := by decide +kernel
theorem dd_Search_next_115 : decode bb_Search_next 115 = .ok (.iastore, 1) := by decide +kernel
theorem dd_Search_next_116 : decode bb_Search_next 116 = .ok (.iinc 1 1, 3) := by decide +kernel
theorem dd_Search_next_119 : decode bb_Search_next 119 = .ok (.goto (-117), 3) := by decide +kernel
theorem dd_Search_next_122 : decode bb_Search_next 122 = .ok (.iconst 0, 1) := by decide +kernel
theorem dd_Search_next_123 : decode bb_Search_next 123 = .ok (.ireturn, 1) := by decide +kernel
set_option maxRecDepth 100000 in
set_option maxHeartbeats 4000000 in
theorem t_Search_next_116  (X : zX p s m args cd D cid B bb_Search_next 3 rr_Search zT) (H : zH s meth B n0 (some (.boolean)) "next") {nf : Nat} {x0 : Nat} {x1 : Int32} {c : Zc} {r : (Nat × Int32 × Zc) ⊕ ((Zc) ⊕ (Zc))} (h : f_Search_next_116 nf x0 x1 c = some r) (k0 : ∀ a, r = .inl a → (fun a : Nat × Int32 × Zc => Zz p l e (zRm 1 26 0 0) s m args below meth cd Q D cid B 3 0 0 a.2.2 2 [(0, .ref a.1), (1, .int a.2.1)] []) a) (k1 : ∀ b, r = .inr b → (fun b : (Zc) ⊕ (Zc) => Sum.elim (fun b => Zz p l e (zRm 1 26 0 0) s m args below meth cd Q D cid B 3 0 0 b 87 [] []) (fun b => Zz p l e (zRm 1 26 0 0) s m args below meth cd Q D cid B 3 0 0 b 122 [] []) b) b) : Zz p l e (zRm 1 26 0 0) s m args below meth cd Q D cid B 3 0 0 c 116 [(0, .ref x0), (1, .int x1)] [] := by
  unfold f_Search_next_116 at h
  refine z_iinc (v := (x1 + 1)) (lv' := [(1, .int (x1 + 1)), (0, .ref x0)]) X dd_Search_next_116 1 rfl rfl (by decide) rfl ?_
  refine z_goto (tgt := 2) X dd_Search_next_119 (by decide) ?_
  refine z_sub [1, 0] rfl ?_
  obtain rfl := Option.some.inj h
  exact k0 _ rfl
set_option maxRecDepth 100000 in
set_option maxHeartbeats 4000000 in
theorem u_Search_next_2  (X : zX p s m args cd D cid B bb_Search_next 3 rr_Search zT) (H : zH s meth B n0 (some (.boolean)) "next") {nf : Nat} {x0 : Nat} {x1 : Int32} {c : Zc} {r : (Nat × Int32 × Zc) ⊕ ((Zc) ⊕ (Zc))} (h : g_Search_next_2 nf x0 x1 c = some r) (k0 : ∀ a, r = .inl a → (fun a : Nat × Int32 × Zc => Zz p l e (zRm 1 26 0 0) s m args below meth cd Q D cid B 3 0 0 a.2.2 2 [(0, .ref a.1), (1, .int a.2.1)] []) a) (k1 : ∀ b, r = .inr b → (fun b : (Zc) ⊕ (Zc) => Sum.elim (fun b => Zz p l e (zRm 1 26 0 0) s m args below meth cd Q D cid B 3 0 0 b 87 [] []) (fun b => Zz p l e (zRm 1 26 0 0) s m args below meth cd Q D cid B 3 0 0 b 122 [] []) b) b) : Zz p l e (zRm 1 26 0 0) s m args below meth cd Q D cid B 3 0 0 c 2 [(0, .ref x0), (1, .int x1)] [] := by
  unfold g_Search_next_2 at h
  refine z_iload_n X dd_Search_next_2 rfl 1 rfl ?_
  refine z_ldc (v := 1000000) X dd_Search_next_3 km_1345 ?_
  refine z_icmp_ge (tgt := 122) X dd_Search_next_5 (by decide) (fun q1 => ?_) (fun q1 => ?_)
  · rw [if_pos q1] at h
    refine z_sub [] rfl ?_
    obtain rfl := Option.some.inj h
    exact k1 _ rfl
  · rw [if_neg q1] at h
    refine z_aload_n X dd_Search_next_8 rfl 0 rfl ?_
    obtain ⟨v2, ev2, h⟩ := zb h
    refine z_get (j := 11) X dd_Search_next_9 kc_6 ki_6 (by decide) km_558 (zgi_v ev2) ?_
    refine z_if_lt (tgt := 122) X dd_Search_next_12 (by decide) (fun q3 => ?_) (fun q3 => ?_)
    · rw [if_pos q3] at h
      refine z_sub [] rfl ?_
      obtain rfl := Option.some.inj h
      exact k1 _ rfl
    · rw [if_neg q3] at h
      refine z_aload_n X dd_Search_next_15 rfl 0 rfl ?_
      obtain ⟨v4, ev4, h⟩ := zb h
      refine z_get (j := 4) X dd_Search_next_16 kc_6 ki_6 (by decide) km_551 (zgr_v ev4) ?_
      refine z_aload_n X dd_Search_next_19 rfl 0 rfl ?_
      obtain ⟨v5, ev5, h⟩ := zb h
      refine z_get (j := 11) X dd_Search_next_20 kc_6 ki_6 (by decide) km_558 (zgi_v ev5) ?_
      obtain ⟨v6, ev6, h⟩ := zb h
      refine z_iaload X dd_Search_next_23 rfl ev6 ?_
      refine z_istore_n (lv' := [(2, .int v6), (0, .ref x0), (1, .int x1)]) X dd_Search_next_24 rfl (by decide) rfl ?_
      refine z_iload_n X dd_Search_next_25 rfl 0 rfl ?_
      refine z_if_ne (tgt := 42) X dd_Search_next_26 (by decide) (fun q7 => ?_) (fun q7 => ?_)
      · rw [if_neg q7] at h
        refine z_aload_n X dd_Search_next_42 rfl 1 rfl ?_
        obtain ⟨v8, ev8, h⟩ := zb h
        refine z_get (j := 4) X dd_Search_next_43 kc_6 ki_6 (by decide) km_551 (zgr_v ev8) ?_
        refine z_aload_n X dd_Search_next_46 rfl 1 rfl ?_
        obtain ⟨v9, ev9, h⟩ := zb h
        refine z_get (j := 11) X dd_Search_next_47 kc_6 ki_6 (by decide) km_558 (zgi_v ev9) ?_
        refine z_iload_n X dd_Search_next_50 rfl 0 rfl ?_
        refine z_iload_n X dd_Search_next_51 rfl 0 rfl ?_
        refine z_iconst (v := 1) X dd_Search_next_52 (by decide) ?_
        refine z_isub X dd_Search_next_53 ?_
        refine z_iand X dd_Search_next_54 ?_
        obtain ⟨c10, ec10, h⟩ := zb h
        refine z_iastore X dd_Search_next_55 rfl ec10 ?_
        refine z_aload_n X dd_Search_next_56 rfl 1 rfl ?_
        obtain ⟨v11, ev11, h⟩ := zb h
        refine z_get (j := 1) X dd_Search_next_57 kc_6 ki_6 (by decide) km_548 (zgr_v ev11) ?_
        refine z_aload_n X dd_Search_next_60 rfl 1 rfl ?_
        obtain ⟨v12, ev12, h⟩ := zb h
        refine z_get (j := 2) X dd_Search_next_61 kc_6 ki_6 (by decide) km_549 (zgr_v ev12) ?_
        refine z_aload_n X dd_Search_next_64 rfl 1 rfl ?_
        obtain ⟨v13, ev13, h⟩ := zb h
        refine z_get (j := 11) X dd_Search_next_65 kc_6 ki_6 (by decide) km_558 (zgi_v ev13) ?_
        obtain ⟨v14, ev14, h⟩ := zb h
        refine z_iaload X dd_Search_next_68 rfl ev14 ?_
        refine z_iload_n X dd_Search_next_69 rfl 0 rfl ?_
        obtain ⟨q15, eq15, h⟩ := zb h
        refine z_callSi X [.int v6] rfl dd_Search_next_70 (c_Integer_numberOfTrailingZeros l eq15) (va_cwS 1 X.1.2.2.2.2 (zg_S km_1346 km_1347 km_145 km_1348) rfl rfl rfl (by decide +kernel) ⟨Nat.le_of_ble_eq_true rfl, Nat.le_of_ble_eq_true rfl⟩) rfl (Nat.le_of_ble_eq_true rfl) ⟨Nat.le_of_ble_eq_true rfl, Nat.le_of_ble_eq_true rfl⟩ ?_
        obtain ⟨c16, ec16, h⟩ := zb h
        refine z_iastore X dd_Search_next_73 rfl ec16 ?_
        refine z_aload_n X dd_Search_next_74 rfl 1 rfl ?_
        obtain ⟨v17, ev17, h⟩ := zb h
        refine z_get (j := 11) X dd_Search_next_75 kc_6 ki_6 (by decide) km_558 (zgi_v ev17) ?_
        refine z_iconst (v := 1) X dd_Search_next_78 (by decide) ?_
        refine z_iadd X dd_Search_next_79 ?_
        refine z_aload_n X dd_Search_next_80 rfl 1 rfl ?_
        obtain ⟨v18, ev18, h⟩ := zb h
        refine z_get (j := 10) X dd_Search_next_81 kc_6 ki_6 (by decide) km_557 (zgi_v ev18) ?_
        refine z_icmp_lt (tgt := 89) X dd_Search_next_84 (by decide) (fun q19 => ?_) (fun q19 => ?_)
        · rw [if_pos q19] at h
          refine z_aload_n X dd_Search_next_89 rfl 1 rfl ?_
          refine z_dup X dd_Search_next_90 rfl ?_
          obtain ⟨v20, ev20, h⟩ := zb h
          refine z_get (j := 11) X dd_Search_next_91 kc_6 ki_6 (by decide) km_558 (zgi_v ev20) ?_
          refine z_iconst (v := 1) X dd_Search_next_94 (by decide) ?_
          refine z_iadd X dd_Search_next_95 ?_
          obtain ⟨c21, ec21, h⟩ := zb h
          refine z_put (j := 11) X dd_Search_next_96 kc_6 ki_6 tt_Search tk_Search nn_Search (by decide) km_558 rfl (tk_Search 11 (by decide)) rfl rfl ec21 ?_
          refine z_aload_n X dd_Search_next_99 rfl 1 rfl ?_
          obtain ⟨v22, ev22, h⟩ := zb h
          refine z_get (j := 4) X dd_Search_next_100 kc_6 ki_6 (by decide) km_551 (zgr_v ev22) ?_
          refine z_aload_n X dd_Search_next_103 rfl 1 rfl ?_
          obtain ⟨v23, ev23, h⟩ := zb h
          refine z_get (j := 11) X dd_Search_next_104 kc_6 ki_6 (by decide) km_558 (zgi_v ev23) ?_
          refine z_aload_n X dd_Search_next_107 rfl 1 rfl ?_
          refine z_aload_n X dd_Search_next_108 rfl 1 rfl ?_
          obtain ⟨v24, ev24, h⟩ := zb h
          refine z_get (j := 11) X dd_Search_next_109 kc_6 ki_6 (by decide) km_558 (zgi_v ev24) ?_
          obtain ⟨w26, ew26, h⟩ := zb h
          obtain ⟨q25, eq25, h⟩ := zb h
          refine z_callVi X [.int v24] rfl dd_Search_next_112 (c_Search_candidates l eq25) (cwV 1 X.1.2.2.2.2 (zg_V km_1332 km_1334 km_51 km_134 km_1335) rfl rfl rfl (by decide +kernel) ⟨Nat.le_of_ble_eq_true rfl, Nat.le_of_ble_eq_true rfl⟩) (zob_s ew26) kc_6 rfl (Nat.le_of_ble_eq_true rfl) ⟨Nat.le_of_ble_eq_true rfl, Nat.le_of_ble_eq_true rfl⟩ ?_
          obtain ⟨c27, ec27, h⟩ := zb h
          refine z_iastore X dd_Search_next_115 rfl ec27 ?_
          refine z_sub [1, 2] rfl ?_
          exact t_Search_next_116 X H h k0 k1
        · rw [if_neg q19] at h
          refine z_sub [] rfl ?_
          obtain rfl := Option.some.inj h
          exact k1 _ rfl
      · rw [if_pos q7] at h
        refine z_aload_n X dd_Search_next_29 rfl 1 rfl ?_
        refine z_dup X dd_Search_next_30 rfl ?_
        obtain ⟨v28, ev28, h⟩ := zb h
        refine z_get (j := 11) X dd_Search_next_31 kc_6 ki_6 (by decide) km_558 (zgi_v ev28) ?_
        refine z_iconst (v := 1) X dd_Search_next_34 (by decide) ?_
        refine z_isub X dd_Search_next_35 ?_
        obtain ⟨c29, ec29, h⟩ := zb h
        refine z_put (j := 11) X dd_Search_next_36 kc_6 ki_6 tt_Search tk_Search nn_Search (by decide) km_558 rfl (tk_Search 11 (by decide)) rfl rfl ec29 ?_
        refine z_goto (tgt := 116) X dd_Search_next_39 (by decide) ?_
        refine z_sub [1, 2] rfl ?_
        exact t_Search_next_116 X H h k0 k1
set_option maxRecDepth 100000 in
set_option maxHeartbeats 4000000 in
theorem t_Search_next_122  (X : zX p s m args cd D cid B bb_Search_next 3 rr_Search zT) (H : zH s meth B n0 (some (.boolean)) "next") {nf : Nat}  {c : Zc} {res : Int32 × Zc} (h : f_Search_next_122 nf  c = some res) : Zz p l e (zRm 1 26 0 0) s m args below meth cd (MQ below (zQi D cid B res.1 res.2 n0 0) args s 0 0 (fun q => B ≤ q)) D cid B 3 0 0 c 122 [] [] := by
  unfold f_Search_next_122 at h
  refine z_iconst (v := 0) X dd_Search_next_122 (by decide) ?_
  obtain ⟨hz, h⟩ := zrz_s h
  obtain rfl := h
  exact z_zret X H.1 (zn_z hz) H.2.1 H.2.2.1 dd_Search_next_123
set_option maxRecDepth 100000 in
set_option maxHeartbeats 4000000 in
theorem t_Search_next_2  (X : zX p s m args cd D cid B bb_Search_next 3 rr_Search zT) (H : zH s meth B n0 (some (.boolean)) "next") {nf : Nat} {x0 : Nat} {x1 : Int32} {c : Zc} {res : Int32 × Zc} (h : f_Search_next_2 nf x0 x1 c = some res) : Zz p l e (zRm 1 26 0 0) s m args below meth cd (MQ below (zQi D cid B res.1 res.2 n0 0) args s 0 0 (fun q => B ≤ q)) D cid B 3 0 0 c 2 [(0, .ref x0), (1, .int x1)] [] := by
  unfold f_Search_next_2 at h
  obtain ⟨b, eb, h⟩ := zb h
  refine zlp_ok (P := fun a : Nat × Int32 × Zc => Zz p l e (zRm 1 26 0 0) s m args below meth cd _ D cid B 3 0 0 a.2.2 2 [(0, .ref a.1), (1, .int a.2.1)] []) (G := fun b : (Zc) ⊕ (Zc) => Sum.elim (fun b => Zz p l e (zRm 1 26 0 0) s m args below meth cd _ D cid B 3 0 0 b 87 [] []) (fun b => Zz p l e (zRm 1 26 0 0) s m args below meth cd _ D cid B 3 0 0 b 122 [] []) b) (fun a r ha k0 k1 => u_Search_next_2 X H ha k0 k1) nf _ b eb ?_
  rcases b with b | b
  · simp only [Sum.elim_inl] at h ⊢
    refine z_iconst (v := 1) X dd_Search_next_87 (by decide) ?_
    obtain ⟨hz, h⟩ := zrz_s h
    obtain rfl := h
    exact z_zret X H.1 (zn_z hz) H.2.1 H.2.2.1 dd_Search_next_88
  · simp only [Sum.elim_inr] at h ⊢
    exact t_Search_next_122 X H h
set_option maxRecDepth 100000 in
set_option maxHeartbeats 4000000 in
theorem c_Search_next (l : Launch) {nf : Nat} {a0 : Nat} {c : Zc} {res : Int32 × Zc} (h : f_Search_next nf a0 c = some res) : zM l yy_Search_next ww_Search_next 1 26 0 0 [.ref a0] c (fun D cid B => zQi D cid B res.1 res.2 c.length 0) := by
  refine z_met (cc := bb_Search_next) (maxL := 3) (ret := (some (.boolean))) (by decide +kernel) rfl (Nat.le_of_ble_eq_true rfl) ?_
  intro p e s m args below meth cd D cid B X h1 h2 h3 h4
  have X : zX p s m args cd D cid B bb_Search_next 3 rr_Search zT := X
  have H : zH s meth B c.length (some (.boolean)) "next" := ⟨h1, h2, h4, h3⟩
  unfold f_Search_next at h
  show Zz p l e (zRm 1 26 0 0) s m args below meth cd _ D cid B 3 0 0 c 0 [(0, .ref a0)] []
  refine z_iconst (v := 0) X dd_Search_next_0 (by decide) ?_
  refine z_istore_n (lv' := [(1, .int 0), (0, .ref a0)]) X dd_Search_next_1 rfl (by decide) rfl ?_
  refine z_sub [1, 0] rfl ?_
  exact t_Search_next_2 X H h
theorem dd_Search_knownFit_0 : decode bb_Search_knownFit 0 = .ok (.aload_n 0, 1) := by decide +kernel
theorem dd_Search_knownFit_1 : decode bb_Search_knownFit 1 = .ok (.getfield 28, 3) := by decide +kernel
theorem dd_Search_knownFit_4 : decode bb_Search_knownFit 4 = .ok (.istore_n 2, 1) := by decide +kernel
theorem dd_Search_knownFit_5 : decode bb_Search_knownFit 5 = .ok (.iload_n 2, 1) := by decide +kernel
theorem dd_Search_knownFit_6 : decode bb_Search_knownFit 6 = .ok (.aload_n 0, 1) := by decide +kernel
theorem dd_Search_knownFit_7 : decode bb_Search_knownFit 7 = .ok (.getfield 31, 3) := by decide +kernel
theorem dd_Search_knownFit_10 : decode bb_Search_knownFit 10 = .ok (.if_icmp .ge 54, 3) := by decide +kernel
theorem dd_Search_knownFit_13 : decode bb_Search_knownFit 13 = .ok (.aload_n 0, 1) := by decide +kernel
theorem dd_Search_knownFit_14 : decode bb_Search_knownFit 14 = .ok (.getfield 44, 3) := by decide +kernel
theorem dd_Search_knownFit_17 : decode bb_Search_knownFit 17 = .ok (.getfield 89, 3) := by decide +kernel
theorem dd_Search_knownFit_20 : decode bb_Search_knownFit 20 = .ok (.iload_n 2, 1) := by decide +kernel
theorem dd_Search_knownFit_21 : decode bb_Search_knownFit 21 = .ok (.iaload, 1) := by decide +kernel
theorem dd_Search_knownFit_22 : decode bb_Search_knownFit 22 = .ok (.sipush 256, 3) := by decide +kernel
theorem dd_Search_knownFit_25 : decode bb_Search_knownFit 25 = .ok (.idiv, 1) := by decide +kernel
theorem dd_Search_knownFit_26 : decode bb_Search_knownFit 26 = .ok (.istore_n 3, 1) := by decide +kernel
theorem dd_Search_knownFit_27 : decode bb_Search_knownFit 27 = .ok (.iload_n 1, 1) := by decide +kernel
theorem dd_Search_knownFit_28 : decode bb_Search_knownFit 28 = .ok (.iload_n 3, 1) := by decide +kernel
theorem dd_Search_knownFit_29 : decode bb_Search_knownFit 29 = .ok (.ishr, 1) := by decide +kernel
theorem dd_Search_knownFit_30 : decode bb_Search_knownFit 30 = .ok (.iconst 1, 1) := by decide +kernel
theorem dd_Search_knownFit_31 : decode bb_Search_knownFit 31 = .ok (.iand, 1) := by decide +kernel
theorem dd_Search_knownFit_32 : decode bb_Search_knownFit 32 = .ok (.ifCond .eq 26, 3) := by decide +kernel
theorem dd_Search_knownFit_35 : decode bb_Search_knownFit 35 = .ok (.aload_n 0, 1) := by decide +kernel
theorem dd_Search_knownFit_36 : decode bb_Search_knownFit 36 = .ok (.getfield 44, 3) := by decide +kernel
theorem dd_Search_knownFit_39 : decode bb_Search_knownFit 39 = .ok (.getfield 92, 3) := by decide +kernel
theorem dd_Search_knownFit_42 : decode bb_Search_knownFit 42 = .ok (.iload_n 2, 1) := by decide +kernel
theorem dd_Search_knownFit_43 : decode bb_Search_knownFit 43 = .ok (.iaload, 1) := by decide +kernel
theorem dd_Search_knownFit_44 : decode bb_Search_knownFit 44 = .ok (.aload_n 0, 1) := by decide +kernel
theorem dd_Search_knownFit_45 : decode bb_Search_knownFit 45 = .ok (.getfield 48, 3) := by decide +kernel
theorem dd_Search_knownFit_48 : decode bb_Search_knownFit 48 = .ok (.iload_n 3, 1) := by decide +kernel
theorem dd_Search_knownFit_49 : decode bb_Search_knownFit 49 = .ok (.iaload, 1) := by decide +kernel
theorem dd_Search_knownFit_50 : decode bb_Search_knownFit 50 = .ok (.ishr, 1) := by decide +kernel
theorem dd_Search_knownFit_51 : decode bb_Search_knownFit 51 = .ok (.iconst 1, 1) := by decide +kernel
theorem dd_Search_knownFit_52 : decode bb_Search_knownFit 52 = .ok (.iand, 1) := by decide +kernel
theorem dd_Search_knownFit_53 : decode bb_Search_knownFit 53 = .ok (.ifCond .ne 5, 3) := by decide +kernel
theorem dd_Search_knownFit_56 : decode bb_Search_knownFit 56 = .ok (.iconst 0, 1) := by decide +kernel
theorem dd_Search_knownFit_57 : decode bb_Search_knownFit 57 = .ok (.ireturn, 1) := by decide +kernel
theorem dd_Search_knownFit_58 : decode bb_Search_knownFit 58 = .ok (.iinc 2 1, 3) := by decide +kernel
theorem dd_Search_knownFit_61 : decode bb_Search_knownFit 61 = .ok (.goto (-56), 3) := by decide +kernel
theorem dd_Search_knownFit_64 : decode bb_Search_knownFit 64 = .ok (.aload_n 0, 1) := by decide +kernel
theorem dd_Search_knownFit_65 : decode bb_Search_knownFit 65 = .ok (.getfield 21, 3) := by decide +kernel
theorem dd_Search_knownFit_68 : decode bb_Search_knownFit 68 = .ok (.istore_n 2, 1) := by decide +kernel
theorem dd_Search_knownFit_69 : decode bb_Search_knownFit 69 = .ok (.iload_n 2, 1) := by decide +kernel
theorem dd_Search_knownFit_70 : decode bb_Search_knownFit 70 = .ok (.aload_n 0, 1) := by decide +kernel
theorem dd_Search_knownFit_71 : decode bb_Search_knownFit 71 = .ok (.getfield 25, 3) := by decide +kernel
theorem dd_Search_knownFit_74 : decode bb_Search_knownFit 74 = .ok (.if_icmp .ge 80, 3) := by decide +kernel
theorem dd_Search_knownFit_77 : decode bb_Search_knownFit 77 = .ok (.aload_n 0, 1) := by decide +kernel
theorem dd_Search_knownFit_78 : decode bb_Search_knownFit 78 = .ok (.getfield 44, 3) := by decide +kernel
theorem dd_Search_knownFit_81 : decode bb_Search_knownFit 81 = .ok (.getfield 95, 3) := by decide +kernel
theorem dd_Search_knownFit_84 : decode bb_Search_knownFit 84 = .ok (.iload_n 2, 1) := by decide +kernel
theorem dd_Search_knownFit_85 : decode bb_Search_knownFit 85 = .ok (.aaload, 1) := by decide +kernel
theorem dd_Search_knownFit_86 : decode bb_Search_knownFit 86 = .ok (.astore_n 3, 1) := by decide +kernel
theorem dd_Search_knownFit_87 : decode bb_Search_knownFit 87 = .ok (.iload_n 1, 1) := by decide +kernel
theorem dd_Search_knownFit_88 : decode bb_Search_knownFit 88 = .ok (.aload_n 3, 1) := by decide +kernel
theorem dd_Search_knownFit_89 : decode bb_Search_knownFit 89 = .ok (.getfield 99, 3) := by decide +kernel
theorem dd_Search_knownFit_92 : decode bb_Search_knownFit 92 = .ok (.ishr, 1) := by decide +kernel
theorem dd_Search_knownFit_93 : decode bb_Search_knownFit 93 = .ok (.iload_n 1, 1) := by decide +kernel
theorem dd_Search_knownFit_94 : decode bb_Search_knownFit 94 = .ok (.aload_n 3, 1) := by decide +kernel
theorem dd_Search_knownFit_95 : decode bb_Search_knownFit 95 = .ok (.getfield 104, 3) := by decide +kernel
theorem dd_Search_knownFit_98 : decode bb_Search_knownFit 98 = .ok (.ishr, 1) := by decide +kernel
theorem dd_Search_knownFit_99 : decode bb_Search_knownFit 99 = .ok (.iand, 1) := by decide +kernel
theorem dd_Search_knownFit_100 : decode bb_Search_knownFit 100 = .ok (.iconst 1, 1) := by decide +kernel
theorem dd_Search_knownFit_101 : decode bb_Search_knownFit 101 = .ok (.iand, 1) := by decide +kernel
theorem dd_Search_knownFit_102 : decode bb_Search_knownFit 102 = .ok (.ifCond .eq 7, 3) := by decide +kernel
theorem dd_Search_knownFit_105 : decode bb_Search_knownFit 105 = .ok (.iconst 1, 1) := by decide +kernel
theorem dd_Search_knownFit_106 : decode bb_Search_knownFit 106 = .ok (.goto 4, 3) := by decide +kernel
theorem dd_Search_knownFit_109 : decode bb_Search_knownFit 109 = .ok (.iconst 0, 1) := by decide +kernel
theorem dd_Search_knownFit_110 : decode bb_Search_knownFit 110 = .ok (.istore 4, 2) := by decide +kernel
theorem dd_Search_knownFit_112 : decode bb_Search_knownFit 112 = .ok (.iload 4, 2) := by decide +kernel
theorem dd_Search_knownFit_114 : decode bb_Search_knownFit 114 = .ok (.ifCond .eq 34, 3) := by decide +kernel
theorem dd_Search_knownFit_117 : decode bb_Search_knownFit 117 = .ok (.aload_n 3, 1) := by decide +kernel
theorem dd_Search_knownFit_118 : decode bb_Search_knownFit 118 = .ok (.getfield 113, 3) := by decide +kernel
theorem dd_Search_knownFit_121 : decode bb_Search_knownFit 121 = .ok (.aload_n 0, 1) := by decide +kernel
theorem dd_Search_knownFit_122 : decode bb_Search_knownFit 122 = .ok (.getfield 48, 3) := by decide +kernel
theorem dd_Search_knownFit_125 : decode bb_Search_knownFit 125 = .ok (.aload_n 3, 1) := by decide +kernel
theorem dd_Search_knownFit_126 : decode bb_Search_knownFit 126 = .ok (.getfield 99, 3) := by decide +kernel
theorem dd_Search_knownFit_129 : decode bb_Search_knownFit 129 = .ok (.iaload, 1) := by decide +kernel
theorem dd_Search_knownFit_130 : decode bb_Search_knownFit 130 = .ok (.iaload, 1) := by decide +kernel
theorem dd_Search_knownFit_131 : decode bb_Search_knownFit 131 = .ok (.aload_n 0, 1) := by decide +kernel
theorem dd_Search_knownFit_132 : decode bb_Search_knownFit 132 = .ok (.getfield 48, 3) := by decide +kernel
theorem dd_Search_knownFit_135 : decode bb_Search_knownFit 135 = .ok (.aload_n 3, 1) := by decide +kernel
theorem dd_Search_knownFit_136 : decode bb_Search_knownFit 136 = .ok (.getfield 104, 3) := by decide +kernel
theorem dd_Search_knownFit_139 : decode bb_Search_knownFit 139 = .ok (.iaload, 1) := by decide +kernel
theorem dd_Search_knownFit_140 : decode bb_Search_knownFit 140 = .ok (.ishr, 1) := by decide +kernel
theorem dd_Search_knownFit_141 : decode bb_Search_knownFit 141 = .ok (.iconst 1, 1) := by decide +kernel
theorem dd_Search_knownFit_142 : decode bb_Search_knownFit 142 = .ok (.iand, 1) := by decide +kernel
theorem dd_Search_knownFit_143 : decode bb_Search_knownFit 143 = .ok (.ifCond .ne 5, 3) := by decide +kernel
theorem dd_Search_knownFit_146 : decode bb_Search_knownFit 146 = .ok (.iconst 0, 1) := by decide +kernel
theorem dd_Search_knownFit_147 : decode bb_Search_knownFit 147 = .ok (.ireturn, 1) := by decide +kernel
theorem dd_Search_knownFit_148 : decode bb_Search_knownFit 148 = .ok (.iinc 2 1, 3) := by decide +kernel
theorem dd_Search_knownFit_151 : decode bb_Search_knownFit 151 = .ok (.goto (-82), 3) := by decide +kernel
theorem dd_Search_knownFit_154 : decode bb_Search_knownFit 154 = .ok (.iconst 1, 1) := by decide +kernel
theorem dd_Search_knownFit_155 : decode bb_Search_knownFit 155 = .ok (.ireturn, 1) := by decide +kernel
set_option maxRecDepth 100000 in
set_option maxHeartbeats 4000000 in
theorem t_Search_knownFit_58  (X : zX p s m args cd D cid B bb_Search_knownFit 5 rr_Search zT) (H : zH s meth B n0 (some (.boolean)) "knownFit") {nf : Nat} {x0 : Nat} {x1 : Int32} {x2 : Int32} {c : Zc} {r : (Nat × Int32 × Int32 × Zc) ⊕ ((Zc) ⊕ (Nat × Int32 × Zc))} (h : f_Search_knownFit_58 nf x0 x1 x2 c = some r) (k0 : ∀ a, r = .inl a → (fun a : Nat × Int32 × Int32 × Zc => Zz p l e (zRm 0 0 0 0) s m args below meth cd Q D cid B 5 0 0 a.2.2.2 5 [(0, .ref a.1), (1, .int a.2.1), (2, .int a.2.2.1)] []) a) (k1 : ∀ b, r = .inr b → (fun b : (Zc) ⊕ (Nat × Int32 × Zc) => Sum.elim (fun b => Zz p l e (zRm 0 0 0 0) s m args below meth cd Q D cid B 5 0 0 b 56 [] []) (fun b => Zz p l e (zRm 0 0 0 0) s m args below meth cd Q D cid B 5 0 0 b.2.2 64 [(0, .ref b.1), (1, .int b.2.1)] []) b) b) : Zz p l e (zRm 0 0 0 0) s m args below meth cd Q D cid B 5 0 0 c 58 [(0, .ref x0), (1, .int x1), (2, .int x2)] [] := by
  unfold f_Search_knownFit_58 at h
  refine z_iinc (v := (x2 + 1)) (lv' := [(2, .int (x2 + 1)), (0, .ref x0), (1, .int x1)]) X dd_Search_knownFit_58 2 rfl rfl (by decide) rfl ?_
  refine z_goto (tgt := 5) X dd_Search_knownFit_61 (by decide) ?_
  refine z_sub [1, 2, 0] rfl ?_
  obtain rfl := Option.some.inj h
  exact k0 _ rfl
set_option maxRecDepth 100000 in
set_option maxHeartbeats 4000000 in
theorem u_Search_knownFit_5  (X : zX p s m args cd D cid B bb_Search_knownFit 5 rr_Search zT) (H : zH s meth B n0 (some (.boolean)) "knownFit") {nf : Nat} {x0 : Nat} {x1 : Int32} {x2 : Int32} {c : Zc} {r : (Nat × Int32 × Int32 × Zc) ⊕ ((Zc) ⊕ (Nat × Int32 × Zc))} (h : g_Search_knownFit_5 nf x0 x1 x2 c = some r) (k0 : ∀ a, r = .inl a → (fun a : Nat × Int32 × Int32 × Zc => Zz p l e (zRm 0 0 0 0) s m args below meth cd Q D cid B 5 0 0 a.2.2.2 5 [(0, .ref a.1), (1, .int a.2.1), (2, .int a.2.2.1)] []) a) (k1 : ∀ b, r = .inr b → (fun b : (Zc) ⊕ (Nat × Int32 × Zc) => Sum.elim (fun b => Zz p l e (zRm 0 0 0 0) s m args below meth cd Q D cid B 5 0 0 b 56 [] []) (fun b => Zz p l e (zRm 0 0 0 0) s m args below meth cd Q D cid B 5 0 0 b.2.2 64 [(0, .ref b.1), (1, .int b.2.1)] []) b) b) : Zz p l e (zRm 0 0 0 0) s m args below meth cd Q D cid B 5 0 0 c 5 [(0, .ref x0), (1, .int x1), (2, .int x2)] [] := by
  unfold g_Search_knownFit_5 at h
  refine z_iload_n X dd_Search_knownFit_5 rfl 2 rfl ?_
  refine z_aload_n X dd_Search_knownFit_6 rfl 0 rfl ?_
  obtain ⟨v2, ev2, h⟩ := zb h
  refine z_get (j := 9) X dd_Search_knownFit_7 kc_6 ki_6 (by decide) km_556 (zgi_v ev2) ?_
  refine z_icmp_ge (tgt := 64) X dd_Search_knownFit_10 (by decide) (fun q3 => ?_) (fun q3 => ?_)
  · rw [if_pos q3] at h
    refine z_sub [0, 1] rfl ?_
    obtain rfl := Option.some.inj h
    exact k1 _ rfl
  · rw [if_neg q3] at h
    refine z_aload_n X dd_Search_knownFit_13 rfl 0 rfl ?_
    obtain ⟨v4, ev4, h⟩ := zb h
    refine z_get (j := 5) X dd_Search_knownFit_14 kc_6 ki_6 (by decide) km_552 (zgr_v ev4) ?_
    obtain ⟨v5, ev5, h⟩ := zb h
    refine z_get (j := 6) X dd_Search_knownFit_17 kc_2 ki_2 (by decide) km_323 (zgr_v ev5) ?_
    refine z_iload_n X dd_Search_knownFit_20 rfl 2 rfl ?_
    obtain ⟨v6, ev6, h⟩ := zb h
    refine z_iaload X dd_Search_knownFit_21 rfl ev6 ?_
    refine z_sipush (v := 256) X dd_Search_knownFit_22 (by decide) ?_
    refine z_idiv X dd_Search_knownFit_25 (by decide) ?_
    refine z_istore_n (lv' := [(3, .int (v6 / 256)), (0, .ref x0), (1, .int x1), (2, .int x2)]) X dd_Search_knownFit_26 rfl (by decide) rfl ?_
    refine z_iload_n X dd_Search_knownFit_27 rfl 2 rfl ?_
    refine z_iload_n X dd_Search_knownFit_28 rfl 0 rfl ?_
    refine z_ishr X dd_Search_knownFit_29 ?_
    refine z_iconst (v := 1) X dd_Search_knownFit_30 (by decide) ?_
    refine z_iand X dd_Search_knownFit_31 ?_
    refine z_if_eq (tgt := 58) X dd_Search_knownFit_32 (by decide) (fun q8 => ?_) (fun q8 => ?_)
    · rw [if_pos q8] at h
      refine z_sub [1, 2, 3] rfl ?_
      exact t_Search_knownFit_58 X H h k0 k1
    · rw [if_neg q8] at h
      refine z_aload_n X dd_Search_knownFit_35 rfl 1 rfl ?_
      obtain ⟨v9, ev9, h⟩ := zb h
      refine z_get (j := 5) X dd_Search_knownFit_36 kc_6 ki_6 (by decide) km_552 (zgr_v ev9) ?_
      obtain ⟨v10, ev10, h⟩ := zb h
      refine z_get (j := 7) X dd_Search_knownFit_39 kc_2 ki_2 (by decide) km_326 (zgr_v ev10) ?_
      refine z_iload_n X dd_Search_knownFit_42 rfl 3 rfl ?_
      obtain ⟨v11, ev11, h⟩ := zb h
      refine z_iaload X dd_Search_knownFit_43 rfl ev11 ?_
      refine z_aload_n X dd_Search_knownFit_44 rfl 1 rfl ?_
      obtain ⟨v12, ev12, h⟩ := zb h
      refine z_get (j := 1) X dd_Search_knownFit_45 kc_6 ki_6 (by decide) km_548 (zgr_v ev12) ?_
      refine z_iload_n X dd_Search_knownFit_48 rfl 0 rfl ?_
      obtain ⟨v13, ev13, h⟩ := zb h
      refine z_iaload X dd_Search_knownFit_49 rfl ev13 ?_
      refine z_ishr X dd_Search_knownFit_50 ?_
      refine z_iconst (v := 1) X dd_Search_knownFit_51 (by decide) ?_
      refine z_iand X dd_Search_knownFit_52 ?_
      refine z_if_ne (tgt := 58) X dd_Search_knownFit_53 (by decide) (fun q14 => ?_) (fun q14 => ?_)
      · rw [if_neg q14] at h
        refine z_sub [1, 2, 3] rfl ?_
        exact t_Search_knownFit_58 X H h k0 k1
      · rw [if_pos q14] at h
        refine z_sub [] rfl ?_
        obtain rfl := Option.some.inj h
        exact k1 _ rfl
set_option maxRecDepth 100000 in
set_option maxHeartbeats 4000000 in
theorem t_Search_knownFit_148  (X : zX p s m args cd D cid B bb_Search_knownFit 5 rr_Search zT) (H : zH s meth B n0 (some (.boolean)) "knownFit") {nf : Nat} {x0 : Nat} {x1 : Int32} {x2 : Int32} {c : Zc} {r : (Nat × Int32 × Int32 × Zc) ⊕ ((Zc) ⊕ (Zc))} (h : f_Search_knownFit_148 nf x0 x1 x2 c = some r) (k0 : ∀ a, r = .inl a → (fun a : Nat × Int32 × Int32 × Zc => Zz p l e (zRm 0 0 0 0) s m args below meth cd Q D cid B 5 0 0 a.2.2.2 69 [(0, .ref a.1), (1, .int a.2.1), (2, .int a.2.2.1)] []) a) (k1 : ∀ b, r = .inr b → (fun b : (Zc) ⊕ (Zc) => Sum.elim (fun b => Zz p l e (zRm 0 0 0 0) s m args below meth cd Q D cid B 5 0 0 b 146 [] []) (fun b => Zz p l e (zRm 0 0 0 0) s m args below meth cd Q D cid B 5 0 0 b 154 [] []) b) b) : Zz p l e (zRm 0 0 0 0) s m args below meth cd Q D cid B 5 0 0 c 148 [(0, .ref x0), (1, .int x1), (2, .int x2)] [] := by
  unfold f_Search_knownFit_148 at h
  refine z_iinc (v := (x2 + 1)) (lv' := [(2, .int (x2 + 1)), (0, .ref x0), (1, .int x1)]) X dd_Search_knownFit_148 2 rfl rfl (by decide) rfl ?_
  refine z_goto (tgt := 69) X dd_Search_knownFit_151 (by decide) ?_
  refine z_sub [1, 2, 0] rfl ?_
  obtain rfl := Option.some.inj h
  exact k0 _ rfl
set_option maxRecDepth 100000 in
set_option maxHeartbeats 4000000 in
theorem t_Search_knownFit_110  (X : zX p s m args cd D cid B bb_Search_knownFit 5 rr_Search zT) (H : zH s meth B n0 (some (.boolean)) "knownFit") {nf : Nat} {x0 : Nat} {x1 : Int32} {x2 : Int32} {x3 : Nat} {s0 : Int32} {c : Zc} {r : (Nat × Int32 × Int32 × Zc) ⊕ ((Zc) ⊕ (Zc))} (h : f_Search_knownFit_110 nf x0 x1 x2 x3 s0 c = some r) (k0 : ∀ a, r = .inl a → (fun a : Nat × Int32 × Int32 × Zc => Zz p l e (zRm 0 0 0 0) s m args below meth cd Q D cid B 5 0 0 a.2.2.2 69 [(0, .ref a.1), (1, .int a.2.1), (2, .int a.2.2.1)] []) a) (k1 : ∀ b, r = .inr b → (fun b : (Zc) ⊕ (Zc) => Sum.elim (fun b => Zz p l e (zRm 0 0 0 0) s m args below meth cd Q D cid B 5 0 0 b 146 [] []) (fun b => Zz p l e (zRm 0 0 0 0) s m args below meth cd Q D cid B 5 0 0 b 154 [] []) b) b) : Zz p l e (zRm 0 0 0 0) s m args below meth cd Q D cid B 5 0 0 c 110 [(0, .ref x0), (1, .int x1), (2, .int x2), (3, .ref x3)] [.int s0] := by
  unfold f_Search_knownFit_110 at h
  refine z_istore (lv' := [(4, .int s0), (0, .ref x0), (1, .int x1), (2, .int x2), (3, .ref x3)]) X dd_Search_knownFit_110 (by decide) rfl ?_
  refine z_iload X dd_Search_knownFit_112 0 rfl ?_
  refine z_if_eq (tgt := 148) X dd_Search_knownFit_114 (by decide) (fun q24 => ?_) (fun q24 => ?_)
  · rw [if_pos q24] at h
    refine z_sub [1, 2, 3] rfl ?_
    exact t_Search_knownFit_148 X H h k0 k1
  · rw [if_neg q24] at h
    refine z_aload_n X dd_Search_knownFit_117 rfl 4 rfl ?_
    obtain ⟨v25, ev25, h⟩ := zb h
    refine z_get (j := 14) X dd_Search_knownFit_118 kc_1 ki_1 (by decide) km_251 (zgr_v ev25) ?_
    refine z_aload_n X dd_Search_knownFit_121 rfl 1 rfl ?_
    obtain ⟨v26, ev26, h⟩ := zb h
    refine z_get (j := 1) X dd_Search_knownFit_122 kc_6 ki_6 (by decide) km_548 (zgr_v ev26) ?_
    refine z_aload_n X dd_Search_knownFit_125 rfl 4 rfl ?_
    obtain ⟨v27, ev27, h⟩ := zb h
    refine z_get (j := 0) X dd_Search_knownFit_126 kc_1 ki_1 (by decide) km_223 (zgi_v ev27) ?_
    obtain ⟨v28, ev28, h⟩ := zb h
    refine z_iaload X dd_Search_knownFit_129 rfl ev28 ?_
    obtain ⟨v29, ev29, h⟩ := zb h
    refine z_iaload X dd_Search_knownFit_130 rfl ev29 ?_
    refine z_aload_n X dd_Search_knownFit_131 rfl 1 rfl ?_
    obtain ⟨v30, ev30, h⟩ := zb h
    refine z_get (j := 1) X dd_Search_knownFit_132 kc_6 ki_6 (by decide) km_548 (zgr_v ev30) ?_
    refine z_aload_n X dd_Search_knownFit_135 rfl 4 rfl ?_
    obtain ⟨v31, ev31, h⟩ := zb h
    refine z_get (j := 1) X dd_Search_knownFit_136 kc_1 ki_1 (by decide) km_226 (zgi_v ev31) ?_
    obtain ⟨v32, ev32, h⟩ := zb h
    refine z_iaload X dd_Search_knownFit_139 rfl ev32 ?_
    refine z_ishr X dd_Search_knownFit_140 ?_
    refine z_iconst (v := 1) X dd_Search_knownFit_141 (by decide) ?_
    refine z_iand X dd_Search_knownFit_142 ?_
    refine z_if_ne (tgt := 148) X dd_Search_knownFit_143 (by decide) (fun q33 => ?_) (fun q33 => ?_)
    · rw [if_neg q33] at h
      refine z_sub [1, 2, 3] rfl ?_
      exact t_Search_knownFit_148 X H h k0 k1
    · rw [if_pos q33] at h
      refine z_sub [] rfl ?_
      obtain rfl := Option.some.inj h
      exact k1 _ rfl
set_option maxRecDepth 100000 in
set_option maxHeartbeats 4000000 in
theorem u_Search_knownFit_69  (X : zX p s m args cd D cid B bb_Search_knownFit 5 rr_Search zT) (H : zH s meth B n0 (some (.boolean)) "knownFit") {nf : Nat} {x0 : Nat} {x1 : Int32} {x2 : Int32} {c : Zc} {r : (Nat × Int32 × Int32 × Zc) ⊕ ((Zc) ⊕ (Zc))} (h : g_Search_knownFit_69 nf x0 x1 x2 c = some r) (k0 : ∀ a, r = .inl a → (fun a : Nat × Int32 × Int32 × Zc => Zz p l e (zRm 0 0 0 0) s m args below meth cd Q D cid B 5 0 0 a.2.2.2 69 [(0, .ref a.1), (1, .int a.2.1), (2, .int a.2.2.1)] []) a) (k1 : ∀ b, r = .inr b → (fun b : (Zc) ⊕ (Zc) => Sum.elim (fun b => Zz p l e (zRm 0 0 0 0) s m args below meth cd Q D cid B 5 0 0 b 146 [] []) (fun b => Zz p l e (zRm 0 0 0 0) s m args below meth cd Q D cid B 5 0 0 b 154 [] []) b) b) : Zz p l e (zRm 0 0 0 0) s m args below meth cd Q D cid B 5 0 0 c 69 [(0, .ref x0), (1, .int x1), (2, .int x2)] [] := by
  unfold g_Search_knownFit_69 at h
  refine z_iload_n X dd_Search_knownFit_69 rfl 2 rfl ?_
  refine z_aload_n X dd_Search_knownFit_70 rfl 0 rfl ?_
  obtain ⟨v16, ev16, h⟩ := zb h
  refine z_get (j := 7) X dd_Search_knownFit_71 kc_6 ki_6 (by decide) km_554 (zgi_v ev16) ?_
  refine z_icmp_ge (tgt := 154) X dd_Search_knownFit_74 (by decide) (fun q17 => ?_) (fun q17 => ?_)
  · rw [if_pos q17] at h
    refine z_sub [] rfl ?_
    obtain rfl := Option.some.inj h
    exact k1 _ rfl
  · rw [if_neg q17] at h
    refine z_aload_n X dd_Search_knownFit_77 rfl 0 rfl ?_
    obtain ⟨v18, ev18, h⟩ := zb h
    refine z_get (j := 5) X dd_Search_knownFit_78 kc_6 ki_6 (by decide) km_552 (zgr_v ev18) ?_
    obtain ⟨v19, ev19, h⟩ := zb h
    refine z_get (j := 4) X dd_Search_knownFit_81 kc_2 ki_2 (by decide) km_316 (zgr_v ev19) ?_
    refine z_iload_n X dd_Search_knownFit_84 rfl 2 rfl ?_
    obtain ⟨v20, ev20, h⟩ := zb h
    refine z_aaload X dd_Search_knownFit_85 rfl ev20 ?_
    refine z_astore_n (lv' := [(3, .ref v20), (0, .ref x0), (1, .int x1), (2, .int x2)]) X dd_Search_knownFit_86 rfl (by decide) rfl ?_
    refine z_iload_n X dd_Search_knownFit_87 rfl 2 rfl ?_
    refine z_aload_n X dd_Search_knownFit_88 rfl 0 rfl ?_
    obtain ⟨v21, ev21, h⟩ := zb h
    refine z_get (j := 0) X dd_Search_knownFit_89 kc_1 ki_1 (by decide) km_223 (zgi_v ev21) ?_
    refine z_ishr X dd_Search_knownFit_92 ?_
    refine z_iload_n X dd_Search_knownFit_93 rfl 2 rfl ?_
    refine z_aload_n X dd_Search_knownFit_94 rfl 0 rfl ?_
    obtain ⟨v22, ev22, h⟩ := zb h
    refine z_get (j := 1) X dd_Search_knownFit_95 kc_1 ki_1 (by decide) km_226 (zgi_v ev22) ?_
    refine z_ishr X dd_Search_knownFit_98 ?_
    refine z_iand X dd_Search_knownFit_99 ?_
    refine z_iconst (v := 1) X dd_Search_knownFit_100 (by decide) ?_
    refine z_iand X dd_Search_knownFit_101 ?_
    refine z_if_eq (tgt := 109) X dd_Search_knownFit_102 (by decide) (fun q23 => ?_) (fun q23 => ?_)
    · rw [if_pos q23] at h
      refine z_iconst (v := 0) X dd_Search_knownFit_109 (by decide) ?_
      refine z_sub [1, 2, 3, 0] rfl ?_
      exact t_Search_knownFit_110 X H h k0 k1
    · rw [if_neg q23] at h
      refine z_iconst (v := 1) X dd_Search_knownFit_105 (by decide) ?_
      refine z_goto (tgt := 110) X dd_Search_knownFit_106 (by decide) ?_
      refine z_sub [1, 2, 3, 0] rfl ?_
      exact t_Search_knownFit_110 X H h k0 k1
set_option maxRecDepth 100000 in
set_option maxHeartbeats 4000000 in
theorem t_Search_knownFit_69  (X : zX p s m args cd D cid B bb_Search_knownFit 5 rr_Search zT) (H : zH s meth B n0 (some (.boolean)) "knownFit") {nf : Nat} {x0 : Nat} {x1 : Int32} {x2 : Int32} {c : Zc} {res : Int32 × Zc} (h : f_Search_knownFit_69 nf x0 x1 x2 c = some res) : Zz p l e (zRm 0 0 0 0) s m args below meth cd (MQ below (zQi D cid B res.1 res.2 n0 0) args s 0 0 (fun q => B ≤ q)) D cid B 5 0 0 c 69 [(0, .ref x0), (1, .int x1), (2, .int x2)] [] := by
  unfold f_Search_knownFit_69 at h
  obtain ⟨b, eb, h⟩ := zb h
  refine zlp_ok (P := fun a : Nat × Int32 × Int32 × Zc => Zz p l e (zRm 0 0 0 0) s m args below meth cd _ D cid B 5 0 0 a.2.2.2 69 [(0, .ref a.1), (1, .int a.2.1), (2, .int a.2.2.1)] []) (G := fun b : (Zc) ⊕ (Zc) => Sum.elim (fun b => Zz p l e (zRm 0 0 0 0) s m args below meth cd _ D cid B 5 0 0 b 146 [] []) (fun b => Zz p l e (zRm 0 0 0 0) s m args below meth cd _ D cid B 5 0 0 b 154 [] []) b) (fun a r ha k0 k1 => u_Search_knownFit_69 X H ha k0 k1) nf _ b eb ?_
  rcases b with b | b
  · simp only [Sum.elim_inl] at h ⊢
    refine z_iconst (v := 0) X dd_Search_knownFit_146 (by decide) ?_
    obtain ⟨hz, h⟩ := zrz_s h
    obtain rfl := h
    exact z_zret X H.1 (zn_z hz) H.2.1 H.2.2.1 dd_Search_knownFit_147
  · simp only [Sum.elim_inr] at h ⊢
    refine z_iconst (v := 1) X dd_Search_knownFit_154 (by decide) ?_
    obtain ⟨hz, h⟩ := zrz_s h
    obtain rfl := h
    exact z_zret X H.1 (zn_z hz) H.2.1 H.2.2.1 dd_Search_knownFit_155
set_option maxRecDepth 100000 in
set_option maxHeartbeats 4000000 in
theorem t_Search_knownFit_5  (X : zX p s m args cd D cid B bb_Search_knownFit 5 rr_Search zT) (H : zH s meth B n0 (some (.boolean)) "knownFit") {nf : Nat} {x0 : Nat} {x1 : Int32} {x2 : Int32} {c : Zc} {res : Int32 × Zc} (h : f_Search_knownFit_5 nf x0 x1 x2 c = some res) : Zz p l e (zRm 0 0 0 0) s m args below meth cd (MQ below (zQi D cid B res.1 res.2 n0 0) args s 0 0 (fun q => B ≤ q)) D cid B 5 0 0 c 5 [(0, .ref x0), (1, .int x1), (2, .int x2)] [] := by
  unfold f_Search_knownFit_5 at h
  obtain ⟨b, eb, h⟩ := zb h
  refine zlp_ok (P := fun a : Nat × Int32 × Int32 × Zc => Zz p l e (zRm 0 0 0 0) s m args below meth cd _ D cid B 5 0 0 a.2.2.2 5 [(0, .ref a.1), (1, .int a.2.1), (2, .int a.2.2.1)] []) (G := fun b : (Zc) ⊕ (Nat × Int32 × Zc) => Sum.elim (fun b => Zz p l e (zRm 0 0 0 0) s m args below meth cd _ D cid B 5 0 0 b 56 [] []) (fun b => Zz p l e (zRm 0 0 0 0) s m args below meth cd _ D cid B 5 0 0 b.2.2 64 [(0, .ref b.1), (1, .int b.2.1)] []) b) (fun a r ha k0 k1 => u_Search_knownFit_5 X H ha k0 k1) nf _ b eb ?_
  rcases b with b | b
  · simp only [Sum.elim_inl] at h ⊢
    refine z_iconst (v := 0) X dd_Search_knownFit_56 (by decide) ?_
    obtain ⟨hz, h⟩ := zrz_s h
    obtain rfl := h
    exact z_zret X H.1 (zn_z hz) H.2.1 H.2.2.1 dd_Search_knownFit_57
  · simp only [Sum.elim_inr] at h ⊢
    refine z_aload_n X dd_Search_knownFit_64 rfl 0 rfl ?_
    obtain ⟨v15, ev15, h⟩ := zb h
    refine z_get (j := 6) X dd_Search_knownFit_65 kc_6 ki_6 (by decide) km_553 (zgi_v ev15) ?_
    refine z_istore_n (lv' := [(2, .int v15), (0, .ref b.1), (1, .int b.2.1)]) X dd_Search_knownFit_68 rfl (by decide) rfl ?_
    refine z_sub [1, 2, 0] rfl ?_
    exact t_Search_knownFit_69 X H h
set_option maxRecDepth 100000 in
set_option maxHeartbeats 4000000 in
theorem c_Search_knownFit (l : Launch) {nf : Nat} {a0 : Nat} {a1 : Int32} {c : Zc} {res : Int32 × Zc} (h : f_Search_knownFit nf a0 a1 c = some res) : zM l yy_Search_knownFit ww_Search_knownFit 0 0 0 0 [.ref a0, .int a1] c (fun D cid B => zQi D cid B res.1 res.2 c.length 0) := by
  refine z_met (cc := bb_Search_knownFit) (maxL := 5) (ret := (some (.boolean))) (by decide +kernel) rfl (Nat.le_of_ble_eq_true rfl) ?_
  intro p e s m args below meth cd D cid B X h1 h2 h3 h4
  have X : zX p s m args cd D cid B bb_Search_knownFit 5 rr_Search zT := X
  have H : zH s meth B c.length (some (.boolean)) "knownFit" := ⟨h1, h2, h4, h3⟩
  unfold f_Search_knownFit at h
  show Zz p l e (zRm 0 0 0 0) s m args below meth cd _ D cid B 5 0 0 c 0 [(0, .ref a0), (1, .int a1)] []
  refine z_aload_n X dd_Search_knownFit_0 rfl 0 rfl ?_
  obtain ⟨v1, ev1, h⟩ := zb h
  refine z_get (j := 8) X dd_Search_knownFit_1 kc_6 ki_6 (by decide) km_555 (zgi_v ev1) ?_
  refine z_istore_n (lv' := [(2, .int v1), (0, .ref a0), (1, .int a1)]) X dd_Search_knownFit_4 rfl (by decide) rfl ?_
  refine z_sub [1, 2, 0] rfl ?_
  exact t_Search_knownFit_5 X H h
theorem dd_Search_fits_0 : decode bb_Search_fits 0 = .ok (.aload_n 0, 1) := by decide +kernel
theorem dd_Search_fits_1 : decode bb_Search_fits 1 = .ok (.aload_n 1, 1) := by decide +kernel
theorem dd_Search_fits_2 : decode bb_Search_fits 2 = .ok (.iload_n 2, 1) := by decide +kernel
theorem dd_Search_fits_3 : decode bb_Search_fits 3 = .ok (.invokevirtual 72, 3) := by decide +kernel
theorem dd_Search_fits_6 : decode bb_Search_fits 6 = .ok (.aload_n 0, 1) := by decide +kernel
theorem dd_Search_fits_7 : decode bb_Search_fits 7 = .ok (.aload_n 1, 1) := by decide +kernel
theorem dd_Search_fits_8 : decode bb_Search_fits 8 = .ok (.getfield 59, 3) := by decide +kernel
theorem dd_Search_fits_11 : decode bb_Search_fits 11 = .ok (.iconst 0, 1) := by decide +kernel
theorem dd_Search_fits_12 : decode bb_Search_fits 12 = .ok (.iaload, 1) := by decide +kernel
theorem dd_Search_fits_13 : decode bb_Search_fits 13 = .ok (.invokevirtual 76, 3) := by decide +kernel
theorem dd_Search_fits_16 : decode bb_Search_fits 16 = .ok (.ifCond .eq 21, 3) := by decide +kernel
theorem dd_Search_fits_19 : decode bb_Search_fits 19 = .ok (.aload_n 0, 1) := by decide +kernel
theorem dd_Search_fits_20 : decode bb_Search_fits 20 = .ok (.getfield 34, 3) := by decide +kernel
theorem dd_Search_fits_23 : decode bb_Search_fits 23 = .ok (.ifCond .eq 10, 3) := by decide +kernel
theorem dd_Search_fits_26 : decode bb_Search_fits 26 = .ok (.aload_n 0, 1) := by decide +kernel
theorem dd_Search_fits_27 : decode bb_Search_fits 27 = .ok (.invokevirtual 80, 3) := by decide +kernel
theorem dd_Search_fits_30 : decode bb_Search_fits 30 = .ok (.ifCond .eq 7, 3) := by decide +kernel
theorem dd_Search_fits_33 : decode bb_Search_fits 33 = .ok (.iconst 1, 1) := by decide +kernel
theorem dd_Search_fits_34 : decode bb_Search_fits 34 = .ok (.goto 4, 3) := by decide +kernel
theorem dd_Search_fits_37 : decode bb_Search_fits 37 = .ok (.iconst 0, 1) := by decide +kernel
theorem dd_Search_fits_38 : decode bb_Search_fits 38 = .ok (.ireturn, 1) := by decide +kernel
set_option maxRecDepth 100000 in
set_option maxHeartbeats 4000000 in
theorem t_Search_fits_38  (X : zX p s m args cd D cid B bb_Search_fits 3 rr_Search zT) (H : zH s meth B n0 (some (.boolean)) "fits") {nf : Nat} {s0 : Int32} {c : Zc} {res : Int32 × Zc} (h : f_Search_fits_38 nf s0 c = some res) : Zz p l e (zRm 2 50 0 0) s m args below meth cd (MQ below (zQi D cid B res.1 res.2 n0 0) args s 0 0 (fun q => B ≤ q)) D cid B 3 0 0 c 38 [] [.int s0] := by
  unfold f_Search_fits_38 at h
  obtain ⟨hz, h⟩ := zrz_s h
  obtain rfl := h
  exact z_zret X H.1 (zn_z hz) H.2.1 H.2.2.1 dd_Search_fits_38
set_option maxRecDepth 100000 in
set_option maxHeartbeats 4000000 in
theorem t_Search_fits_37  (X : zX p s m args cd D cid B bb_Search_fits 3 rr_Search zT) (H : zH s meth B n0 (some (.boolean)) "fits") {nf : Nat}  {c : Zc} {res : Int32 × Zc} (h : f_Search_fits_37 nf  c = some res) : Zz p l e (zRm 2 50 0 0) s m args below meth cd (MQ below (zQi D cid B res.1 res.2 n0 0) args s 0 0 (fun q => B ≤ q)) D cid B 3 0 0 c 37 [] [] := by
  unfold f_Search_fits_37 at h
  refine z_iconst (v := 0) X dd_Search_fits_37 (by decide) ?_
  exact t_Search_fits_38 X H h
set_option maxRecDepth 100000 in
set_option maxHeartbeats 4000000 in
theorem t_Search_fits_33  (X : zX p s m args cd D cid B bb_Search_fits 3 rr_Search zT) (H : zH s meth B n0 (some (.boolean)) "fits") {nf : Nat}  {c : Zc} {res : Int32 × Zc} (h : f_Search_fits_33 nf  c = some res) : Zz p l e (zRm 2 50 0 0) s m args below meth cd (MQ below (zQi D cid B res.1 res.2 n0 0) args s 0 0 (fun q => B ≤ q)) D cid B 3 0 0 c 33 [] [] := by
  unfold f_Search_fits_33 at h
  refine z_iconst (v := 1) X dd_Search_fits_33 (by decide) ?_
  refine z_goto (tgt := 38) X dd_Search_fits_34 (by decide) ?_
  exact t_Search_fits_38 X H h
set_option maxRecDepth 100000 in
set_option maxHeartbeats 4000000 in
theorem c_Search_fits (l : Launch) {nf : Nat} {a0 : Nat} {a1 : Nat} {a2 : Int32} {c : Zc} {res : Int32 × Zc} (h : f_Search_fits nf a0 a1 a2 c = some res) : zM l yy_Search_fits ww_Search_fits 2 50 0 0 [.ref a0, .ref a1, .int a2] c (fun D cid B => zQi D cid B res.1 res.2 c.length 0) := by
  refine z_met (cc := bb_Search_fits) (maxL := 3) (ret := (some (.boolean))) (by decide +kernel) rfl (Nat.le_of_ble_eq_true rfl) ?_
  intro p e s m args below meth cd D cid B X h1 h2 h3 h4
  have X : zX p s m args cd D cid B bb_Search_fits 3 rr_Search zT := X
  have H : zH s meth B c.length (some (.boolean)) "fits" := ⟨h1, h2, h4, h3⟩
  unfold f_Search_fits at h
  show Zz p l e (zRm 2 50 0 0) s m args below meth cd _ D cid B 3 0 0 c 0 [(0, .ref a0), (1, .ref a1), (2, .int a2)] []
  refine z_aload_n X dd_Search_fits_0 rfl 0 rfl ?_
  refine z_aload_n X dd_Search_fits_1 rfl 1 rfl ?_
  refine z_iload_n X dd_Search_fits_2 rfl 2 rfl ?_
  obtain ⟨w2, ew2, h⟩ := zb h
  obtain ⟨q1, eq1, h⟩ := zb h
  refine z_callVv X [.ref a1, .int a2] rfl dd_Search_fits_3 (c_Search_begin l eq1) (cwV 2 X.1.2.2.2.2 (zg_V km_1358 km_1329 km_1330 km_134 km_1331) rfl rfl rfl (by decide +kernel) ⟨Nat.le_of_ble_eq_true rfl, Nat.le_of_ble_eq_true rfl⟩) (zob_s ew2) kc_6 rfl (Nat.le_of_ble_eq_true rfl) ⟨Nat.le_of_ble_eq_true rfl, Nat.le_of_ble_eq_true rfl⟩ ?_
  refine z_aload_n X dd_Search_fits_6 rfl 0 rfl ?_
  refine z_aload_n X dd_Search_fits_7 rfl 1 rfl ?_
  obtain ⟨v3, ev3, h⟩ := zb h
  refine z_get (j := 9) X dd_Search_fits_8 kc_2 ki_2 (by decide) km_330 (zgr_v ev3) ?_
  refine z_iconst (v := 0) X dd_Search_fits_11 (by decide) ?_
  obtain ⟨v4, ev4, h⟩ := zb h
  refine z_iaload X dd_Search_fits_12 rfl ev4 ?_
  obtain ⟨w6, ew6, h⟩ := zb h
  obtain ⟨q5, eq5, h⟩ := zb h
  refine z_callVi X [.int v4] rfl dd_Search_fits_13 (c_Search_knownFit l eq5) (cwV 1 X.1.2.2.2.2 (zg_V km_1359 km_1361 km_52 km_134 km_1362) rfl rfl rfl (by decide +kernel) ⟨Nat.le_of_ble_eq_true rfl, Nat.le_of_ble_eq_true rfl⟩) (zob_s ew6) kc_6 rfl (Nat.le_of_ble_eq_true rfl) ⟨Nat.le_of_ble_eq_true rfl, Nat.le_of_ble_eq_true rfl⟩ ?_
  refine z_if_eq (tgt := 37) X dd_Search_fits_16 (by decide) (fun q7 => ?_) (fun q7 => ?_)
  · rw [if_pos q7] at h
    refine z_sub [] rfl ?_
    exact t_Search_fits_37 X H h
  · rw [if_neg q7] at h
    refine z_aload_n X dd_Search_fits_19 rfl 0 rfl ?_
    obtain ⟨v8, ev8, h⟩ := zb h
    refine z_get (j := 10) X dd_Search_fits_20 kc_6 ki_6 (by decide) km_557 (zgi_v ev8) ?_
    refine z_if_eq (tgt := 33) X dd_Search_fits_23 (by decide) (fun q9 => ?_) (fun q9 => ?_)
    · rw [if_pos q9] at h
      refine z_sub [] rfl ?_
      exact t_Search_fits_33 X H h
    · rw [if_neg q9] at h
      refine z_aload_n X dd_Search_fits_26 rfl 0 rfl ?_
      obtain ⟨w11, ew11, h⟩ := zb h
      obtain ⟨q10, eq10, h⟩ := zb h
      refine z_callVi X [] rfl dd_Search_fits_27 (c_Search_next l eq10) (cwV 0 X.1.2.2.2.2 (zg_V km_1363 km_1342 km_1343 km_134 km_1344) rfl rfl rfl (by decide +kernel) ⟨Nat.le_of_ble_eq_true rfl, Nat.le_of_ble_eq_true rfl⟩) (zob_s ew11) kc_6 rfl (Nat.le_of_ble_eq_true rfl) ⟨Nat.le_of_ble_eq_true rfl, Nat.le_of_ble_eq_true rfl⟩ ?_
      refine z_if_eq (tgt := 37) X dd_Search_fits_30 (by decide) (fun q12 => ?_) (fun q12 => ?_)
      · rw [if_pos q12] at h
        refine z_sub [] rfl ?_
        exact t_Search_fits_37 X H h
      · rw [if_neg q12] at h
        refine z_sub [] rfl ?_
        exact t_Search_fits_33 X H h
theorem dd_Finder_init_0 : decode bb_Finder_init 0 = .ok (.aload_n 0, 1) := by decide +kernel
theorem dd_Finder_init_1 : decode bb_Finder_init 1 = .ok (.invokespecial 3, 3) := by decide +kernel
theorem dd_Finder_init_4 : decode bb_Finder_init 4 = .ok (.aload_n 0, 1) := by decide +kernel
theorem dd_Finder_init_5 : decode bb_Finder_init 5 = .ok (.bipush 8, 2) := by decide +kernel
theorem dd_Finder_init_7 : decode bb_Finder_init 7 = .ok (.newarray .int, 2) := by decide +kernel
theorem dd_Finder_init_9 : decode bb_Finder_init 9 = .ok (.putfield 9, 3) := by decide +kernel
theorem dd_Finder_init_12 : decode bb_Finder_init 12 = .ok (.aload_n 0, 1) := by decide +kernel
theorem dd_Finder_init_13 : decode bb_Finder_init 13 = .ok (.bipush 80, 2) := by decide +kernel
theorem dd_Finder_init_15 : decode bb_Finder_init 15 = .ok (.newarray .int, 2) := by decide +kernel
theorem dd_Finder_init_17 : decode bb_Finder_init 17 = .ok (.putfield 15, 3) := by decide +kernel
theorem dd_Finder_init_20 : decode bb_Finder_init 20 = .ok (.aload_n 0, 1) := by decide +kernel
theorem dd_Finder_init_21 : decode bb_Finder_init 21 = .ok (.bipush 16, 2) := by decide +kernel
theorem dd_Finder_init_23 : decode bb_Finder_init 23 = .ok (.newarray .int, 2) := by decide +kernel
theorem dd_Finder_init_25 : decode bb_Finder_init 25 = .ok (.putfield 18, 3) := by decide +kernel
theorem dd_Finder_init_28 : decode bb_Finder_init 28 = .ok (.aload_n 0, 1) := by decide +kernel
theorem dd_Finder_init_29 : decode bb_Finder_init 29 = .ok (.bipush 16, 2) := by decide +kernel
theorem dd_Finder_init_31 : decode bb_Finder_init 31 = .ok (.newarray .int, 2) := by decide +kernel
theorem dd_Finder_init_33 : decode bb_Finder_init 33 = .ok (.putfield 21, 3) := by decide +kernel
theorem dd_Finder_init_36 : decode bb_Finder_init 36 = .ok (.aload_n 0, 1) := by decide +kernel
theorem dd_Finder_init_37 : decode bb_Finder_init 37 = .ok (.bipush 16, 2) := by decide +kernel
theorem dd_Finder_init_39 : decode bb_Finder_init 39 = .ok (.newarray .int, 2) := by decide +kernel
theorem dd_Finder_init_41 : decode bb_Finder_init 41 = .ok (.putfield 24, 3) := by decide +kernel
theorem dd_Finder_init_44 : decode bb_Finder_init 44 = .ok (.aload_n 0, 1) := by decide +kernel
theorem dd_Finder_init_45 : decode bb_Finder_init 45 = .ok (.aload_n 1, 1) := by decide +kernel
theorem dd_Finder_init_46 : decode bb_Finder_init 46 = .ok (.putfield 27, 3) := by decide +kernel
theorem dd_Finder_init_49 : decode bb_Finder_init 49 = .ok (.aload_n 0, 1) := by decide +kernel
theorem dd_Finder_init_50 : decode bb_Finder_init 50 = .ok (.aload_n 2, 1) := by decide +kernel
theorem dd_Finder_init_51 : decode bb_Finder_init 51 = .ok (.putfield 31, 3) := by decide +kernel
theorem dd_Finder_init_54 : decode bb_Finder_init 54 = .ok (.aload_n 0, 1) := by decide +kernel
theorem dd_Finder_init_55 : decode bb_Finder_init 55 = .ok (.new 35, 3) := by decide +kernel
theorem dd_Finder_init_58 : decode bb_Finder_init 58 = .ok (.dup, 1) := by decide +kernel
theorem dd_Finder_init_59 : decode bb_Finder_init 59 = .ok (.aload_n 1, 1) := by decide +kernel
theorem dd_Finder_init_60 : decode bb_Finder_init 60 = .ok (.aload_n 2, 1) := by decide +kernel
theorem dd_Finder_init_61 : decode bb_Finder_init 61 = .ok (.aload_n 0, 1) := by decide +kernel
theorem dd_Finder_init_62 : decode bb_Finder_init 62 = .ok (.getfield 9, 3) := by decide +kernel
theorem dd_Finder_init_65 : decode bb_Finder_init 65 = .ok (.invokespecial 37, 3) := by decide +kernel
theorem dd_Finder_init_68 : decode bb_Finder_init 68 = .ok (.putfield 40, 3) := by decide +kernel
theorem dd_Finder_init_71 : decode bb_Finder_init 71 = .ok (.aload_n 0, 1) := by decide +kernel
theorem dd_Finder_init_72 : decode bb_Finder_init 72 = .ok (.new 35, 3) := by decide +kernel
theorem dd_Finder_init_75 : decode bb_Finder_init 75 = .ok (.dup, 1) := by decide +kernel
theorem dd_Finder_init_76 : decode bb_Finder_init 76 = .ok (.aload_n 1, 1) := by decide +kernel
theorem dd_Finder_init_77 : decode bb_Finder_init 77 = .ok (.aload_n 2, 1) := by decide +kernel
theorem dd_Finder_init_78 : decode bb_Finder_init 78 = .ok (.aload_n 0, 1) := by decide +kernel
theorem dd_Finder_init_79 : decode bb_Finder_init 79 = .ok (.getfield 9, 3) := by decide +kernel
theorem dd_Finder_init_82 : decode bb_Finder_init 82 = .ok (.invokespecial 37, 3) := by decide +kernel
theorem dd_Finder_init_85 : decode bb_Finder_init 85 = .ok (.putfield 44, 3) := by decide +kernel
theorem dd_Finder_init_88 : decode bb_Finder_init 88 = .ok (.return_, 1) := by decide +kernel
set_option maxRecDepth 100000 in
set_option maxHeartbeats 4000000 in
theorem c_Finder_init (l : Launch) {nf mc ms : Nat} {a0 : Nat} {a1 : Nat} {a2 : Nat} {c : Zc} {res : Zc} (h : f_Finder_init nf mc ms a0 a1 a2 c = some res) : zM l yy_Finder_init ww_Finder_init 2 43 mc ms [.ref a0, .ref a1, .ref a2] c (fun D cid B => zQv D cid B res c.length mc) := by
  refine z_met (cc := bb_Finder_init) (maxL := 3) (ret := none) (by decide +kernel) rfl (Nat.le_of_ble_eq_true rfl) ?_
  intro p e s m args below meth cd D cid B X h1 h2 h3 h4
  have X : zX p s m args cd D cid B bb_Finder_init 3 rr_Finder zT := X
  have H : zH s meth B c.length none "<init>" := ⟨h1, h2, h4, h3⟩
  unfold f_Finder_init at h
  show Zz p l e (zRm 2 43 mc ms) s m args below meth cd _ D cid B 3 0 0 c 0 [(0, .ref a0), (1, .ref a1), (2, .ref a2)] []
  refine z_aload_n X dd_Finder_init_0 rfl 0 rfl ?_
  refine z_objInit X dd_Finder_init_1 km_540 km_153 km_154 (Nat.le_of_ble_eq_true rfl) (Nat.le_of_ble_eq_true rfl) ?_
  refine z_aload_n X dd_Finder_init_4 rfl 0 rfl ?_
  refine z_bipush (v := 8) X dd_Finder_init_5 (by decide) ?_
  obtain ⟨u2, eu2, h⟩ := zb h
  obtain ⟨c1, ec1, h⟩ := zb h
  refine z_newaC (ty := .int) X dd_Finder_init_7 rfl km_206 rfl (fun _ q => by cases q) (fun _ => rfl) (fun _ => rfl) (by decide) (by decide) (by decide) (zlim_s eu2).1 (zlim_s eu2).2 ec1 ?_
  obtain ⟨c3, ec3, h⟩ := zb h
  refine z_putF (j := 0) X dd_Finder_init_9 kc_7 ki_7 tt_Finder tk_Finder nn_Finder (by decide) km_584 rfl H.2.2.2 rfl (tk_Finder 0 (by decide)) rfl rfl ec3 ?_
  refine z_aload_n X dd_Finder_init_12 rfl 0 rfl ?_
  refine z_bipush (v := 80) X dd_Finder_init_13 (by decide) ?_
  obtain ⟨u5, eu5, h⟩ := zb h
  obtain ⟨c4, ec4, h⟩ := zb h
  refine z_newaC (ty := .int) X dd_Finder_init_15 rfl km_206 rfl (fun _ q => by cases q) (fun _ => rfl) (fun _ => rfl) (by decide) (by decide) (by decide) (zlim_s eu5).1 (zlim_s eu5).2 ec4 ?_
  obtain ⟨c6, ec6, h⟩ := zb h
  refine z_putF (j := 4) X dd_Finder_init_17 kc_7 ki_7 tt_Finder tk_Finder nn_Finder (by decide) km_589 rfl H.2.2.2 rfl (tk_Finder 4 (by decide)) rfl rfl ec6 ?_
  refine z_aload_n X dd_Finder_init_20 rfl 0 rfl ?_
  refine z_bipush (v := 16) X dd_Finder_init_21 (by decide) ?_
  obtain ⟨u8, eu8, h⟩ := zb h
  obtain ⟨c7, ec7, h⟩ := zb h
  refine z_newaC (ty := .int) X dd_Finder_init_23 rfl km_206 rfl (fun _ q => by cases q) (fun _ => rfl) (fun _ => rfl) (by decide) (by decide) (by decide) (zlim_s eu8).1 (zlim_s eu8).2 ec7 ?_
  obtain ⟨c9, ec9, h⟩ := zb h
  refine z_putF (j := 5) X dd_Finder_init_25 kc_7 ki_7 tt_Finder tk_Finder nn_Finder (by decide) km_590 rfl H.2.2.2 rfl (tk_Finder 5 (by decide)) rfl rfl ec9 ?_
  refine z_aload_n X dd_Finder_init_28 rfl 0 rfl ?_
  refine z_bipush (v := 16) X dd_Finder_init_29 (by decide) ?_
  obtain ⟨u11, eu11, h⟩ := zb h
  obtain ⟨c10, ec10, h⟩ := zb h
  refine z_newaC (ty := .int) X dd_Finder_init_31 rfl km_206 rfl (fun _ q => by cases q) (fun _ => rfl) (fun _ => rfl) (by decide) (by decide) (by decide) (zlim_s eu11).1 (zlim_s eu11).2 ec10 ?_
  obtain ⟨c12, ec12, h⟩ := zb h
  refine z_putF (j := 6) X dd_Finder_init_33 kc_7 ki_7 tt_Finder tk_Finder nn_Finder (by decide) km_591 rfl H.2.2.2 rfl (tk_Finder 6 (by decide)) rfl rfl ec12 ?_
  refine z_aload_n X dd_Finder_init_36 rfl 0 rfl ?_
  refine z_bipush (v := 16) X dd_Finder_init_37 (by decide) ?_
  obtain ⟨u14, eu14, h⟩ := zb h
  obtain ⟨c13, ec13, h⟩ := zb h
  refine z_newaC (ty := .int) X dd_Finder_init_39 rfl km_206 rfl (fun _ q => by cases q) (fun _ => rfl) (fun _ => rfl) (by decide) (by decide) (by decide) (zlim_s eu14).1 (zlim_s eu14).2 ec13 ?_
  obtain ⟨c15, ec15, h⟩ := zb h
  refine z_putF (j := 7) X dd_Finder_init_41 kc_7 ki_7 tt_Finder tk_Finder nn_Finder (by decide) km_592 rfl H.2.2.2 rfl (tk_Finder 7 (by decide)) rfl rfl ec15 ?_
  refine z_aload_n X dd_Finder_init_44 rfl 0 rfl ?_
  refine z_aload_n X dd_Finder_init_45 rfl 1 rfl ?_
  obtain ⟨c16, ec16, h⟩ := zb h
  refine z_putF (j := 1) X dd_Finder_init_46 kc_7 ki_7 tt_Finder tk_Finder nn_Finder (by decide) km_586 rfl H.2.2.2 rfl (tk_Finder 1 (by decide)) rfl rfl ec16 ?_
  refine z_aload_n X dd_Finder_init_49 rfl 0 rfl ?_
  refine z_aload_n X dd_Finder_init_50 rfl 2 rfl ?_
  obtain ⟨c17, ec17, h⟩ := zb h
  refine z_put (j := 8) X dd_Finder_init_51 kc_7 ki_7 tt_Finder tk_Finder nn_Finder (by decide) km_593 rfl (tk_Finder 8 (by decide)) rfl rfl ec17 ?_
  refine z_aload_n X dd_Finder_init_54 rfl 0 rfl ?_
  obtain ⟨u19, eu19, h⟩ := zb h
  obtain ⟨c18, ec18, h⟩ := zb h
  refine z_newC X dd_Finder_init_55 kc_6 ki_6 tt_Search tk_Search km_541 km_542 km_134 (by decide +kernel) (fun _ _ => rfl) (zlim_s eu19).1 (zlim_s eu19).2 ec18 ?_
  refine z_dup X dd_Finder_init_58 rfl ?_
  refine z_aload_n X dd_Finder_init_59 rfl 1 rfl ?_
  refine z_aload_n X dd_Finder_init_60 rfl 2 rfl ?_
  refine z_aload_n X dd_Finder_init_61 rfl 0 rfl ?_
  obtain ⟨v20, ev20, h⟩ := zb h
  refine z_get (j := 0) X dd_Finder_init_62 kc_7 ki_7 (by decide) km_584 (zgr_v ev20) ?_
  obtain ⟨u22, eu22, h⟩ := zb h
  obtain ⟨q21, eq21, h⟩ := zb h
  refine z_callIv (ret := none) X [.ref a1, .ref a2, .ref v20] rfl dd_Finder_init_65 (c_Search_init l eq21) (cwI 3 X.1.2.2.2.2 (zg_I km_545) rfl rfl rfl (X.1.2.2.2.2 _ km_134) (X.1.2.2.2.2 _ km_543) (X.1.2.2.2.2 _ km_544) rfl (by decide +kernel) ⟨Nat.le_of_ble_eq_true rfl, Nat.le_of_ble_eq_true rfl⟩) rfl (Nat.le_of_ble_eq_true rfl) (zlim_s eu22) ?_
  obtain ⟨c23, ec23, h⟩ := zb h
  refine z_putF (j := 2) X dd_Finder_init_68 kc_7 ki_7 tt_Finder tk_Finder nn_Finder (by decide) km_587 rfl H.2.2.2 rfl (tk_Finder 2 (by decide)) rfl rfl ec23 ?_
  refine z_aload_n X dd_Finder_init_71 rfl 0 rfl ?_
  obtain ⟨u25, eu25, h⟩ := zb h
  obtain ⟨c24, ec24, h⟩ := zb h
  refine z_newC X dd_Finder_init_72 kc_6 ki_6 tt_Search tk_Search km_541 km_542 km_134 (by decide +kernel) (fun _ _ => rfl) (zlim_s eu25).1 (zlim_s eu25).2 ec24 ?_
  refine z_dup X dd_Finder_init_75 rfl ?_
  refine z_aload_n X dd_Finder_init_76 rfl 1 rfl ?_
  refine z_aload_n X dd_Finder_init_77 rfl 2 rfl ?_
  refine z_aload_n X dd_Finder_init_78 rfl 0 rfl ?_
  obtain ⟨v26, ev26, h⟩ := zb h
  refine z_get (j := 0) X dd_Finder_init_79 kc_7 ki_7 (by decide) km_584 (zgr_v ev26) ?_
  obtain ⟨u28, eu28, h⟩ := zb h
  obtain ⟨q27, eq27, h⟩ := zb h
  refine z_callIv (ret := none) X [.ref a1, .ref a2, .ref v26] rfl dd_Finder_init_82 (c_Search_init l eq27) (cwI 3 X.1.2.2.2.2 (zg_I km_545) rfl rfl rfl (X.1.2.2.2.2 _ km_134) (X.1.2.2.2.2 _ km_543) (X.1.2.2.2.2 _ km_544) rfl (by decide +kernel) ⟨Nat.le_of_ble_eq_true rfl, Nat.le_of_ble_eq_true rfl⟩) rfl (Nat.le_of_ble_eq_true rfl) (zlim_s eu28) ?_
  obtain ⟨c29, ec29, h⟩ := zb h
  refine z_putF (j := 3) X dd_Finder_init_85 kc_7 ki_7 tt_Finder tk_Finder nn_Finder (by decide) km_588 rfl H.2.2.2 rfl (tk_Finder 3 (by decide)) rfl rfl ec29 ?_
  obtain ⟨u30, eu30, h⟩ := zb h
  refine z_wid (zend_s eu30).1 (zend_s eu30).2 ?_
  obtain rfl := Option.some.inj h
  exact z_vret X H.1 H.2.1 H.2.2.1 dd_Finder_init_88
theorem dd_Finder_goFirst_0 : decode bb_Finder_goFirst 0 = .ok (.iconst 0, 1) := by decide +kernel
theorem dd_Finder_goFirst_1 : decode bb_Finder_goFirst 1 = .ok (.istore_n 3, 1) := by decide +kernel
theorem dd_Finder_goFirst_2 : decode bb_Finder_goFirst 2 = .ok (.iconst 0, 1) := by decide +kernel
theorem dd_Finder_goFirst_3 : decode bb_Finder_goFirst 3 = .ok (.istore 4, 2) := by decide +kernel
theorem dd_Finder_goFirst_5 : decode bb_Finder_goFirst 5 = .ok (.iload 4, 2) := by decide +kernel
theorem dd_Finder_goFirst_7 : decode bb_Finder_goFirst 7 = .ok (.aload_n 1, 1) := by decide +kernel
theorem dd_Finder_goFirst_8 : decode bb_Finder_goFirst 8 = .ok (.getfield 167, 3) := by decide +kernel
theorem dd_Finder_goFirst_11 : decode bb_Finder_goFirst 11 = .ok (.if_icmp .ge 90, 3) := by decide +kernel
theorem dd_Finder_goFirst_14 : decode bb_Finder_goFirst 14 = .ok (.aload_n 1, 1) := by decide +kernel
theorem dd_Finder_goFirst_15 : decode bb_Finder_goFirst 15 = .ok (.getfield 150, 3) := by decide +kernel
theorem dd_Finder_goFirst_18 : decode bb_Finder_goFirst 18 = .ok (.iload 4, 2) := by decide +kernel
theorem dd_Finder_goFirst_20 : decode bb_Finder_goFirst 20 = .ok (.lshr, 1) := by decide +kernel
theorem dd_Finder_goFirst_21 : decode bb_Finder_goFirst 21 = .ok (.lconst 1, 1) := by decide +kernel
theorem dd_Finder_goFirst_22 : decode bb_Finder_goFirst 22 = .ok (.land, 1) := by decide +kernel
theorem dd_Finder_goFirst_23 : decode bb_Finder_goFirst 23 = .ok (.lconst 0, 1) := by decide +kernel
theorem dd_Finder_goFirst_24 : decode bb_Finder_goFirst 24 = .ok (.lcmp, 1) := by decide +kernel
theorem dd_Finder_goFirst_25 : decode bb_Finder_goFirst 25 = .ok (.ifCond .eq 7, 3) := by decide +kernel
theorem dd_Finder_goFirst_28 : decode bb_Finder_goFirst 28 = .ok (.iconst 1, 1) := by decide +kernel
theorem dd_Finder_goFirst_29 : decode bb_Finder_goFirst 29 = .ok (.goto 4, 3) := by decide +kernel
theorem dd_Finder_goFirst_32 : decode bb_Finder_goFirst 32 = .ok (.iconst 0, 1) := by decide +kernel
theorem dd_Finder_goFirst_33 : decode bb_Finder_goFirst 33 = .ok (.istore 5, 2) := by decide +kernel
theorem dd_Finder_goFirst_35 : decode bb_Finder_goFirst 35 = .ok (.aload_n 0, 1) := by decide +kernel
theorem dd_Finder_goFirst_36 : decode bb_Finder_goFirst 36 = .ok (.getfield 18, 3) := by decide +kernel
theorem dd_Finder_goFirst_39 : decode bb_Finder_goFirst 39 = .ok (.iload 4, 2) := by decide +kernel
theorem dd_Finder_goFirst_41 : decode bb_Finder_goFirst 41 = .ok (.iload 5, 2) := by decide +kernel
theorem dd_Finder_goFirst_43 : decode bb_Finder_goFirst 43 = .ok (.ifCond .eq 26, 3) := by decide +kernel
theorem dd_Finder_goFirst_46 : decode bb_Finder_goFirst 46 = .ok (.aload_n 0, 1) := by decide +kernel
theorem dd_Finder_goFirst_47 : decode bb_Finder_goFirst 47 = .ok (.getfield 27, 3) := by decide +kernel
theorem dd_Finder_goFirst_50 : decode bb_Finder_goFirst 50 = .ok (.getfield 174, 3) := by decide +kernel
theorem dd_Finder_goFirst_53 : decode bb_Finder_goFirst 53 = .ok (.aload_n 1, 1) := by decide +kernel
theorem dd_Finder_goFirst_54 : decode bb_Finder_goFirst 54 = .ok (.getfield 177, 3) := by decide +kernel
theorem dd_Finder_goFirst_57 : decode bb_Finder_goFirst 57 = .ok (.iload 4, 2) := by decide +kernel
theorem dd_Finder_goFirst_59 : decode bb_Finder_goFirst 59 = .ok (.iaload, 1) := by decide +kernel
theorem dd_Finder_goFirst_60 : decode bb_Finder_goFirst 60 = .ok (.bipush 16, 2) := by decide +kernel
theorem dd_Finder_goFirst_62 : decode bb_Finder_goFirst 62 = .ok (.imul, 1) := by decide +kernel
theorem dd_Finder_goFirst_63 : decode bb_Finder_goFirst 63 = .ok (.iload_n 2, 1) := by decide +kernel
theorem dd_Finder_goFirst_64 : decode bb_Finder_goFirst 64 = .ok (.iadd, 1) := by decide +kernel
theorem dd_Finder_goFirst_65 : decode bb_Finder_goFirst 65 = .ok (.iaload, 1) := by decide +kernel
theorem dd_Finder_goFirst_66 : decode bb_Finder_goFirst 66 = .ok (.goto 4, 3) := by decide +kernel
theorem dd_Finder_goFirst_69 : decode bb_Finder_goFirst 69 = .ok (.iconst 0, 1) := by decide +kernel
theorem dd_Finder_goFirst_70 : decode bb_Finder_goFirst 70 = .ok (.iastore, 1) := by decide +kernel
theorem dd_Finder_goFirst_71 : decode bb_Finder_goFirst 71 = .ok (.aload_n 0, 1) := by decide +kernel
theorem dd_Finder_goFirst_72 : decode bb_Finder_goFirst 72 = .ok (.getfield 24, 3) := by decide +kernel
theorem dd_Finder_goFirst_75 : decode bb_Finder_goFirst 75 = .ok (.iload 4, 2) := by decide +kernel
theorem dd_Finder_goFirst_77 : decode bb_Finder_goFirst 77 = .ok (.aload_n 0, 1) := by decide +kernel
theorem dd_Finder_goFirst_78 : decode bb_Finder_goFirst 78 = .ok (.getfield 18, 3) := by decide +kernel
theorem dd_Finder_goFirst_81 : decode bb_Finder_goFirst 81 = .ok (.iload 4, 2) := by decide +kernel
theorem dd_Finder_goFirst_83 : decode bb_Finder_goFirst 83 = .ok (.iaload, 1) := by decide +kernel
theorem dd_Finder_goFirst_84 : decode bb_Finder_goFirst 84 = .ok (.iastore, 1) := by decide +kernel
theorem dd_Finder_goFirst_85 : decode bb_Finder_goFirst 85 = .ok (.iload_n 3, 1) := by decide +kernel
theorem dd_Finder_goFirst_86 : decode bb_Finder_goFirst 86 = .ok (.aload_n 0, 1) := by decide +kernel
theorem dd_Finder_goFirst_87 : decode bb_Finder_goFirst 87 = .ok (.getfield 18, 3) := by decide +kernel
theorem dd_Finder_goFirst_90 : decode bb_Finder_goFirst 90 = .ok (.iload 4, 2) := by decide +kernel
theorem dd_Finder_goFirst_92 : decode bb_Finder_goFirst 92 = .ok (.iaload, 1) := by decide +kernel
theorem dd_Finder_goFirst_93 : decode bb_Finder_goFirst 93 = .ok (.ior, 1) := by decide +kernel
theorem dd_Finder_goFirst_94 : decode bb_Finder_goFirst 94 = .ok (.istore_n 3, 1) := by decide +kernel
theorem dd_Finder_goFirst_95 : decode bb_Finder_goFirst 95 = .ok (.iinc 4 1, 3) := by decide +kernel
theorem dd_Finder_goFirst_98 : decode bb_Finder_goFirst 98 = .ok (.goto (-93), 3) := by decide +kernel
theorem dd_Finder_goFirst_101 : decode bb_Finder_goFirst 101 = .ok (.iload_n 3, 1) := by decide +kernel
theorem dd_Finder_goFirst_102 : decode bb_Finder_goFirst 102 = .ok (.ifCond .eq 7, 3) := by decide +kernel
theorem dd_Finder_goFirst_105 : decode bb_Finder_goFirst 105 = .ok (.iconst 1, 1) := by decide +kernel
theorem dd_Finder_goFirst_106 : decode bb_Finder_goFirst 106 = .ok (.goto 4, 3) := by decide +kernel
theorem dd_Finder_goFirst_109 : decode bb_Finder_goFirst 109 = .ok (.iconst 0, 1) := by decide +kernel
theorem dd_Finder_goFirst_110 : decode bb_Finder_goFirst 110 = .ok (.ireturn, 1) := by decide +kernel
set_option maxRecDepth 100000 in
set_option maxHeartbeats 4000000 in
theorem t_Finder_goFirst_70  (X : zX p s m args cd D cid B bb_Finder_goFirst 6 rr_Finder zT) (H : zH s meth B n0 (some (.boolean)) "goFirst") {nf : Nat} {x0 : Nat} {x1 : Nat} {x2 : Int32} {x3 : Int32} {x4 : Int32} {s0 : Nat} {s1 : Int32} {s2 : Int32} {c : Zc} {r : (Nat × Nat × Int32 × Int32 × Int32 × Zc) ⊕ (Int32 × Zc)} (h : f_Finder_goFirst_70 nf x0 x1 x2 x3 x4 s0 s1 s2 c = some r) (k0 : ∀ a, r = .inl a → (fun a : Nat × Nat × Int32 × Int32 × Int32 × Zc => Zz p l e (zRm 0 0 0 0) s m args below meth cd Q D cid B 6 0 0 a.2.2.2.2.2 5 [(0, .ref a.1), (1, .ref a.2.1), (2, .int a.2.2.1), (3, .int a.2.2.2.1), (4, .int a.2.2.2.2.1)] []) a) (k1 : ∀ b, r = .inr b → (fun b : Int32 × Zc => Zz p l e (zRm 0 0 0 0) s m args below meth cd Q D cid B 6 0 0 b.2 101 [(3, .int b.1)] []) b) : Zz p l e (zRm 0 0 0 0) s m args below meth cd Q D cid B 6 0 0 c 70 [(0, .ref x0), (1, .ref x1), (2, .int x2), (3, .int x3), (4, .int x4)] [.int s2, .int s1, .ref s0] := by
  unfold f_Finder_goFirst_70 at h
  obtain ⟨c7, ec7, h⟩ := zb h
  refine z_iastore X dd_Finder_goFirst_70 rfl ec7 ?_
  refine z_aload_n X dd_Finder_goFirst_71 rfl 0 rfl ?_
  obtain ⟨v8, ev8, h⟩ := zb h
  refine z_get (j := 7) X dd_Finder_goFirst_72 kc_7 ki_7 (by decide) km_592 (zgr_v ev8) ?_
  refine z_iload X dd_Finder_goFirst_75 4 rfl ?_
  refine z_aload_n X dd_Finder_goFirst_77 rfl 0 rfl ?_
  obtain ⟨v9, ev9, h⟩ := zb h
  refine z_get (j := 5) X dd_Finder_goFirst_78 kc_7 ki_7 (by decide) km_590 (zgr_v ev9) ?_
  refine z_iload X dd_Finder_goFirst_81 4 rfl ?_
  obtain ⟨v10, ev10, h⟩ := zb h
  refine z_iaload X dd_Finder_goFirst_83 rfl ev10 ?_
  obtain ⟨c11, ec11, h⟩ := zb h
  refine z_iastore X dd_Finder_goFirst_84 rfl ec11 ?_
  refine z_iload_n X dd_Finder_goFirst_85 rfl 3 rfl ?_
  refine z_aload_n X dd_Finder_goFirst_86 rfl 0 rfl ?_
  obtain ⟨v12, ev12, h⟩ := zb h
  refine z_get (j := 5) X dd_Finder_goFirst_87 kc_7 ki_7 (by decide) km_590 (zgr_v ev12) ?_
  refine z_iload X dd_Finder_goFirst_90 4 rfl ?_
  obtain ⟨v13, ev13, h⟩ := zb h
  refine z_iaload X dd_Finder_goFirst_92 rfl ev13 ?_
  refine z_ior X dd_Finder_goFirst_93 ?_
  refine z_istore_n (lv' := [(3, .int (x3 ||| v13)), (0, .ref x0), (1, .ref x1), (2, .int x2), (4, .int x4)]) X dd_Finder_goFirst_94 rfl (by decide) rfl ?_
  refine z_iinc (v := (x4 + 1)) (lv' := [(4, .int (x4 + 1)), (3, .int (x3 ||| v13)), (0, .ref x0), (1, .ref x1), (2, .int x2)]) X dd_Finder_goFirst_95 4 rfl rfl (by decide) rfl ?_
  refine z_goto (tgt := 5) X dd_Finder_goFirst_98 (by decide) ?_
  refine z_sub [2, 3, 4, 1, 0] rfl ?_
  obtain rfl := Option.some.inj h
  exact k0 _ rfl
set_option maxRecDepth 100000 in
set_option maxHeartbeats 4000000 in
theorem t_Finder_goFirst_33  (X : zX p s m args cd D cid B bb_Finder_goFirst 6 rr_Finder zT) (H : zH s meth B n0 (some (.boolean)) "goFirst") {nf : Nat} {x0 : Nat} {x1 : Nat} {x2 : Int32} {x3 : Int32} {x4 : Int32} {s0 : Int32} {c : Zc} {r : (Nat × Nat × Int32 × Int32 × Int32 × Zc) ⊕ (Int32 × Zc)} (h : f_Finder_goFirst_33 nf x0 x1 x2 x3 x4 s0 c = some r) (k0 : ∀ a, r = .inl a → (fun a : Nat × Nat × Int32 × Int32 × Int32 × Zc => Zz p l e (zRm 0 0 0 0) s m args below meth cd Q D cid B 6 0 0 a.2.2.2.2.2 5 [(0, .ref a.1), (1, .ref a.2.1), (2, .int a.2.2.1), (3, .int a.2.2.2.1), (4, .int a.2.2.2.2.1)] []) a) (k1 : ∀ b, r = .inr b → (fun b : Int32 × Zc => Zz p l e (zRm 0 0 0 0) s m args below meth cd Q D cid B 6 0 0 b.2 101 [(3, .int b.1)] []) b) : Zz p l e (zRm 0 0 0 0) s m args below meth cd Q D cid B 6 0 0 c 33 [(0, .ref x0), (1, .ref x1), (2, .int x2), (3, .int x3), (4, .int x4)] [.int s0] := by
  unfold f_Finder_goFirst_33 at h
  refine z_istore (lv' := [(5, .int s0), (0, .ref x0), (1, .ref x1), (2, .int x2), (3, .int x3), (4, .int x4)]) X dd_Finder_goFirst_33 (by decide) rfl ?_
  refine z_aload_n X dd_Finder_goFirst_35 rfl 1 rfl ?_
  obtain ⟨v5, ev5, h⟩ := zb h
  refine z_get (j := 5) X dd_Finder_goFirst_36 kc_7 ki_7 (by decide) km_590 (zgr_v ev5) ?_
  refine z_iload X dd_Finder_goFirst_39 5 rfl ?_
  refine z_iload X dd_Finder_goFirst_41 0 rfl ?_
  refine z_if_eq (tgt := 69) X dd_Finder_goFirst_43 (by decide) (fun q6 => ?_) (fun q6 => ?_)
  · rw [if_pos q6] at h
    refine z_iconst (v := 0) X dd_Finder_goFirst_69 (by decide) ?_
    refine z_sub [1, 2, 3, 4, 5] rfl ?_
    exact t_Finder_goFirst_70 X H h k0 k1
  · rw [if_neg q6] at h
    refine z_aload_n X dd_Finder_goFirst_46 rfl 1 rfl ?_
    obtain ⟨v14, ev14, h⟩ := zb h
    refine z_get (j := 1) X dd_Finder_goFirst_47 kc_7 ki_7 (by decide) km_586 (zgr_v ev14) ?_
    obtain ⟨v15, ev15, h⟩ := zb h
    refine z_get (j := 6) X dd_Finder_goFirst_50 kc_0 ki_0 (by decide) km_172 (zgr_v ev15) ?_
    refine z_aload_n X dd_Finder_goFirst_53 rfl 2 rfl ?_
    obtain ⟨v16, ev16, h⟩ := zb h
    refine z_get (j := 6) X dd_Finder_goFirst_54 kc_1 ki_1 (by decide) km_239 (zgr_v ev16) ?_
    refine z_iload X dd_Finder_goFirst_57 5 rfl ?_
    obtain ⟨v17, ev17, h⟩ := zb h
    refine z_iaload X dd_Finder_goFirst_59 rfl ev17 ?_
    refine z_bipush (v := 16) X dd_Finder_goFirst_60 (by decide) ?_
    refine z_imul X dd_Finder_goFirst_62 ?_
    refine z_iload_n X dd_Finder_goFirst_63 rfl 3 rfl ?_
    refine z_iadd X dd_Finder_goFirst_64 ?_
    obtain ⟨v18, ev18, h⟩ := zb h
    refine z_iaload X dd_Finder_goFirst_65 rfl ev18 ?_
    refine z_goto (tgt := 70) X dd_Finder_goFirst_66 (by decide) ?_
    refine z_sub [1, 2, 3, 4, 5] rfl ?_
    exact t_Finder_goFirst_70 X H h k0 k1
set_option maxRecDepth 100000 in
set_option maxHeartbeats 4000000 in
theorem u_Finder_goFirst_5  (X : zX p s m args cd D cid B bb_Finder_goFirst 6 rr_Finder zT) (H : zH s meth B n0 (some (.boolean)) "goFirst") {nf : Nat} {x0 : Nat} {x1 : Nat} {x2 : Int32} {x3 : Int32} {x4 : Int32} {c : Zc} {r : (Nat × Nat × Int32 × Int32 × Int32 × Zc) ⊕ (Int32 × Zc)} (h : g_Finder_goFirst_5 nf x0 x1 x2 x3 x4 c = some r) (k0 : ∀ a, r = .inl a → (fun a : Nat × Nat × Int32 × Int32 × Int32 × Zc => Zz p l e (zRm 0 0 0 0) s m args below meth cd Q D cid B 6 0 0 a.2.2.2.2.2 5 [(0, .ref a.1), (1, .ref a.2.1), (2, .int a.2.2.1), (3, .int a.2.2.2.1), (4, .int a.2.2.2.2.1)] []) a) (k1 : ∀ b, r = .inr b → (fun b : Int32 × Zc => Zz p l e (zRm 0 0 0 0) s m args below meth cd Q D cid B 6 0 0 b.2 101 [(3, .int b.1)] []) b) : Zz p l e (zRm 0 0 0 0) s m args below meth cd Q D cid B 6 0 0 c 5 [(0, .ref x0), (1, .ref x1), (2, .int x2), (3, .int x3), (4, .int x4)] [] := by
  unfold g_Finder_goFirst_5 at h
  refine z_iload X dd_Finder_goFirst_5 4 rfl ?_
  refine z_aload_n X dd_Finder_goFirst_7 rfl 1 rfl ?_
  obtain ⟨v1, ev1, h⟩ := zb h
  refine z_get (j := 5) X dd_Finder_goFirst_8 kc_1 ki_1 (by decide) km_236 (zgi_v ev1) ?_
  refine z_icmp_ge (tgt := 101) X dd_Finder_goFirst_11 (by decide) (fun q2 => ?_) (fun q2 => ?_)
  · rw [if_pos q2] at h
    refine z_sub [3] rfl ?_
    obtain rfl := Option.some.inj h
    exact k1 _ rfl
  · rw [if_neg q2] at h
    refine z_aload_n X dd_Finder_goFirst_14 rfl 1 rfl ?_
    obtain ⟨v3, ev3, h⟩ := zb h
    refine z_get (j := 8) X dd_Finder_goFirst_15 kc_1 ki_1 (by decide) km_243 (zgl_v ev3) ?_
    refine z_iload X dd_Finder_goFirst_18 4 rfl ?_
    refine z_lshr X dd_Finder_goFirst_20 ?_
    refine z_lconst (v := 1) X dd_Finder_goFirst_21 (by decide) ?_
    refine z_land X dd_Finder_goFirst_22 ?_
    refine z_lconst (v := 0) X dd_Finder_goFirst_23 (by decide) ?_
    refine z_lcmp X dd_Finder_goFirst_24 ?_
    refine z_if_eq (tgt := 32) X dd_Finder_goFirst_25 (by decide) (fun q4 => ?_) (fun q4 => ?_)
    · rw [if_pos q4] at h
      refine z_iconst (v := 0) X dd_Finder_goFirst_32 (by decide) ?_
      exact t_Finder_goFirst_33 X H h k0 k1
    · rw [if_neg q4] at h
      refine z_iconst (v := 1) X dd_Finder_goFirst_28 (by decide) ?_
      refine z_goto (tgt := 33) X dd_Finder_goFirst_29 (by decide) ?_
      exact t_Finder_goFirst_33 X H h k0 k1
set_option maxRecDepth 100000 in
set_option maxHeartbeats 4000000 in
theorem t_Finder_goFirst_110  (X : zX p s m args cd D cid B bb_Finder_goFirst 6 rr_Finder zT) (H : zH s meth B n0 (some (.boolean)) "goFirst") {nf : Nat} {s0 : Int32} {c : Zc} {res : Int32 × Zc} (h : f_Finder_goFirst_110 nf s0 c = some res) : Zz p l e (zRm 0 0 0 0) s m args below meth cd (MQ below (zQi D cid B res.1 res.2 n0 0) args s 0 0 (fun q => B ≤ q)) D cid B 6 0 0 c 110 [] [.int s0] := by
  unfold f_Finder_goFirst_110 at h
  obtain ⟨hz, h⟩ := zrz_s h
  obtain rfl := h
  exact z_zret X H.1 (zn_z hz) H.2.1 H.2.2.1 dd_Finder_goFirst_110
set_option maxRecDepth 100000 in
set_option maxHeartbeats 4000000 in
theorem t_Finder_goFirst_5  (X : zX p s m args cd D cid B bb_Finder_goFirst 6 rr_Finder zT) (H : zH s meth B n0 (some (.boolean)) "goFirst") {nf : Nat} {x0 : Nat} {x1 : Nat} {x2 : Int32} {x3 : Int32} {x4 : Int32} {c : Zc} {res : Int32 × Zc} (h : f_Finder_goFirst_5 nf x0 x1 x2 x3 x4 c = some res) : Zz p l e (zRm 0 0 0 0) s m args below meth cd (MQ below (zQi D cid B res.1 res.2 n0 0) args s 0 0 (fun q => B ≤ q)) D cid B 6 0 0 c 5 [(0, .ref x0), (1, .ref x1), (2, .int x2), (3, .int x3), (4, .int x4)] [] := by
  unfold f_Finder_goFirst_5 at h
  obtain ⟨b, eb, h⟩ := zb h
  refine zlp_ok (P := fun a : Nat × Nat × Int32 × Int32 × Int32 × Zc => Zz p l e (zRm 0 0 0 0) s m args below meth cd _ D cid B 6 0 0 a.2.2.2.2.2 5 [(0, .ref a.1), (1, .ref a.2.1), (2, .int a.2.2.1), (3, .int a.2.2.2.1), (4, .int a.2.2.2.2.1)] []) (G := fun b : Int32 × Zc => Zz p l e (zRm 0 0 0 0) s m args below meth cd _ D cid B 6 0 0 b.2 101 [(3, .int b.1)] []) (fun a r ha k0 k1 => u_Finder_goFirst_5 X H ha k0 k1) nf _ b eb ?_
  refine z_iload_n X dd_Finder_goFirst_101 rfl 0 rfl ?_
  refine z_if_eq (tgt := 109) X dd_Finder_goFirst_102 (by decide) (fun q19 => ?_) (fun q19 => ?_)
  · rw [if_pos q19] at h
    refine z_iconst (v := 0) X dd_Finder_goFirst_109 (by decide) ?_
    refine z_sub [] rfl ?_
    exact t_Finder_goFirst_110 X H h
  · rw [if_neg q19] at h
    refine z_iconst (v := 1) X dd_Finder_goFirst_105 (by decide) ?_
    refine z_goto (tgt := 110) X dd_Finder_goFirst_106 (by decide) ?_
    refine z_sub [] rfl ?_
    exact t_Finder_goFirst_110 X H h
set_option maxRecDepth 100000 in
set_option maxHeartbeats 4000000 in
theorem c_Finder_goFirst (l : Launch) {nf : Nat} {a0 : Nat} {a1 : Nat} {a2 : Int32} {c : Zc} {res : Int32 × Zc} (h : f_Finder_goFirst nf a0 a1 a2 c = some res) : zM l yy_Finder_goFirst ww_Finder_goFirst 0 0 0 0 [.ref a0, .ref a1, .int a2] c (fun D cid B => zQi D cid B res.1 res.2 c.length 0) := by
  refine z_met (cc := bb_Finder_goFirst) (maxL := 6) (ret := (some (.boolean))) (by decide +kernel) rfl (Nat.le_of_ble_eq_true rfl) ?_
  intro p e s m args below meth cd D cid B X h1 h2 h3 h4
  have X : zX p s m args cd D cid B bb_Finder_goFirst 6 rr_Finder zT := X
  have H : zH s meth B c.length (some (.boolean)) "goFirst" := ⟨h1, h2, h4, h3⟩
  unfold f_Finder_goFirst at h
  show Zz p l e (zRm 0 0 0 0) s m args below meth cd _ D cid B 6 0 0 c 0 [(0, .ref a0), (1, .ref a1), (2, .int a2)] []
  refine z_iconst (v := 0) X dd_Finder_goFirst_0 (by decide) ?_
  refine z_istore_n (lv' := [(3, .int 0), (0, .ref a0), (1, .ref a1), (2, .int a2)]) X dd_Finder_goFirst_1 rfl (by decide) rfl ?_
  refine z_iconst (v := 0) X dd_Finder_goFirst_2 (by decide) ?_
  refine z_istore (lv' := [(4, .int 0), (3, .int 0), (0, .ref a0), (1, .ref a1), (2, .int a2)]) X dd_Finder_goFirst_3 (by decide) rfl ?_
  refine z_sub [2, 3, 4, 1, 0] rfl ?_
  exact t_Finder_goFirst_5 X H h
theorem dd_Finder_spread_0 : decode bb_Finder_spread 0 = .ok (.iconst 0, 1) := by decide +kernel
theorem dd_Finder_spread_1 : decode bb_Finder_spread 1 = .ok (.istore 4, 2) := by decide +kernel
theorem dd_Finder_spread_3 : decode bb_Finder_spread 3 = .ok (.iload 4, 2) := by decide +kernel
theorem dd_Finder_spread_5 : decode bb_Finder_spread 5 = .ok (.aload_n 1, 1) := by decide +kernel
theorem dd_Finder_spread_6 : decode bb_Finder_spread 6 = .ok (.getfield 167, 3) := by decide +kernel
theorem dd_Finder_spread_9 : decode bb_Finder_spread 9 = .ok (.if_icmp .ge 83, 3) := by decide +kernel
theorem dd_Finder_spread_12 : decode bb_Finder_spread 12 = .ok (.iload_n 3, 1) := by decide +kernel
theorem dd_Finder_spread_13 : decode bb_Finder_spread 13 = .ok (.iload 4, 2) := by decide +kernel
theorem dd_Finder_spread_15 : decode bb_Finder_spread 15 = .ok (.ishr, 1) := by decide +kernel
theorem dd_Finder_spread_16 : decode bb_Finder_spread 16 = .ok (.iconst 1, 1) := by decide +kernel
theorem dd_Finder_spread_17 : decode bb_Finder_spread 17 = .ok (.iand, 1) := by decide +kernel
theorem dd_Finder_spread_18 : decode bb_Finder_spread 18 = .ok (.ifCond .eq 68, 3) := by decide +kernel
theorem dd_Finder_spread_21 : decode bb_Finder_spread 21 = .ok (.aload_n 1, 1) := by decide +kernel
theorem dd_Finder_spread_22 : decode bb_Finder_spread 22 = .ok (.getfield 177, 3) := by decide +kernel
theorem dd_Finder_spread_25 : decode bb_Finder_spread 25 = .ok (.iload 4, 2) := by decide +kernel
theorem dd_Finder_spread_27 : decode bb_Finder_spread 27 = .ok (.iaload, 1) := by decide +kernel
theorem dd_Finder_spread_28 : decode bb_Finder_spread 28 = .ok (.bipush 16, 2) := by decide +kernel
theorem dd_Finder_spread_30 : decode bb_Finder_spread 30 = .ok (.imul, 1) := by decide +kernel
theorem dd_Finder_spread_31 : decode bb_Finder_spread 31 = .ok (.istore 5, 2) := by decide +kernel
theorem dd_Finder_spread_33 : decode bb_Finder_spread 33 = .ok (.iconst 0, 1) := by decide +kernel
theorem dd_Finder_spread_34 : decode bb_Finder_spread 34 = .ok (.istore 6, 2) := by decide +kernel
theorem dd_Finder_spread_36 : decode bb_Finder_spread 36 = .ok (.iload 6, 2) := by decide +kernel
theorem dd_Finder_spread_38 : decode bb_Finder_spread 38 = .ok (.aload_n 0, 1) := by decide +kernel
theorem dd_Finder_spread_39 : decode bb_Finder_spread 39 = .ok (.getfield 27, 3) := by decide +kernel
theorem dd_Finder_spread_42 : decode bb_Finder_spread 42 = .ok (.getfield 143, 3) := by decide +kernel
theorem dd_Finder_spread_45 : decode bb_Finder_spread 45 = .ok (.if_icmp .ge 41, 3) := by decide +kernel
theorem dd_Finder_spread_48 : decode bb_Finder_spread 48 = .ok (.iload_n 2, 1) := by decide +kernel
theorem dd_Finder_spread_49 : decode bb_Finder_spread 49 = .ok (.iload 6, 2) := by decide +kernel
theorem dd_Finder_spread_51 : decode bb_Finder_spread 51 = .ok (.ishr, 1) := by decide +kernel
theorem dd_Finder_spread_52 : decode bb_Finder_spread 52 = .ok (.iconst 1, 1) := by decide +kernel
theorem dd_Finder_spread_53 : decode bb_Finder_spread 53 = .ok (.iand, 1) := by decide +kernel
theorem dd_Finder_spread_54 : decode bb_Finder_spread 54 = .ok (.ifCond .eq 26, 3) := by decide +kernel
theorem dd_Finder_spread_57 : decode bb_Finder_spread 57 = .ok (.aload_n 0, 1) := by decide +kernel
theorem dd_Finder_spread_58 : decode bb_Finder_spread 58 = .ok (.getfield 21, 3) := by decide +kernel
theorem dd_Finder_spread_61 : decode bb_Finder_spread 61 = .ok (.iload 4, 2) := by decide +kernel
theorem dd_Finder_spread_63 : decode bb_Finder_spread 63 = .ok (.dup2, 1) := by decide +kernel
theorem dd_Finder_spread_64 : decode bb_Finder_spread 64 = .ok (.iaload, 1) := by decide +kernel
theorem dd_Finder_spread_65 : decode bb_Finder_spread 65 = .ok (.aload_n 0, 1) := by decide +kernel
theorem dd_Finder_spread_66 : decode bb_Finder_spread 66 = .ok (.getfield 27, 3) := by decide +kernel
theorem dd_Finder_spread_69 : decode bb_Finder_spread 69 = .ok (.getfield 174, 3) := by decide +kernel
theorem dd_Finder_spread_72 : decode bb_Finder_spread 72 = .ok (.iload 5, 2) := by decide +kernel
theorem dd_Finder_spread_74 : decode bb_Finder_spread 74 = .ok (.iload 6, 2) := by decide +kernel
theorem dd_Finder_spread_76 : decode bb_Finder_spread 76 = .ok (.iadd, 1) := by decide +kernel
theorem dd_Finder_spread_77 : decode bb_Finder_spread 77 = .ok (.iaload, 1) := by decide +kernel
theorem dd_Finder_spread_78 : decode bb_Finder_spread 78 = .ok (.ior, 1) := by decide +kernel
theorem dd_Finder_spread_79 : decode bb_Finder_spread 79 = .ok (.iastore, 1) := by decide +kernel
theorem dd_Finder_spread_80 : decode bb_Finder_spread 80 = .ok (.iinc 6 1, 3) := by decide +kernel
theorem dd_Finder_spread_83 : decode bb_Finder_spread 83 = .ok (.goto (-47), 3) := by decide +kernel
theorem dd_Finder_spread_86 : decode bb_Finder_spread 86 = .ok (.iinc 4 1, 3) := by decide +kernel
theorem dd_Finder_spread_89 : decode bb_Finder_spread 89 = .ok (.goto (-86), 3) := by decide +kernel
theorem dd_Finder_spread_92 : decode bb_Finder_spread 92 = .ok (.return_, 1) := by decide +kernel
set_option maxRecDepth 100000 in
set_option maxHeartbeats 4000000 in
theorem t_Finder_spread_86  (X : zX p s m args cd D cid B bb_Finder_spread 7 rr_Finder zT) (H : zH s meth B n0 none "spread") {nf : Nat} {x0 : Nat} {x1 : Nat} {x2 : Int32} {x3 : Int32} {x4 : Int32} {c : Zc} {r : (Nat × Nat × Int32 × Int32 × Int32 × Zc) ⊕ (Zc)} (h : f_Finder_spread_86 nf x0 x1 x2 x3 x4 c = some r) (k0 : ∀ a, r = .inl a → (fun a : Nat × Nat × Int32 × Int32 × Int32 × Zc => Zz p l e (zRm 0 0 0 0) s m args below meth cd Q D cid B 7 0 0 a.2.2.2.2.2 3 [(0, .ref a.1), (1, .ref a.2.1), (2, .int a.2.2.1), (3, .int a.2.2.2.1), (4, .int a.2.2.2.2.1)] []) a) (k1 : ∀ b, r = .inr b → (fun b : Zc => Zz p l e (zRm 0 0 0 0) s m args below meth cd Q D cid B 7 0 0 b 92 [] []) b) : Zz p l e (zRm 0 0 0 0) s m args below meth cd Q D cid B 7 0 0 c 86 [(0, .ref x0), (1, .ref x1), (2, .int x2), (3, .int x3), (4, .int x4)] [] := by
  unfold f_Finder_spread_86 at h
  refine z_iinc (v := (x4 + 1)) (lv' := [(4, .int (x4 + 1)), (0, .ref x0), (1, .ref x1), (2, .int x2), (3, .int x3)]) X dd_Finder_spread_86 4 rfl rfl (by decide) rfl ?_
  refine z_goto (tgt := 3) X dd_Finder_spread_89 (by decide) ?_
  refine z_sub [1, 2, 3, 4, 0] rfl ?_
  obtain rfl := Option.some.inj h
  exact k0 _ rfl
set_option maxRecDepth 100000 in
set_option maxHeartbeats 4000000 in
theorem t_Finder_spread_80  (X : zX p s m args cd D cid B bb_Finder_spread 7 rr_Finder zT) (H : zH s meth B n0 none "spread") {nf : Nat} {x0 : Nat} {x1 : Nat} {x2 : Int32} {x3 : Int32} {x4 : Int32} {x5 : Int32} {x6 : Int32} {c : Zc} {r : (Nat × Nat × Int32 × Int32 × Int32 × Int32 × Int32 × Zc) ⊕ (Nat × Nat × Int32 × Int32 × Int32 × Zc)} (h : f_Finder_spread_80 nf x0 x1 x2 x3 x4 x5 x6 c = some r) (k0 : ∀ a, r = .inl a → (fun a : Nat × Nat × Int32 × Int32 × Int32 × Int32 × Int32 × Zc => Zz p l e (zRm 0 0 0 0) s m args below meth cd Q D cid B 7 0 0 a.2.2.2.2.2.2.2 36 [(0, .ref a.1), (1, .ref a.2.1), (2, .int a.2.2.1), (3, .int a.2.2.2.1), (4, .int a.2.2.2.2.1), (5, .int a.2.2.2.2.2.1), (6, .int a.2.2.2.2.2.2.1)] []) a) (k1 : ∀ b, r = .inr b → (fun b : Nat × Nat × Int32 × Int32 × Int32 × Zc => Zz p l e (zRm 0 0 0 0) s m args below meth cd Q D cid B 7 0 0 b.2.2.2.2.2 86 [(0, .ref b.1), (1, .ref b.2.1), (2, .int b.2.2.1), (3, .int b.2.2.2.1), (4, .int b.2.2.2.2.1)] []) b) : Zz p l e (zRm 0 0 0 0) s m args below meth cd Q D cid B 7 0 0 c 80 [(0, .ref x0), (1, .ref x1), (2, .int x2), (3, .int x3), (4, .int x4), (5, .int x5), (6, .int x6)] [] := by
  unfold f_Finder_spread_80 at h
  refine z_iinc (v := (x6 + 1)) (lv' := [(6, .int (x6 + 1)), (0, .ref x0), (1, .ref x1), (2, .int x2), (3, .int x3), (4, .int x4), (5, .int x5)]) X dd_Finder_spread_80 6 rfl rfl (by decide) rfl ?_
  refine z_goto (tgt := 36) X dd_Finder_spread_83 (by decide) ?_
  refine z_sub [1, 2, 3, 4, 5, 6, 0] rfl ?_
  obtain rfl := Option.some.inj h
  exact k0 _ rfl
set_option maxRecDepth 100000 in
set_option maxHeartbeats 4000000 in
theorem u_Finder_spread_36  (X : zX p s m args cd D cid B bb_Finder_spread 7 rr_Finder zT) (H : zH s meth B n0 none "spread") {nf : Nat} {x0 : Nat} {x1 : Nat} {x2 : Int32} {x3 : Int32} {x4 : Int32} {x5 : Int32} {x6 : Int32} {c : Zc} {r : (Nat × Nat × Int32 × Int32 × Int32 × Int32 × Int32 × Zc) ⊕ (Nat × Nat × Int32 × Int32 × Int32 × Zc)} (h : g_Finder_spread_36 nf x0 x1 x2 x3 x4 x5 x6 c = some r) (k0 : ∀ a, r = .inl a → (fun a : Nat × Nat × Int32 × Int32 × Int32 × Int32 × Int32 × Zc => Zz p l e (zRm 0 0 0 0) s m args below meth cd Q D cid B 7 0 0 a.2.2.2.2.2.2.2 36 [(0, .ref a.1), (1, .ref a.2.1), (2, .int a.2.2.1), (3, .int a.2.2.2.1), (4, .int a.2.2.2.2.1), (5, .int a.2.2.2.2.2.1), (6, .int a.2.2.2.2.2.2.1)] []) a) (k1 : ∀ b, r = .inr b → (fun b : Nat × Nat × Int32 × Int32 × Int32 × Zc => Zz p l e (zRm 0 0 0 0) s m args below meth cd Q D cid B 7 0 0 b.2.2.2.2.2 86 [(0, .ref b.1), (1, .ref b.2.1), (2, .int b.2.2.1), (3, .int b.2.2.2.1), (4, .int b.2.2.2.2.1)] []) b) : Zz p l e (zRm 0 0 0 0) s m args below meth cd Q D cid B 7 0 0 c 36 [(0, .ref x0), (1, .ref x1), (2, .int x2), (3, .int x3), (4, .int x4), (5, .int x5), (6, .int x6)] [] := by
  unfold g_Finder_spread_36 at h
  refine z_iload X dd_Finder_spread_36 6 rfl ?_
  refine z_aload_n X dd_Finder_spread_38 rfl 0 rfl ?_
  obtain ⟨v6, ev6, h⟩ := zb h
  refine z_get (j := 1) X dd_Finder_spread_39 kc_7 ki_7 (by decide) km_586 (zgr_v ev6) ?_
  obtain ⟨v7, ev7, h⟩ := zb h
  refine z_get (j := 7) X dd_Finder_spread_42 kc_0 ki_0 (by decide) km_176 (zgi_v ev7) ?_
  refine z_icmp_ge (tgt := 86) X dd_Finder_spread_45 (by decide) (fun q8 => ?_) (fun q8 => ?_)
  · rw [if_pos q8] at h
    refine z_sub [0, 1, 2, 3, 4] rfl ?_
    obtain rfl := Option.some.inj h
    exact k1 _ rfl
  · rw [if_neg q8] at h
    refine z_iload_n X dd_Finder_spread_48 rfl 2 rfl ?_
    refine z_iload X dd_Finder_spread_49 6 rfl ?_
    refine z_ishr X dd_Finder_spread_51 ?_
    refine z_iconst (v := 1) X dd_Finder_spread_52 (by decide) ?_
    refine z_iand X dd_Finder_spread_53 ?_
    refine z_if_eq (tgt := 80) X dd_Finder_spread_54 (by decide) (fun q9 => ?_) (fun q9 => ?_)
    · rw [if_pos q9] at h
      exact t_Finder_spread_80 X H h k0 k1
    · rw [if_neg q9] at h
      refine z_aload_n X dd_Finder_spread_57 rfl 0 rfl ?_
      obtain ⟨v10, ev10, h⟩ := zb h
      refine z_get (j := 6) X dd_Finder_spread_58 kc_7 ki_7 (by decide) km_591 (zgr_v ev10) ?_
      refine z_iload X dd_Finder_spread_61 4 rfl ?_
      refine z_dup2_11 X dd_Finder_spread_63 rfl rfl ?_
      obtain ⟨v11, ev11, h⟩ := zb h
      refine z_iaload X dd_Finder_spread_64 rfl ev11 ?_
      refine z_aload_n X dd_Finder_spread_65 rfl 0 rfl ?_
      obtain ⟨v12, ev12, h⟩ := zb h
      refine z_get (j := 1) X dd_Finder_spread_66 kc_7 ki_7 (by decide) km_586 (zgr_v ev12) ?_
      obtain ⟨v13, ev13, h⟩ := zb h
      refine z_get (j := 6) X dd_Finder_spread_69 kc_0 ki_0 (by decide) km_172 (zgr_v ev13) ?_
      refine z_iload X dd_Finder_spread_72 5 rfl ?_
      refine z_iload X dd_Finder_spread_74 6 rfl ?_
      refine z_iadd X dd_Finder_spread_76 ?_
      obtain ⟨v14, ev14, h⟩ := zb h
      refine z_iaload X dd_Finder_spread_77 rfl ev14 ?_
      refine z_ior X dd_Finder_spread_78 ?_
      obtain ⟨c15, ec15, h⟩ := zb h
      refine z_iastore X dd_Finder_spread_79 rfl ec15 ?_
      exact t_Finder_spread_80 X H h k0 k1
set_option maxRecDepth 100000 in
set_option maxHeartbeats 4000000 in
theorem t_Finder_spread_36  (X : zX p s m args cd D cid B bb_Finder_spread 7 rr_Finder zT) (H : zH s meth B n0 none "spread") {nf : Nat} {x0 : Nat} {x1 : Nat} {x2 : Int32} {x3 : Int32} {x4 : Int32} {x5 : Int32} {x6 : Int32} {c : Zc} {r : (Nat × Nat × Int32 × Int32 × Int32 × Zc) ⊕ (Zc)} (h : f_Finder_spread_36 nf x0 x1 x2 x3 x4 x5 x6 c = some r) (k0 : ∀ a, r = .inl a → (fun a : Nat × Nat × Int32 × Int32 × Int32 × Zc => Zz p l e (zRm 0 0 0 0) s m args below meth cd Q D cid B 7 0 0 a.2.2.2.2.2 3 [(0, .ref a.1), (1, .ref a.2.1), (2, .int a.2.2.1), (3, .int a.2.2.2.1), (4, .int a.2.2.2.2.1)] []) a) (k1 : ∀ b, r = .inr b → (fun b : Zc => Zz p l e (zRm 0 0 0 0) s m args below meth cd Q D cid B 7 0 0 b 92 [] []) b) : Zz p l e (zRm 0 0 0 0) s m args below meth cd Q D cid B 7 0 0 c 36 [(0, .ref x0), (1, .ref x1), (2, .int x2), (3, .int x3), (4, .int x4), (5, .int x5), (6, .int x6)] [] := by
  unfold f_Finder_spread_36 at h
  obtain ⟨b, eb, h⟩ := zb h
  refine zlp_ok (P := fun a : Nat × Nat × Int32 × Int32 × Int32 × Int32 × Int32 × Zc => Zz p l e (zRm 0 0 0 0) s m args below meth cd _ D cid B 7 0 0 a.2.2.2.2.2.2.2 36 [(0, .ref a.1), (1, .ref a.2.1), (2, .int a.2.2.1), (3, .int a.2.2.2.1), (4, .int a.2.2.2.2.1), (5, .int a.2.2.2.2.2.1), (6, .int a.2.2.2.2.2.2.1)] []) (G := fun b : Nat × Nat × Int32 × Int32 × Int32 × Zc => Zz p l e (zRm 0 0 0 0) s m args below meth cd _ D cid B 7 0 0 b.2.2.2.2.2 86 [(0, .ref b.1), (1, .ref b.2.1), (2, .int b.2.2.1), (3, .int b.2.2.2.1), (4, .int b.2.2.2.2.1)] []) (fun a r ha k0 k1 => u_Finder_spread_36 X H ha k0 k1) nf _ b eb ?_
  exact t_Finder_spread_86 X H h k0 k1
set_option maxRecDepth 100000 in
set_option maxHeartbeats 4000000 in
theorem u_Finder_spread_3  (X : zX p s m args cd D cid B bb_Finder_spread 7 rr_Finder zT) (H : zH s meth B n0 none "spread") {nf : Nat} {x0 : Nat} {x1 : Nat} {x2 : Int32} {x3 : Int32} {x4 : Int32} {c : Zc} {r : (Nat × Nat × Int32 × Int32 × Int32 × Zc) ⊕ (Zc)} (h : g_Finder_spread_3 nf x0 x1 x2 x3 x4 c = some r) (k0 : ∀ a, r = .inl a → (fun a : Nat × Nat × Int32 × Int32 × Int32 × Zc => Zz p l e (zRm 0 0 0 0) s m args below meth cd Q D cid B 7 0 0 a.2.2.2.2.2 3 [(0, .ref a.1), (1, .ref a.2.1), (2, .int a.2.2.1), (3, .int a.2.2.2.1), (4, .int a.2.2.2.2.1)] []) a) (k1 : ∀ b, r = .inr b → (fun b : Zc => Zz p l e (zRm 0 0 0 0) s m args below meth cd Q D cid B 7 0 0 b 92 [] []) b) : Zz p l e (zRm 0 0 0 0) s m args below meth cd Q D cid B 7 0 0 c 3 [(0, .ref x0), (1, .ref x1), (2, .int x2), (3, .int x3), (4, .int x4)] [] := by
  unfold g_Finder_spread_3 at h
  refine z_iload X dd_Finder_spread_3 4 rfl ?_
  refine z_aload_n X dd_Finder_spread_5 rfl 1 rfl ?_
  obtain ⟨v1, ev1, h⟩ := zb h
  refine z_get (j := 5) X dd_Finder_spread_6 kc_1 ki_1 (by decide) km_236 (zgi_v ev1) ?_
  refine z_icmp_ge (tgt := 92) X dd_Finder_spread_9 (by decide) (fun q2 => ?_) (fun q2 => ?_)
  · rw [if_pos q2] at h
    refine z_sub [] rfl ?_
    obtain rfl := Option.some.inj h
    exact k1 _ rfl
  · rw [if_neg q2] at h
    refine z_iload_n X dd_Finder_spread_12 rfl 3 rfl ?_
    refine z_iload X dd_Finder_spread_13 4 rfl ?_
    refine z_ishr X dd_Finder_spread_15 ?_
    refine z_iconst (v := 1) X dd_Finder_spread_16 (by decide) ?_
    refine z_iand X dd_Finder_spread_17 ?_
    refine z_if_eq (tgt := 86) X dd_Finder_spread_18 (by decide) (fun q3 => ?_) (fun q3 => ?_)
    · rw [if_pos q3] at h
      exact t_Finder_spread_86 X H h k0 k1
    · rw [if_neg q3] at h
      refine z_aload_n X dd_Finder_spread_21 rfl 1 rfl ?_
      obtain ⟨v4, ev4, h⟩ := zb h
      refine z_get (j := 6) X dd_Finder_spread_22 kc_1 ki_1 (by decide) km_239 (zgr_v ev4) ?_
      refine z_iload X dd_Finder_spread_25 4 rfl ?_
      obtain ⟨v5, ev5, h⟩ := zb h
      refine z_iaload X dd_Finder_spread_27 rfl ev5 ?_
      refine z_bipush (v := 16) X dd_Finder_spread_28 (by decide) ?_
      refine z_imul X dd_Finder_spread_30 ?_
      refine z_istore (lv' := [(5, .int (v5 * 16)), (0, .ref x0), (1, .ref x1), (2, .int x2), (3, .int x3), (4, .int x4)]) X dd_Finder_spread_31 (by decide) rfl ?_
      refine z_iconst (v := 0) X dd_Finder_spread_33 (by decide) ?_
      refine z_istore (lv' := [(6, .int 0), (5, .int (v5 * 16)), (0, .ref x0), (1, .ref x1), (2, .int x2), (3, .int x3), (4, .int x4)]) X dd_Finder_spread_34 (by decide) rfl ?_
      refine z_sub [2, 3, 4, 5, 6, 1, 0] rfl ?_
      exact t_Finder_spread_36 X H h k0 k1
set_option maxRecDepth 100000 in
set_option maxHeartbeats 4000000 in
theorem t_Finder_spread_3  (X : zX p s m args cd D cid B bb_Finder_spread 7 rr_Finder zT) (H : zH s meth B n0 none "spread") {nf : Nat} {x0 : Nat} {x1 : Nat} {x2 : Int32} {x3 : Int32} {x4 : Int32} {c : Zc} {res : Zc} (h : f_Finder_spread_3 nf x0 x1 x2 x3 x4 c = some res) : Zz p l e (zRm 0 0 0 0) s m args below meth cd (MQ below (zQv D cid B res n0 0) args s 0 0 (fun q => B ≤ q)) D cid B 7 0 0 c 3 [(0, .ref x0), (1, .ref x1), (2, .int x2), (3, .int x3), (4, .int x4)] [] := by
  unfold f_Finder_spread_3 at h
  obtain ⟨b, eb, h⟩ := zb h
  refine zlp_ok (P := fun a : Nat × Nat × Int32 × Int32 × Int32 × Zc => Zz p l e (zRm 0 0 0 0) s m args below meth cd _ D cid B 7 0 0 a.2.2.2.2.2 3 [(0, .ref a.1), (1, .ref a.2.1), (2, .int a.2.2.1), (3, .int a.2.2.2.1), (4, .int a.2.2.2.2.1)] []) (G := fun b : Zc => Zz p l e (zRm 0 0 0 0) s m args below meth cd _ D cid B 7 0 0 b 92 [] []) (fun a r ha k0 k1 => u_Finder_spread_3 X H ha k0 k1) nf _ b eb ?_
  obtain rfl := Option.some.inj h
  exact z_vret X H.1 H.2.1 H.2.2.1 dd_Finder_spread_92
set_option maxRecDepth 100000 in
set_option maxHeartbeats 4000000 in
theorem c_Finder_spread (l : Launch) {nf : Nat} {a0 : Nat} {a1 : Nat} {a2 : Int32} {a3 : Int32} {c : Zc} {res : Zc} (h : f_Finder_spread nf a0 a1 a2 a3 c = some res) : zM l yy_Finder_spread ww_Finder_spread 0 0 0 0 [.ref a0, .ref a1, .int a2, .int a3] c (fun D cid B => zQv D cid B res c.length 0) := by
  refine z_met (cc := bb_Finder_spread) (maxL := 7) (ret := none) (by decide +kernel) rfl (Nat.le_of_ble_eq_true rfl) ?_
  intro p e s m args below meth cd D cid B X h1 h2 h3 h4
  have X : zX p s m args cd D cid B bb_Finder_spread 7 rr_Finder zT := X
  have H : zH s meth B c.length none "spread" := ⟨h1, h2, h4, h3⟩
  unfold f_Finder_spread at h
  show Zz p l e (zRm 0 0 0 0) s m args below meth cd _ D cid B 7 0 0 c 0 [(0, .ref a0), (1, .ref a1), (2, .int a2), (3, .int a3)] []
  refine z_iconst (v := 0) X dd_Finder_spread_0 (by decide) ?_
  refine z_istore (lv' := [(4, .int 0), (0, .ref a0), (1, .ref a1), (2, .int a2), (3, .int a3)]) X dd_Finder_spread_1 (by decide) rfl ?_
  refine z_sub [1, 2, 3, 4, 0] rfl ?_
  exact t_Finder_spread_3 X H h
theorem dd_Finder_goOn_0 : decode bb_Finder_goOn 0 = .ok (.aload_n 0, 1) := by decide +kernel
theorem dd_Finder_goOn_1 : decode bb_Finder_goOn 1 = .ok (.getfield 21, 3) := by decide +kernel
theorem dd_Finder_goOn_4 : decode bb_Finder_goOn 4 = .ok (.iconst 0, 1) := by decide +kernel
theorem dd_Finder_goOn_5 : decode bb_Finder_goOn 5 = .ok (.invokestatic 180, 3) := by decide +kernel
theorem dd_Finder_goOn_8 : decode bb_Finder_goOn 8 = .ok (.iconst 0, 1) := by decide +kernel
theorem dd_Finder_goOn_9 : decode bb_Finder_goOn 9 = .ok (.istore_n 2, 1) := by decide +kernel
theorem dd_Finder_goOn_10 : decode bb_Finder_goOn 10 = .ok (.iload_n 2, 1) := by decide +kernel
theorem dd_Finder_goOn_11 : decode bb_Finder_goOn 11 = .ok (.aload_n 1, 1) := by decide +kernel
theorem dd_Finder_goOn_12 : decode bb_Finder_goOn 12 = .ok (.getfield 167, 3) := by decide +kernel
theorem dd_Finder_goOn_15 : decode bb_Finder_goOn 15 = .ok (.if_icmp .ge 35, 3) := by decide +kernel
theorem dd_Finder_goOn_18 : decode bb_Finder_goOn 18 = .ok (.aload_n 0, 1) := by decide +kernel
theorem dd_Finder_goOn_19 : decode bb_Finder_goOn 19 = .ok (.getfield 18, 3) := by decide +kernel
theorem dd_Finder_goOn_22 : decode bb_Finder_goOn 22 = .ok (.iload_n 2, 1) := by decide +kernel
theorem dd_Finder_goOn_23 : decode bb_Finder_goOn 23 = .ok (.iaload, 1) := by decide +kernel
theorem dd_Finder_goOn_24 : decode bb_Finder_goOn 24 = .ok (.ifCond .eq 20, 3) := by decide +kernel
theorem dd_Finder_goOn_27 : decode bb_Finder_goOn 27 = .ok (.aload_n 0, 1) := by decide +kernel
theorem dd_Finder_goOn_28 : decode bb_Finder_goOn 28 = .ok (.aload_n 1, 1) := by decide +kernel
theorem dd_Finder_goOn_29 : decode bb_Finder_goOn 29 = .ok (.aload_n 0, 1) := by decide +kernel
theorem dd_Finder_goOn_30 : decode bb_Finder_goOn 30 = .ok (.getfield 18, 3) := by decide +kernel
theorem dd_Finder_goOn_33 : decode bb_Finder_goOn 33 = .ok (.iload_n 2, 1) := by decide +kernel
theorem dd_Finder_goOn_34 : decode bb_Finder_goOn 34 = .ok (.iaload, 1) := by decide +kernel
theorem dd_Finder_goOn_35 : decode bb_Finder_goOn 35 = .ok (.aload_n 1, 1) := by decide +kernel
theorem dd_Finder_goOn_36 : decode bb_Finder_goOn 36 = .ok (.getfield 186, 3) := by decide +kernel
theorem dd_Finder_goOn_39 : decode bb_Finder_goOn 39 = .ok (.iload_n 2, 1) := by decide +kernel
theorem dd_Finder_goOn_40 : decode bb_Finder_goOn 40 = .ok (.iaload, 1) := by decide +kernel
theorem dd_Finder_goOn_41 : decode bb_Finder_goOn 41 = .ok (.invokevirtual 189, 3) := by decide +kernel
theorem dd_Finder_goOn_44 : decode bb_Finder_goOn 44 = .ok (.iinc 2 1, 3) := by decide +kernel
theorem dd_Finder_goOn_47 : decode bb_Finder_goOn 47 = .ok (.goto (-37), 3) := by decide +kernel
theorem dd_Finder_goOn_50 : decode bb_Finder_goOn 50 = .ok (.iconst 0, 1) := by decide +kernel
theorem dd_Finder_goOn_51 : decode bb_Finder_goOn 51 = .ok (.istore_n 2, 1) := by decide +kernel
theorem dd_Finder_goOn_52 : decode bb_Finder_goOn 52 = .ok (.iconst 0, 1) := by decide +kernel
theorem dd_Finder_goOn_53 : decode bb_Finder_goOn 53 = .ok (.istore_n 3, 1) := by decide +kernel
theorem dd_Finder_goOn_54 : decode bb_Finder_goOn 54 = .ok (.iload_n 3, 1) := by decide +kernel
theorem dd_Finder_goOn_55 : decode bb_Finder_goOn 55 = .ok (.aload_n 1, 1) := by decide +kernel
theorem dd_Finder_goOn_56 : decode bb_Finder_goOn 56 = .ok (.getfield 167, 3) := by decide +kernel
theorem dd_Finder_goOn_59 : decode bb_Finder_goOn 59 = .ok (.if_icmp .ge 54, 3) := by decide +kernel
theorem dd_Finder_goOn_62 : decode bb_Finder_goOn 62 = .ok (.aload_n 0, 1) := by decide +kernel
theorem dd_Finder_goOn_63 : decode bb_Finder_goOn 63 = .ok (.getfield 18, 3) := by decide +kernel
theorem dd_Finder_goOn_66 : decode bb_Finder_goOn 66 = .ok (.iload_n 3, 1) := by decide +kernel
theorem dd_Finder_goOn_67 : decode bb_Finder_goOn 67 = .ok (.aload_n 0, 1) := by decide +kernel
theorem dd_Finder_goOn_68 : decode bb_Finder_goOn 68 = .ok (.getfield 21, 3) := by decide +kernel
theorem dd_Finder_goOn_71 : decode bb_Finder_goOn 71 = .ok (.iload_n 3, 1) := by decide +kernel
theorem dd_Finder_goOn_72 : decode bb_Finder_goOn 72 = .ok (.iaload, 1) := by decide +kernel
theorem dd_Finder_goOn_73 : decode bb_Finder_goOn 73 = .ok (.aload_n 0, 1) := by decide +kernel
theorem dd_Finder_goOn_74 : decode bb_Finder_goOn 74 = .ok (.getfield 24, 3) := by decide +kernel
theorem dd_Finder_goOn_77 : decode bb_Finder_goOn 77 = .ok (.iload_n 3, 1) := by decide +kernel
theorem dd_Finder_goOn_78 : decode bb_Finder_goOn 78 = .ok (.iaload, 1) := by decide +kernel
theorem dd_Finder_goOn_79 : decode bb_Finder_goOn 79 = .ok (.iconst (-1), 1) := by decide +kernel
theorem dd_Finder_goOn_80 : decode bb_Finder_goOn 80 = .ok (.ixor, 1) := by decide +kernel
theorem dd_Finder_goOn_81 : decode bb_Finder_goOn 81 = .ok (.iand, 1) := by decide +kernel
theorem dd_Finder_goOn_82 : decode bb_Finder_goOn 82 = .ok (.iastore, 1) := by decide +kernel
theorem dd_Finder_goOn_83 : decode bb_Finder_goOn 83 = .ok (.aload_n 0, 1) := by decide +kernel
theorem dd_Finder_goOn_84 : decode bb_Finder_goOn 84 = .ok (.getfield 24, 3) := by decide +kernel
theorem dd_Finder_goOn_87 : decode bb_Finder_goOn 87 = .ok (.iload_n 3, 1) := by decide +kernel
theorem dd_Finder_goOn_88 : decode bb_Finder_goOn 88 = .ok (.dup2, 1) := by decide +kernel
theorem dd_Finder_goOn_89 : decode bb_Finder_goOn 89 = .ok (.iaload, 1) := by decide +kernel
theorem dd_Finder_goOn_90 : decode bb_Finder_goOn 90 = .ok (.aload_n 0, 1) := by decide +kernel
theorem dd_Finder_goOn_91 : decode bb_Finder_goOn 91 = .ok (.getfield 18, 3) := by decide +kernel
theorem dd_Finder_goOn_94 : decode bb_Finder_goOn 94 = .ok (.iload_n 3, 1) := by decide +kernel
theorem dd_Finder_goOn_95 : decode bb_Finder_goOn 95 = .ok (.iaload, 1) := by decide +kernel
theorem dd_Finder_goOn_96 : decode bb_Finder_goOn 96 = .ok (.ior, 1) := by decide +kernel
theorem dd_Finder_goOn_97 : decode bb_Finder_goOn 97 = .ok (.iastore, 1) := by decide +kernel
theorem dd_Finder_goOn_98 : decode bb_Finder_goOn 98 = .ok (.iload_n 2, 1) := by decide +kernel
theorem dd_Finder_goOn_99 : decode bb_Finder_goOn 99 = .ok (.aload_n 0, 1) := by decide +kernel
theorem dd_Finder_goOn_100 : decode bb_Finder_goOn 100 = .ok (.getfield 18, 3) := by decide +kernel
theorem dd_Finder_goOn_103 : decode bb_Finder_goOn 103 = .ok (.iload_n 3, 1) := by decide +kernel
theorem dd_Finder_goOn_104 : decode bb_Finder_goOn 104 = .ok (.iaload, 1) := by decide +kernel
theorem dd_Finder_goOn_105 : decode bb_Finder_goOn 105 = .ok (.ior, 1) := by decide +kernel
theorem dd_Finder_goOn_106 : decode bb_Finder_goOn 106 = .ok (.istore_n 2, 1) := by decide +kernel
theorem dd_Finder_goOn_107 : decode bb_Finder_goOn 107 = .ok (.iinc 3 1, 3) := by decide +kernel
theorem dd_Finder_goOn_110 : decode bb_Finder_goOn 110 = .ok (.goto (-56), 3) := by decide +kernel
theorem dd_Finder_goOn_113 : decode bb_Finder_goOn 113 = .ok (.iload_n 2, 1) := by decide +kernel
theorem dd_Finder_goOn_114 : decode bb_Finder_goOn 114 = .ok (.ifCond .eq 7, 3) := by decide +kernel
theorem dd_Finder_goOn_117 : decode bb_Finder_goOn 117 = .ok (.iconst 1, 1) := by decide +kernel
theorem dd_Finder_goOn_118 : decode bb_Finder_goOn 118 = .ok (.goto 4, 3) := by decide +kernel
theorem dd_Finder_goOn_121 : decode bb_Finder_goOn 121 = .ok (.iconst 0, 1) := by decide +kernel
theorem dd_Finder_goOn_122 : decode bb_Finder_goOn 122 = .ok (.ireturn, 1) := by decide +kernel
set_option maxRecDepth 100000 in
set_option maxHeartbeats 4000000 in
theorem t_Finder_goOn_44  (X : zX p s m args cd D cid B bb_Finder_goOn 4 rr_Finder zT) (H : zH s meth B n0 (some (.boolean)) "goOn") {nf : Nat} {x0 : Nat} {x1 : Nat} {x2 : Int32} {c : Zc} {r : (Nat × Nat × Int32 × Zc) ⊕ (Nat × Nat × Zc)} (h : f_Finder_goOn_44 nf x0 x1 x2 c = some r) (k0 : ∀ a, r = .inl a → (fun a : Nat × Nat × Int32 × Zc => Zz p l e (zRm 1 26 0 0) s m args below meth cd Q D cid B 4 0 0 a.2.2.2 10 [(0, .ref a.1), (1, .ref a.2.1), (2, .int a.2.2.1)] []) a) (k1 : ∀ b, r = .inr b → (fun b : Nat × Nat × Zc => Zz p l e (zRm 1 26 0 0) s m args below meth cd Q D cid B 4 0 0 b.2.2 50 [(0, .ref b.1), (1, .ref b.2.1)] []) b) : Zz p l e (zRm 1 26 0 0) s m args below meth cd Q D cid B 4 0 0 c 44 [(0, .ref x0), (1, .ref x1), (2, .int x2)] [] := by
  unfold f_Finder_goOn_44 at h
  refine z_iinc (v := (x2 + 1)) (lv' := [(2, .int (x2 + 1)), (0, .ref x0), (1, .ref x1)]) X dd_Finder_goOn_44 2 rfl rfl (by decide) rfl ?_
  refine z_goto (tgt := 10) X dd_Finder_goOn_47 (by decide) ?_
  refine z_sub [1, 2, 0] rfl ?_
  obtain rfl := Option.some.inj h
  exact k0 _ rfl
set_option maxRecDepth 100000 in
set_option maxHeartbeats 4000000 in
theorem u_Finder_goOn_10  (X : zX p s m args cd D cid B bb_Finder_goOn 4 rr_Finder zT) (H : zH s meth B n0 (some (.boolean)) "goOn") {nf : Nat} {x0 : Nat} {x1 : Nat} {x2 : Int32} {c : Zc} {r : (Nat × Nat × Int32 × Zc) ⊕ (Nat × Nat × Zc)} (h : g_Finder_goOn_10 nf x0 x1 x2 c = some r) (k0 : ∀ a, r = .inl a → (fun a : Nat × Nat × Int32 × Zc => Zz p l e (zRm 1 26 0 0) s m args below meth cd Q D cid B 4 0 0 a.2.2.2 10 [(0, .ref a.1), (1, .ref a.2.1), (2, .int a.2.2.1)] []) a) (k1 : ∀ b, r = .inr b → (fun b : Nat × Nat × Zc => Zz p l e (zRm 1 26 0 0) s m args below meth cd Q D cid B 4 0 0 b.2.2 50 [(0, .ref b.1), (1, .ref b.2.1)] []) b) : Zz p l e (zRm 1 26 0 0) s m args below meth cd Q D cid B 4 0 0 c 10 [(0, .ref x0), (1, .ref x1), (2, .int x2)] [] := by
  unfold g_Finder_goOn_10 at h
  refine z_iload_n X dd_Finder_goOn_10 rfl 2 rfl ?_
  refine z_aload_n X dd_Finder_goOn_11 rfl 1 rfl ?_
  obtain ⟨v3, ev3, h⟩ := zb h
  refine z_get (j := 5) X dd_Finder_goOn_12 kc_1 ki_1 (by decide) km_236 (zgi_v ev3) ?_
  refine z_icmp_ge (tgt := 50) X dd_Finder_goOn_15 (by decide) (fun q4 => ?_) (fun q4 => ?_)
  · rw [if_pos q4] at h
    refine z_sub [0, 1] rfl ?_
    obtain rfl := Option.some.inj h
    exact k1 _ rfl
  · rw [if_neg q4] at h
    refine z_aload_n X dd_Finder_goOn_18 rfl 0 rfl ?_
    obtain ⟨v5, ev5, h⟩ := zb h
    refine z_get (j := 5) X dd_Finder_goOn_19 kc_7 ki_7 (by decide) km_590 (zgr_v ev5) ?_
    refine z_iload_n X dd_Finder_goOn_22 rfl 2 rfl ?_
    obtain ⟨v6, ev6, h⟩ := zb h
    refine z_iaload X dd_Finder_goOn_23 rfl ev6 ?_
    refine z_if_eq (tgt := 44) X dd_Finder_goOn_24 (by decide) (fun q7 => ?_) (fun q7 => ?_)
    · rw [if_pos q7] at h
      exact t_Finder_goOn_44 X H h k0 k1
    · rw [if_neg q7] at h
      refine z_aload_n X dd_Finder_goOn_27 rfl 0 rfl ?_
      refine z_aload_n X dd_Finder_goOn_28 rfl 1 rfl ?_
      refine z_aload_n X dd_Finder_goOn_29 rfl 0 rfl ?_
      obtain ⟨v8, ev8, h⟩ := zb h
      refine z_get (j := 5) X dd_Finder_goOn_30 kc_7 ki_7 (by decide) km_590 (zgr_v ev8) ?_
      refine z_iload_n X dd_Finder_goOn_33 rfl 2 rfl ?_
      obtain ⟨v9, ev9, h⟩ := zb h
      refine z_iaload X dd_Finder_goOn_34 rfl ev9 ?_
      refine z_aload_n X dd_Finder_goOn_35 rfl 1 rfl ?_
      obtain ⟨v10, ev10, h⟩ := zb h
      refine z_get (j := 7) X dd_Finder_goOn_36 kc_1 ki_1 (by decide) km_241 (zgr_v ev10) ?_
      refine z_iload_n X dd_Finder_goOn_39 rfl 2 rfl ?_
      obtain ⟨v11, ev11, h⟩ := zb h
      refine z_iaload X dd_Finder_goOn_40 rfl ev11 ?_
      obtain ⟨w13, ew13, h⟩ := zb h
      obtain ⟨q12, eq12, h⟩ := zb h
      refine z_callVv X [.ref x1, .int v9, .int v11] rfl dd_Finder_goOn_41 (c_Finder_spread l eq12) (cwV 3 X.1.2.2.2.2 (zg_V km_1320 km_1322 km_50 km_133 km_1323) rfl rfl rfl (by decide +kernel) ⟨Nat.le_of_ble_eq_true rfl, Nat.le_of_ble_eq_true rfl⟩) (zob_s ew13) kc_7 rfl (Nat.le_of_ble_eq_true rfl) ⟨Nat.le_of_ble_eq_true rfl, Nat.le_of_ble_eq_true rfl⟩ ?_
      exact t_Finder_goOn_44 X H h k0 k1
set_option maxRecDepth 100000 in
set_option maxHeartbeats 4000000 in
theorem u_Finder_goOn_54  (X : zX p s m args cd D cid B bb_Finder_goOn 4 rr_Finder zT) (H : zH s meth B n0 (some (.boolean)) "goOn") {nf : Nat} {x0 : Nat} {x1 : Nat} {x2 : Int32} {x3 : Int32} {c : Zc} {r : (Nat × Nat × Int32 × Int32 × Zc) ⊕ (Int32 × Zc)} (h : g_Finder_goOn_54 nf x0 x1 x2 x3 c = some r) (k0 : ∀ a, r = .inl a → (fun a : Nat × Nat × Int32 × Int32 × Zc => Zz p l e (zRm 1 26 0 0) s m args below meth cd Q D cid B 4 0 0 a.2.2.2.2 54 [(0, .ref a.1), (1, .ref a.2.1), (2, .int a.2.2.1), (3, .int a.2.2.2.1)] []) a) (k1 : ∀ b, r = .inr b → (fun b : Int32 × Zc => Zz p l e (zRm 1 26 0 0) s m args below meth cd Q D cid B 4 0 0 b.2 113 [(2, .int b.1)] []) b) : Zz p l e (zRm 1 26 0 0) s m args below meth cd Q D cid B 4 0 0 c 54 [(0, .ref x0), (1, .ref x1), (2, .int x2), (3, .int x3)] [] := by
  unfold g_Finder_goOn_54 at h
  refine z_iload_n X dd_Finder_goOn_54 rfl 3 rfl ?_
  refine z_aload_n X dd_Finder_goOn_55 rfl 1 rfl ?_
  obtain ⟨v14, ev14, h⟩ := zb h
  refine z_get (j := 5) X dd_Finder_goOn_56 kc_1 ki_1 (by decide) km_236 (zgi_v ev14) ?_
  refine z_icmp_ge (tgt := 113) X dd_Finder_goOn_59 (by decide) (fun q15 => ?_) (fun q15 => ?_)
  · rw [if_pos q15] at h
    refine z_sub [2] rfl ?_
    obtain rfl := Option.some.inj h
    exact k1 _ rfl
  · rw [if_neg q15] at h
    refine z_aload_n X dd_Finder_goOn_62 rfl 0 rfl ?_
    obtain ⟨v16, ev16, h⟩ := zb h
    refine z_get (j := 5) X dd_Finder_goOn_63 kc_7 ki_7 (by decide) km_590 (zgr_v ev16) ?_
    refine z_iload_n X dd_Finder_goOn_66 rfl 3 rfl ?_
    refine z_aload_n X dd_Finder_goOn_67 rfl 0 rfl ?_
    obtain ⟨v17, ev17, h⟩ := zb h
    refine z_get (j := 6) X dd_Finder_goOn_68 kc_7 ki_7 (by decide) km_591 (zgr_v ev17) ?_
    refine z_iload_n X dd_Finder_goOn_71 rfl 3 rfl ?_
    obtain ⟨v18, ev18, h⟩ := zb h
    refine z_iaload X dd_Finder_goOn_72 rfl ev18 ?_
    refine z_aload_n X dd_Finder_goOn_73 rfl 0 rfl ?_
    obtain ⟨v19, ev19, h⟩ := zb h
    refine z_get (j := 7) X dd_Finder_goOn_74 kc_7 ki_7 (by decide) km_592 (zgr_v ev19) ?_
    refine z_iload_n X dd_Finder_goOn_77 rfl 3 rfl ?_
    obtain ⟨v20, ev20, h⟩ := zb h
    refine z_iaload X dd_Finder_goOn_78 rfl ev20 ?_
    refine z_iconst (v := (-1)) X dd_Finder_goOn_79 (by decide) ?_
    refine z_ixor X dd_Finder_goOn_80 ?_
    refine z_iand X dd_Finder_goOn_81 ?_
    obtain ⟨c21, ec21, h⟩ := zb h
    refine z_iastore X dd_Finder_goOn_82 rfl ec21 ?_
    refine z_aload_n X dd_Finder_goOn_83 rfl 0 rfl ?_
    obtain ⟨v22, ev22, h⟩ := zb h
    refine z_get (j := 7) X dd_Finder_goOn_84 kc_7 ki_7 (by decide) km_592 (zgr_v ev22) ?_
    refine z_iload_n X dd_Finder_goOn_87 rfl 3 rfl ?_
    refine z_dup2_11 X dd_Finder_goOn_88 rfl rfl ?_
    obtain ⟨v23, ev23, h⟩ := zb h
    refine z_iaload X dd_Finder_goOn_89 rfl ev23 ?_
    refine z_aload_n X dd_Finder_goOn_90 rfl 0 rfl ?_
    obtain ⟨v24, ev24, h⟩ := zb h
    refine z_get (j := 5) X dd_Finder_goOn_91 kc_7 ki_7 (by decide) km_590 (zgr_v ev24) ?_
    refine z_iload_n X dd_Finder_goOn_94 rfl 3 rfl ?_
    obtain ⟨v25, ev25, h⟩ := zb h
    refine z_iaload X dd_Finder_goOn_95 rfl ev25 ?_
    refine z_ior X dd_Finder_goOn_96 ?_
    obtain ⟨c26, ec26, h⟩ := zb h
    refine z_iastore X dd_Finder_goOn_97 rfl ec26 ?_
    refine z_iload_n X dd_Finder_goOn_98 rfl 2 rfl ?_
    refine z_aload_n X dd_Finder_goOn_99 rfl 0 rfl ?_
    obtain ⟨v27, ev27, h⟩ := zb h
    refine z_get (j := 5) X dd_Finder_goOn_100 kc_7 ki_7 (by decide) km_590 (zgr_v ev27) ?_
    refine z_iload_n X dd_Finder_goOn_103 rfl 3 rfl ?_
    obtain ⟨v28, ev28, h⟩ := zb h
    refine z_iaload X dd_Finder_goOn_104 rfl ev28 ?_
    refine z_ior X dd_Finder_goOn_105 ?_
    refine z_istore_n (lv' := [(2, .int (x2 ||| v28)), (0, .ref x0), (1, .ref x1), (3, .int x3)]) X dd_Finder_goOn_106 rfl (by decide) rfl ?_
    refine z_iinc (v := (x3 + 1)) (lv' := [(3, .int (x3 + 1)), (2, .int (x2 ||| v28)), (0, .ref x0), (1, .ref x1)]) X dd_Finder_goOn_107 3 rfl rfl (by decide) rfl ?_
    refine z_goto (tgt := 54) X dd_Finder_goOn_110 (by decide) ?_
    refine z_sub [2, 3, 1, 0] rfl ?_
    obtain rfl := Option.some.inj h
    exact k0 _ rfl
set_option maxRecDepth 100000 in
set_option maxHeartbeats 4000000 in
theorem t_Finder_goOn_122  (X : zX p s m args cd D cid B bb_Finder_goOn 4 rr_Finder zT) (H : zH s meth B n0 (some (.boolean)) "goOn") {nf : Nat} {s0 : Int32} {c : Zc} {res : Int32 × Zc} (h : f_Finder_goOn_122 nf s0 c = some res) : Zz p l e (zRm 1 26 0 0) s m args below meth cd (MQ below (zQi D cid B res.1 res.2 n0 0) args s 0 0 (fun q => B ≤ q)) D cid B 4 0 0 c 122 [] [.int s0] := by
  unfold f_Finder_goOn_122 at h
  obtain ⟨hz, h⟩ := zrz_s h
  obtain rfl := h
  exact z_zret X H.1 (zn_z hz) H.2.1 H.2.2.1 dd_Finder_goOn_122
set_option maxRecDepth 100000 in
set_option maxHeartbeats 4000000 in
theorem t_Finder_goOn_54  (X : zX p s m args cd D cid B bb_Finder_goOn 4 rr_Finder zT) (H : zH s meth B n0 (some (.boolean)) "goOn") {nf : Nat} {x0 : Nat} {x1 : Nat} {x2 : Int32} {x3 : Int32} {c : Zc} {res : Int32 × Zc} (h : f_Finder_goOn_54 nf x0 x1 x2 x3 c = some res) : Zz p l e (zRm 1 26 0 0) s m args below meth cd (MQ below (zQi D cid B res.1 res.2 n0 0) args s 0 0 (fun q => B ≤ q)) D cid B 4 0 0 c 54 [(0, .ref x0), (1, .ref x1), (2, .int x2), (3, .int x3)] [] := by
  unfold f_Finder_goOn_54 at h
  obtain ⟨b, eb, h⟩ := zb h
  refine zlp_ok (P := fun a : Nat × Nat × Int32 × Int32 × Zc => Zz p l e (zRm 1 26 0 0) s m args below meth cd _ D cid B 4 0 0 a.2.2.2.2 54 [(0, .ref a.1), (1, .ref a.2.1), (2, .int a.2.2.1), (3, .int a.2.2.2.1)] []) (G := fun b : Int32 × Zc => Zz p l e (zRm 1 26 0 0) s m args below meth cd _ D cid B 4 0 0 b.2 113 [(2, .int b.1)] []) (fun a r ha k0 k1 => u_Finder_goOn_54 X H ha k0 k1) nf _ b eb ?_
  refine z_iload_n X dd_Finder_goOn_113 rfl 0 rfl ?_
  refine z_if_eq (tgt := 121) X dd_Finder_goOn_114 (by decide) (fun q29 => ?_) (fun q29 => ?_)
  · rw [if_pos q29] at h
    refine z_iconst (v := 0) X dd_Finder_goOn_121 (by decide) ?_
    refine z_sub [] rfl ?_
    exact t_Finder_goOn_122 X H h
  · rw [if_neg q29] at h
    refine z_iconst (v := 1) X dd_Finder_goOn_117 (by decide) ?_
    refine z_goto (tgt := 122) X dd_Finder_goOn_118 (by decide) ?_
    refine z_sub [] rfl ?_
    exact t_Finder_goOn_122 X H h
set_option maxRecDepth 100000 in
set_option maxHeartbeats 4000000 in
theorem t_Finder_goOn_10  (X : zX p s m args cd D cid B bb_Finder_goOn 4 rr_Finder zT) (H : zH s meth B n0 (some (.boolean)) "goOn") {nf : Nat} {x0 : Nat} {x1 : Nat} {x2 : Int32} {c : Zc} {res : Int32 × Zc} (h : f_Finder_goOn_10 nf x0 x1 x2 c = some res) : Zz p l e (zRm 1 26 0 0) s m args below meth cd (MQ below (zQi D cid B res.1 res.2 n0 0) args s 0 0 (fun q => B ≤ q)) D cid B 4 0 0 c 10 [(0, .ref x0), (1, .ref x1), (2, .int x2)] [] := by
  unfold f_Finder_goOn_10 at h
  obtain ⟨b, eb, h⟩ := zb h
  refine zlp_ok (P := fun a : Nat × Nat × Int32 × Zc => Zz p l e (zRm 1 26 0 0) s m args below meth cd _ D cid B 4 0 0 a.2.2.2 10 [(0, .ref a.1), (1, .ref a.2.1), (2, .int a.2.2.1)] []) (G := fun b : Nat × Nat × Zc => Zz p l e (zRm 1 26 0 0) s m args below meth cd _ D cid B 4 0 0 b.2.2 50 [(0, .ref b.1), (1, .ref b.2.1)] []) (fun a r ha k0 k1 => u_Finder_goOn_10 X H ha k0 k1) nf _ b eb ?_
  refine z_iconst (v := 0) X dd_Finder_goOn_50 (by decide) ?_
  refine z_istore_n (lv' := [(2, .int 0), (0, .ref b.1), (1, .ref b.2.1)]) X dd_Finder_goOn_51 rfl (by decide) rfl ?_
  refine z_iconst (v := 0) X dd_Finder_goOn_52 (by decide) ?_
  refine z_istore_n (lv' := [(3, .int 0), (2, .int 0), (0, .ref b.1), (1, .ref b.2.1)]) X dd_Finder_goOn_53 rfl (by decide) rfl ?_
  refine z_sub [2, 3, 1, 0] rfl ?_
  exact t_Finder_goOn_54 X H h
set_option maxRecDepth 100000 in
set_option maxHeartbeats 4000000 in
theorem c_Finder_goOn (l : Launch) {nf : Nat} {a0 : Nat} {a1 : Nat} {c : Zc} {res : Int32 × Zc} (h : f_Finder_goOn nf a0 a1 c = some res) : zM l yy_Finder_goOn ww_Finder_goOn 1 26 0 0 [.ref a0, .ref a1] c (fun D cid B => zQi D cid B res.1 res.2 c.length 0) := by
  refine z_met (cc := bb_Finder_goOn) (maxL := 4) (ret := (some (.boolean))) (by decide +kernel) rfl (Nat.le_of_ble_eq_true rfl) ?_
  intro p e s m args below meth cd D cid B X h1 h2 h3 h4
  have X : zX p s m args cd D cid B bb_Finder_goOn 4 rr_Finder zT := X
  have H : zH s meth B c.length (some (.boolean)) "goOn" := ⟨h1, h2, h4, h3⟩
  unfold f_Finder_goOn at h
  show Zz p l e (zRm 1 26 0 0) s m args below meth cd _ D cid B 4 0 0 c 0 [(0, .ref a0), (1, .ref a1)] []
  refine z_aload_n X dd_Finder_goOn_0 rfl 0 rfl ?_
  obtain ⟨v1, ev1, h⟩ := zb h
  refine z_get (j := 6) X dd_Finder_goOn_1 kc_7 ki_7 (by decide) km_591 (zgr_v ev1) ?_
  refine z_iconst (v := 0) X dd_Finder_goOn_4 (by decide) ?_
  obtain ⟨q2, eq2, h⟩ := zb h
  refine z_callSv X [.ref v1, .int 0] rfl dd_Finder_goOn_5 (c_Arrays_fill l eq2) (va_cwS 2 X.1.2.2.2.2 (zg_S km_1319 km_162 km_127 km_163) rfl rfl rfl (by decide +kernel) ⟨Nat.le_of_ble_eq_true rfl, Nat.le_of_ble_eq_true rfl⟩) rfl (Nat.le_of_ble_eq_true rfl) ⟨Nat.le_of_ble_eq_true rfl, Nat.le_of_ble_eq_true rfl⟩ ?_
  refine z_iconst (v := 0) X dd_Finder_goOn_8 (by decide) ?_
  refine z_istore_n (lv' := [(2, .int 0), (0, .ref a0), (1, .ref a1)]) X dd_Finder_goOn_9 rfl (by decide) rfl ?_
  refine z_sub [1, 2, 0] rfl ?_
  exact t_Finder_goOn_10 X H h
end ZzM
