section ZzM
variable {p : Program} {l : Launch} {e : Env} {s : State} {m : MethodId} {args : Array Value} {below : List Frame} {meth : Method} {cd : Code} {Q : State → Prop} {D : va_G} {cid : Nat → ClassId} {B n0 : Nat}
theorem dd_Integer_bitCount_0 : decode bb_Integer_bitCount 0 = .ok (.iload_n 0, 1) := by decide +kernel
theorem dd_Integer_bitCount_1 : decode bb_Integer_bitCount 1 = .ok (.iload_n 0, 1) := by decide +kernel
theorem dd_Integer_bitCount_2 : decode bb_Integer_bitCount 2 = .ok (.iconst 1, 1) := by decide +kernel
theorem dd_Integer_bitCount_3 : decode bb_Integer_bitCount 3 = .ok (.iushr, 1) := by decide +kernel
theorem dd_Integer_bitCount_4 : decode bb_Integer_bitCount 4 = .ok (.ldc_w 265, 3) := by decide +kernel
theorem dd_Integer_bitCount_7 : decode bb_Integer_bitCount 7 = .ok (.iand, 1) := by decide +kernel
theorem dd_Integer_bitCount_8 : decode bb_Integer_bitCount 8 = .ok (.isub, 1) := by decide +kernel
theorem dd_Integer_bitCount_9 : decode bb_Integer_bitCount 9 = .ok (.istore_n 0, 1) := by decide +kernel
theorem dd_Integer_bitCount_10 : decode bb_Integer_bitCount 10 = .ok (.iload_n 0, 1) := by decide +kernel
theorem dd_Integer_bitCount_11 : decode bb_Integer_bitCount 11 = .ok (.ldc_w 266, 3) := by decide +kernel
theorem dd_Integer_bitCount_14 : decode bb_Integer_bitCount 14 = .ok (.iand, 1) := by decide +kernel
theorem dd_Integer_bitCount_15 : decode bb_Integer_bitCount 15 = .ok (.iload_n 0, 1) := by decide +kernel
theorem dd_Integer_bitCount_16 : decode bb_Integer_bitCount 16 = .ok (.iconst 2, 1) := by decide +kernel
theorem dd_Integer_bitCount_17 : decode bb_Integer_bitCount 17 = .ok (.iushr, 1) := by decide +kernel
theorem dd_Integer_bitCount_18 : decode bb_Integer_bitCount 18 = .ok (.ldc_w 266, 3) := by decide +kernel
theorem dd_Integer_bitCount_21 : decode bb_Integer_bitCount 21 = .ok (.iand, 1) := by decide +kernel
theorem dd_Integer_bitCount_22 : decode bb_Integer_bitCount 22 = .ok (.iadd, 1) := by decide +kernel
theorem dd_Integer_bitCount_23 : decode bb_Integer_bitCount 23 = .ok (.istore_n 0, 1) := by decide +kernel
theorem dd_Integer_bitCount_24 : decode bb_Integer_bitCount 24 = .ok (.iload_n 0, 1) := by decide +kernel
theorem dd_Integer_bitCount_25 : decode bb_Integer_bitCount 25 = .ok (.iload_n 0, 1) := by decide +kernel
theorem dd_Integer_bitCount_26 : decode bb_Integer_bitCount 26 = .ok (.iconst 4, 1) := by decide +kernel
theorem dd_Integer_bitCount_27 : decode bb_Integer_bitCount 27 = .ok (.iushr, 1) := by decide +kernel
theorem dd_Integer_bitCount_28 : decode bb_Integer_bitCount 28 = .ok (.iadd, 1) := by decide +kernel
theorem dd_Integer_bitCount_29 : decode bb_Integer_bitCount 29 = .ok (.ldc_w 267, 3) := by decide +kernel
theorem dd_Integer_bitCount_32 : decode bb_Integer_bitCount 32 = .ok (.iand, 1) := by decide +kernel
theorem dd_Integer_bitCount_33 : decode bb_Integer_bitCount 33 = .ok (.istore_n 0, 1) := by decide +kernel
theorem dd_Integer_bitCount_34 : decode bb_Integer_bitCount 34 = .ok (.iload_n 0, 1) := by decide +kernel
theorem dd_Integer_bitCount_35 : decode bb_Integer_bitCount 35 = .ok (.iload_n 0, 1) := by decide +kernel
theorem dd_Integer_bitCount_36 : decode bb_Integer_bitCount 36 = .ok (.bipush 8, 2) := by decide +kernel
theorem dd_Integer_bitCount_38 : decode bb_Integer_bitCount 38 = .ok (.iushr, 1) := by decide +kernel
theorem dd_Integer_bitCount_39 : decode bb_Integer_bitCount 39 = .ok (.iadd, 1) := by decide +kernel
theorem dd_Integer_bitCount_40 : decode bb_Integer_bitCount 40 = .ok (.istore_n 0, 1) := by decide +kernel
theorem dd_Integer_bitCount_41 : decode bb_Integer_bitCount 41 = .ok (.iload_n 0, 1) := by decide +kernel
theorem dd_Integer_bitCount_42 : decode bb_Integer_bitCount 42 = .ok (.iload_n 0, 1) := by decide +kernel
theorem dd_Integer_bitCount_43 : decode bb_Integer_bitCount 43 = .ok (.bipush 16, 2) := by decide +kernel
theorem dd_Integer_bitCount_45 : decode bb_Integer_bitCount 45 = .ok (.iushr, 1) := by decide +kernel
theorem dd_Integer_bitCount_46 : decode bb_Integer_bitCount 46 = .ok (.iadd, 1) := by decide +kernel
theorem dd_Integer_bitCount_47 : decode bb_Integer_bitCount 47 = .ok (.istore_n 0, 1) := by decide +kernel
theorem dd_Integer_bitCount_48 : decode bb_Integer_bitCount 48 = .ok (.iload_n 0, 1) := by decide +kernel
theorem dd_Integer_bitCount_49 : decode bb_Integer_bitCount 49 = .ok (.bipush 63, 2) := by decide +kernel
theorem dd_Integer_bitCount_51 : decode bb_Integer_bitCount 51 = .ok (.iand, 1) := by decide +kernel
theorem dd_Integer_bitCount_52 : decode bb_Integer_bitCount 52 = .ok (.ireturn, 1) := by decide +kernel
set_option maxRecDepth 100000 in
set_option maxHeartbeats 4000000 in
theorem c_Integer_bitCount (l : Launch) {nf : Nat} {a0 : Int32} {c : Zc} {res : Int32 × Zc} (h : f_Integer_bitCount nf a0 c = some res) : zM l yy_Integer_bitCount ww_Integer_bitCount 0 0 0 0 [.int a0] c (fun D cid B => zQi D cid B res.1 res.2 c.length 0) := by
  refine z_met (cc := bb_Integer_bitCount) (maxL := 1) (ret := (some (.int))) (by decide +kernel) rfl (Nat.le_of_ble_eq_true rfl) ?_
  intro p e s m args below meth cd D cid B X h1 h2 h3 h4
  have X : zX p s m args cd D cid B bb_Integer_bitCount 1 rr_Integer zT := X
  have H : zH s meth B c.length (some (.int)) "bitCount" := ⟨h1, h2, h4, h3⟩
  unfold f_Integer_bitCount at h
  show Zz p l e (zRm 0 0 0 0) s m args below meth cd _ D cid B 1 0 0 c 0 [(0, .int a0)] []
  refine z_iload_n X dd_Integer_bitCount_0 rfl 0 rfl ?_
  refine z_iload_n X dd_Integer_bitCount_1 rfl 0 rfl ?_
  refine z_iconst (v := 1) X dd_Integer_bitCount_2 (by decide) ?_
  refine z_iushr X dd_Integer_bitCount_3 ?_
  refine z_ldcw (v := 1431655765) X dd_Integer_bitCount_4 km_1504 ?_
  refine z_iand X dd_Integer_bitCount_7 ?_
  refine z_isub X dd_Integer_bitCount_8 ?_
  refine z_istore_n (lv' := [(0, .int (a0 - ((Int32.toUInt32 a0 >>> (Int32.toUInt32 1 &&& Int32.toUInt32 31)).toInt32 &&& 1431655765)))]) X dd_Integer_bitCount_9 rfl (by decide) rfl ?_
  refine z_iload_n X dd_Integer_bitCount_10 rfl 0 rfl ?_
  refine z_ldcw (v := 858993459) X dd_Integer_bitCount_11 km_1505 ?_
  refine z_iand X dd_Integer_bitCount_14 ?_
  refine z_iload_n X dd_Integer_bitCount_15 rfl 0 rfl ?_
  refine z_iconst (v := 2) X dd_Integer_bitCount_16 (by decide) ?_
  refine z_iushr X dd_Integer_bitCount_17 ?_
  refine z_ldcw (v := 858993459) X dd_Integer_bitCount_18 km_1505 ?_
  refine z_iand X dd_Integer_bitCount_21 ?_
  refine z_iadd X dd_Integer_bitCount_22 ?_
  refine z_istore_n (lv' := [(0, .int (((a0 - ((Int32.toUInt32 a0 >>> (Int32.toUInt32 1 &&& Int32.toUInt32 31)).toInt32 &&& 1431655765)) &&& 858993459) + ((Int32.toUInt32 (a0 - ((Int32.toUInt32 a0 >>> (Int32.toUInt32 1 &&& Int32.toUInt32 31)).toInt32 &&& 1431655765)) >>> (Int32.toUInt32 2 &&& Int32.toUInt32 31)).toInt32 &&& 858993459)))]) X dd_Integer_bitCount_23 rfl (by decide) rfl ?_
  refine z_iload_n X dd_Integer_bitCount_24 rfl 0 rfl ?_
  refine z_iload_n X dd_Integer_bitCount_25 rfl 0 rfl ?_
  refine z_iconst (v := 4) X dd_Integer_bitCount_26 (by decide) ?_
  refine z_iushr X dd_Integer_bitCount_27 ?_
  refine z_iadd X dd_Integer_bitCount_28 ?_
  refine z_ldcw (v := 252645135) X dd_Integer_bitCount_29 km_1506 ?_
  refine z_iand X dd_Integer_bitCount_32 ?_
  refine z_istore_n (lv' := [(0, .int (((((a0 - ((Int32.toUInt32 a0 >>> (Int32.toUInt32 1 &&& Int32.toUInt32 31)).toInt32 &&& 1431655765)) &&& 858993459) + ((Int32.toUInt32 (a0 - ((Int32.toUInt32 a0 >>> (Int32.toUInt32 1 &&& Int32.toUInt32 31)).toInt32 &&& 1431655765)) >>> (Int32.toUInt32 2 &&& Int32.toUInt32 31)).toInt32 &&& 858993459)) + (Int32.toUInt32 (((a0 - ((Int32.toUInt32 a0 >>> (Int32.toUInt32 1 &&& Int32.toUInt32 31)).toInt32 &&& 1431655765)) &&& 858993459) + ((Int32.toUInt32 (a0 - ((Int32.toUInt32 a0 >>> (Int32.toUInt32 1 &&& Int32.toUInt32 31)).toInt32 &&& 1431655765)) >>> (Int32.toUInt32 2 &&& Int32.toUInt32 31)).toInt32 &&& 858993459)) >>> (Int32.toUInt32 4 &&& Int32.toUInt32 31)).toInt32) &&& 252645135))]) X dd_Integer_bitCount_33 rfl (by decide) rfl ?_
  refine z_iload_n X dd_Integer_bitCount_34 rfl 0 rfl ?_
  refine z_iload_n X dd_Integer_bitCount_35 rfl 0 rfl ?_
  refine z_bipush (v := 8) X dd_Integer_bitCount_36 (by decide) ?_
  refine z_iushr X dd_Integer_bitCount_38 ?_
  refine z_iadd X dd_Integer_bitCount_39 ?_
  refine z_istore_n (lv' := [(0, .int ((((((a0 - ((Int32.toUInt32 a0 >>> (Int32.toUInt32 1 &&& Int32.toUInt32 31)).toInt32 &&& 1431655765)) &&& 858993459) + ((Int32.toUInt32 (a0 - ((Int32.toUInt32 a0 >>> (Int32.toUInt32 1 &&& Int32.toUInt32 31)).toInt32 &&& 1431655765)) >>> (Int32.toUInt32 2 &&& Int32.toUInt32 31)).toInt32 &&& 858993459)) + (Int32.toUInt32 (((a0 - ((Int32.toUInt32 a0 >>> (Int32.toUInt32 1 &&& Int32.toUInt32 31)).toInt32 &&& 1431655765)) &&& 858993459) + ((Int32.toUInt32 (a0 - ((Int32.toUInt32 a0 >>> (Int32.toUInt32 1 &&& Int32.toUInt32 31)).toInt32 &&& 1431655765)) >>> (Int32.toUInt32 2 &&& Int32.toUInt32 31)).toInt32 &&& 858993459)) >>> (Int32.toUInt32 4 &&& Int32.toUInt32 31)).toInt32) &&& 252645135) + (Int32.toUInt32 (((((a0 - ((Int32.toUInt32 a0 >>> (Int32.toUInt32 1 &&& Int32.toUInt32 31)).toInt32 &&& 1431655765)) &&& 858993459) + ((Int32.toUInt32 (a0 - ((Int32.toUInt32 a0 >>> (Int32.toUInt32 1 &&& Int32.toUInt32 31)).toInt32 &&& 1431655765)) >>> (Int32.toUInt32 2 &&& Int32.toUInt32 31)).toInt32 &&& 858993459)) + (Int32.toUInt32 (((a0 - ((Int32.toUInt32 a0 >>> (Int32.toUInt32 1 &&& Int32.toUInt32 31)).toInt32 &&& 1431655765)) &&& 858993459) + ((Int32.toUInt32 (a0 - ((Int32.toUInt32 a0 >>> (Int32.toUInt32 1 &&& Int32.toUInt32 31)).toInt32 &&& 1431655765)) >>> (Int32.toUInt32 2 &&& Int32.toUInt32 31)).toInt32 &&& 858993459)) >>> (Int32.toUInt32 4 &&& Int32.toUInt32 31)).toInt32) &&& 252645135) >>> (Int32.toUInt32 8 &&& Int32.toUInt32 31)).toInt32))]) X dd_Integer_bitCount_40 rfl (by decide) rfl ?_
  refine z_iload_n X dd_Integer_bitCount_41 rfl 0 rfl ?_
  refine z_iload_n X dd_Integer_bitCount_42 rfl 0 rfl ?_
  refine z_bipush (v := 16) X dd_Integer_bitCount_43 (by decide) ?_
  refine z_iushr X dd_Integer_bitCount_45 ?_
  refine z_iadd X dd_Integer_bitCount_46 ?_
  refine z_istore_n (lv' := [(0, .int (((((((a0 - ((Int32.toUInt32 a0 >>> (Int32.toUInt32 1 &&& Int32.toUInt32 31)).toInt32 &&& 1431655765)) &&& 858993459) + ((Int32.toUInt32 (a0 - ((Int32.toUInt32 a0 >>> (Int32.toUInt32 1 &&& Int32.toUInt32 31)).toInt32 &&& 1431655765)) >>> (Int32.toUInt32 2 &&& Int32.toUInt32 31)).toInt32 &&& 858993459)) + (Int32.toUInt32 (((a0 - ((Int32.toUInt32 a0 >>> (Int32.toUInt32 1 &&& Int32.toUInt32 31)).toInt32 &&& 1431655765)) &&& 858993459) + ((Int32.toUInt32 (a0 - ((Int32.toUInt32 a0 >>> (Int32.toUInt32 1 &&& Int32.toUInt32 31)).toInt32 &&& 1431655765)) >>> (Int32.toUInt32 2 &&& Int32.toUInt32 31)).toInt32 &&& 858993459)) >>> (Int32.toUInt32 4 &&& Int32.toUInt32 31)).toInt32) &&& 252645135) + (Int32.toUInt32 (((((a0 - ((Int32.toUInt32 a0 >>> (Int32.toUInt32 1 &&& Int32.toUInt32 31)).toInt32 &&& 1431655765)) &&& 858993459) + ((Int32.toUInt32 (a0 - ((Int32.toUInt32 a0 >>> (Int32.toUInt32 1 &&& Int32.toUInt32 31)).toInt32 &&& 1431655765)) >>> (Int32.toUInt32 2 &&& Int32.toUInt32 31)).toInt32 &&& 858993459)) + (Int32.toUInt32 (((a0 - ((Int32.toUInt32 a0 >>> (Int32.toUInt32 1 &&& Int32.toUInt32 31)).toInt32 &&& 1431655765)) &&& 858993459) + ((Int32.toUInt32 (a0 - ((Int32.toUInt32 a0 >>> (Int32.toUInt32 1 &&& Int32.toUInt32 31)).toInt32 &&& 1431655765)) >>> (Int32.toUInt32 2 &&& Int32.toUInt32 31)).toInt32 &&& 858993459)) >>> (Int32.toUInt32 4 &&& Int32.toUInt32 31)).toInt32) &&& 252645135) >>> (Int32.toUInt32 8 &&& Int32.toUInt32 31)).toInt32) + (Int32.toUInt32 ((((((a0 - ((Int32.toUInt32 a0 >>> (Int32.toUInt32 1 &&& Int32.toUInt32 31)).toInt32 &&& 1431655765)) &&& 858993459) + ((Int32.toUInt32 (a0 - ((Int32.toUInt32 a0 >>> (Int32.toUInt32 1 &&& Int32.toUInt32 31)).toInt32 &&& 1431655765)) >>> (Int32.toUInt32 2 &&& Int32.toUInt32 31)).toInt32 &&& 858993459)) + (Int32.toUInt32 (((a0 - ((Int32.toUInt32 a0 >>> (Int32.toUInt32 1 &&& Int32.toUInt32 31)).toInt32 &&& 1431655765)) &&& 858993459) + ((Int32.toUInt32 (a0 - ((Int32.toUInt32 a0 >>> (Int32.toUInt32 1 &&& Int32.toUInt32 31)).toInt32 &&& 1431655765)) >>> (Int32.toUInt32 2 &&& Int32.toUInt32 31)).toInt32 &&& 858993459)) >>> (Int32.toUInt32 4 &&& Int32.toUInt32 31)).toInt32) &&& 252645135) + (Int32.toUInt32 (((((a0 - ((Int32.toUInt32 a0 >>> (Int32.toUInt32 1 &&& Int32.toUInt32 31)).toInt32 &&& 1431655765)) &&& 858993459) + ((Int32.toUInt32 (a0 - ((Int32.toUInt32 a0 >>> (Int32.toUInt32 1 &&& Int32.toUInt32 31)).toInt32 &&& 1431655765)) >>> (Int32.toUInt32 2 &&& Int32.toUInt32 31)).toInt32 &&& 858993459)) + (Int32.toUInt32 (((a0 - ((Int32.toUInt32 a0 >>> (Int32.toUInt32 1 &&& Int32.toUInt32 31)).toInt32 &&& 1431655765)) &&& 858993459) + ((Int32.toUInt32 (a0 - ((Int32.toUInt32 a0 >>> (Int32.toUInt32 1 &&& Int32.toUInt32 31)).toInt32 &&& 1431655765)) >>> (Int32.toUInt32 2 &&& Int32.toUInt32 31)).toInt32 &&& 858993459)) >>> (Int32.toUInt32 4 &&& Int32.toUInt32 31)).toInt32) &&& 252645135) >>> (Int32.toUInt32 8 &&& Int32.toUInt32 31)).toInt32) >>> (Int32.toUInt32 16 &&& Int32.toUInt32 31)).toInt32))]) X dd_Integer_bitCount_47 rfl (by decide) rfl ?_
  refine z_iload_n X dd_Integer_bitCount_48 rfl 0 rfl ?_
  refine z_bipush (v := 63) X dd_Integer_bitCount_49 (by decide) ?_
  refine z_iand X dd_Integer_bitCount_51 ?_
  obtain rfl := Option.some.inj h
  exact z_iret X H.1 H.2.1 H.2.2.1 dd_Integer_bitCount_52
theorem dd_PQ_pairs_0 : decode bb_PQ_pairs 0 = .ok (.iload_n 1, 1) := by decide +kernel
theorem dd_PQ_pairs_1 : decode bb_PQ_pairs 1 = .ok (.ifCond .lt 8, 3) := by decide +kernel
theorem dd_PQ_pairs_4 : decode bb_PQ_pairs 4 = .ok (.iload_n 1, 1) := by decide +kernel
theorem dd_PQ_pairs_5 : decode bb_PQ_pairs 5 = .ok (.iconst 4, 1) := by decide +kernel
theorem dd_PQ_pairs_6 : decode bb_PQ_pairs 6 = .ok (.if_icmp .lt 5, 3) := by decide +kernel
theorem dd_PQ_pairs_9 : decode bb_PQ_pairs 9 = .ok (.iconst (-1), 1) := by decide +kernel
theorem dd_PQ_pairs_10 : decode bb_PQ_pairs 10 = .ok (.ireturn, 1) := by decide +kernel
theorem dd_PQ_pairs_11 : decode bb_PQ_pairs 11 = .ok (.aload_n 0, 1) := by decide +kernel
theorem dd_PQ_pairs_12 : decode bb_PQ_pairs 12 = .ok (.getfield 50, 3) := by decide +kernel
theorem dd_PQ_pairs_15 : decode bb_PQ_pairs 15 = .ok (.iload_n 1, 1) := by decide +kernel
theorem dd_PQ_pairs_16 : decode bb_PQ_pairs 16 = .ok (.invokevirtual 151, 3) := by decide +kernel
theorem dd_PQ_pairs_19 : decode bb_PQ_pairs 19 = .ok (.ifCond .ne 6, 3) := by decide +kernel
theorem dd_PQ_pairs_22 : decode bb_PQ_pairs 22 = .ok (.bipush (-2), 2) := by decide +kernel
theorem dd_PQ_pairs_24 : decode bb_PQ_pairs 24 = .ok (.ireturn, 1) := by decide +kernel
theorem dd_PQ_pairs_25 : decode bb_PQ_pairs 25 = .ok (.aload_n 0, 1) := by decide +kernel
theorem dd_PQ_pairs_26 : decode bb_PQ_pairs 26 = .ok (.getfield 50, 3) := by decide +kernel
theorem dd_PQ_pairs_29 : decode bb_PQ_pairs 29 = .ok (.invokevirtual 161, 3) := by decide +kernel
theorem dd_PQ_pairs_32 : decode bb_PQ_pairs 32 = .ok (.ifCond .eq 6, 3) := by decide +kernel
theorem dd_PQ_pairs_35 : decode bb_PQ_pairs 35 = .ok (.bipush (-4), 2) := by decide +kernel
theorem dd_PQ_pairs_37 : decode bb_PQ_pairs 37 = .ok (.ireturn, 1) := by decide +kernel
theorem dd_PQ_pairs_38 : decode bb_PQ_pairs 38 = .ok (.iconst 0, 1) := by decide +kernel
theorem dd_PQ_pairs_39 : decode bb_PQ_pairs 39 = .ok (.istore_n 2, 1) := by decide +kernel
theorem dd_PQ_pairs_40 : decode bb_PQ_pairs 40 = .ok (.iconst 0, 1) := by decide +kernel
theorem dd_PQ_pairs_41 : decode bb_PQ_pairs 41 = .ok (.istore_n 3, 1) := by decide +kernel
theorem dd_PQ_pairs_42 : decode bb_PQ_pairs 42 = .ok (.iload_n 3, 1) := by decide +kernel
theorem dd_PQ_pairs_43 : decode bb_PQ_pairs 43 = .ok (.aload_n 0, 1) := by decide +kernel
theorem dd_PQ_pairs_44 : decode bb_PQ_pairs 44 = .ok (.getfield 16, 3) := by decide +kernel
theorem dd_PQ_pairs_47 : decode bb_PQ_pairs 47 = .ok (.getfield 115, 3) := by decide +kernel
theorem dd_PQ_pairs_50 : decode bb_PQ_pairs 50 = .ok (.if_icmp .ge 27, 3) := by decide +kernel
theorem dd_PQ_pairs_53 : decode bb_PQ_pairs 53 = .ok (.iload_n 2, 1) := by decide +kernel
theorem dd_PQ_pairs_54 : decode bb_PQ_pairs 54 = .ok (.aload_n 0, 1) := by decide +kernel
theorem dd_PQ_pairs_55 : decode bb_PQ_pairs 55 = .ok (.getfield 16, 3) := by decide +kernel
theorem dd_PQ_pairs_58 : decode bb_PQ_pairs 58 = .ok (.bipush 8, 2) := by decide +kernel
theorem dd_PQ_pairs_60 : decode bb_PQ_pairs 60 = .ok (.iload_n 1, 1) := by decide +kernel
theorem dd_PQ_pairs_61 : decode bb_PQ_pairs 61 = .ok (.iadd, 1) := by decide +kernel
theorem dd_PQ_pairs_62 : decode bb_PQ_pairs 62 = .ok (.iload_n 3, 1) := by decide +kernel
theorem dd_PQ_pairs_63 : decode bb_PQ_pairs 63 = .ok (.invokevirtual 188, 3) := by decide +kernel
theorem dd_PQ_pairs_66 : decode bb_PQ_pairs 66 = .ok (.invokestatic 191, 3) := by decide +kernel
theorem dd_PQ_pairs_69 : decode bb_PQ_pairs 69 = .ok (.iadd, 1) := by decide +kernel
theorem dd_PQ_pairs_70 : decode bb_PQ_pairs 70 = .ok (.istore_n 2, 1) := by decide +kernel
theorem dd_PQ_pairs_71 : decode bb_PQ_pairs 71 = .ok (.iinc 3 1, 3) := by decide +kernel
theorem dd_PQ_pairs_74 : decode bb_PQ_pairs 74 = .ok (.goto (-32), 3) := by decide +kernel
theorem dd_PQ_pairs_77 : decode bb_PQ_pairs 77 = .ok (.iload_n 2, 1) := by decide +kernel
theorem dd_PQ_pairs_78 : decode bb_PQ_pairs 78 = .ok (.ireturn, 1) := by decide +kernel
set_option maxRecDepth 100000 in
set_option maxHeartbeats 4000000 in
theorem t_PQ_pairs_9  (X : zX p s m args cd D cid B bb_PQ_pairs 4 rr_PQ zT) (H : zH s meth B n0 (some (.int)) "pairs") {nf : Nat}  {c : Zc} {res : Int32 × Zc} (h : f_PQ_pairs_9 nf  c = some res) : Zz p l e (zRm 7 170 0 0) s m args below meth cd (MQ below (zQi D cid B res.1 res.2 n0 0) args s 0 0 (fun q => B ≤ q)) D cid B 4 0 0 c 9 [] [] := by
  unfold f_PQ_pairs_9 at h
  refine z_iconst (v := (-1)) X dd_PQ_pairs_9 (by decide) ?_
  obtain rfl := Option.some.inj h
  exact z_iret X H.1 H.2.1 H.2.2.1 dd_PQ_pairs_10
set_option maxRecDepth 100000 in
set_option maxHeartbeats 4000000 in
theorem u_PQ_pairs_42  (X : zX p s m args cd D cid B bb_PQ_pairs 4 rr_PQ zT) (H : zH s meth B n0 (some (.int)) "pairs") {nf : Nat} {x0 : Nat} {x1 : Int32} {x2 : Int32} {x3 : Int32} {c : Zc} {r : (Nat × Int32 × Int32 × Int32 × Zc) ⊕ (Int32 × Zc)} (h : g_PQ_pairs_42 nf x0 x1 x2 x3 c = some r) (k0 : ∀ a, r = .inl a → (fun a : Nat × Int32 × Int32 × Int32 × Zc => Zz p l e (zRm 7 170 0 0) s m args below meth cd Q D cid B 4 0 0 a.2.2.2.2 42 [(0, .ref a.1), (1, .int a.2.1), (2, .int a.2.2.1), (3, .int a.2.2.2.1)] []) a) (k1 : ∀ b, r = .inr b → (fun b : Int32 × Zc => Zz p l e (zRm 7 170 0 0) s m args below meth cd Q D cid B 4 0 0 b.2 77 [(2, .int b.1)] []) b) : Zz p l e (zRm 7 170 0 0) s m args below meth cd Q D cid B 4 0 0 c 42 [(0, .ref x0), (1, .int x1), (2, .int x2), (3, .int x3)] [] := by
  unfold g_PQ_pairs_42 at h
  refine z_iload_n X dd_PQ_pairs_42 rfl 3 rfl ?_
  refine z_aload_n X dd_PQ_pairs_43 rfl 0 rfl ?_
  obtain ⟨v11, ev11, h⟩ := zb h
  refine z_get (j := 1) X dd_PQ_pairs_44 kc_11 ki_11 (by decide) km_690 (zgr_v ev11) ?_
  obtain ⟨v12, ev12, h⟩ := zb h
  refine z_get (j := 7) X dd_PQ_pairs_47 kc_0 ki_0 (by decide) km_177 (zgi_v ev12) ?_
  refine z_icmp_ge (tgt := 77) X dd_PQ_pairs_50 (by decide) (fun q13 => ?_) (fun q13 => ?_)
  · rw [if_pos q13] at h
    refine z_sub [2] rfl ?_
    obtain rfl := Option.some.inj h
    exact k1 _ rfl
  · rw [if_neg q13] at h
    refine z_iload_n X dd_PQ_pairs_53 rfl 2 rfl ?_
    refine z_aload_n X dd_PQ_pairs_54 rfl 0 rfl ?_
    obtain ⟨v14, ev14, h⟩ := zb h
    refine z_get (j := 1) X dd_PQ_pairs_55 kc_11 ki_11 (by decide) km_690 (zgr_v ev14) ?_
    refine z_bipush (v := 8) X dd_PQ_pairs_58 (by decide) ?_
    refine z_iload_n X dd_PQ_pairs_60 rfl 1 rfl ?_
    refine z_iadd X dd_PQ_pairs_61 ?_
    refine z_iload_n X dd_PQ_pairs_62 rfl 3 rfl ?_
    obtain ⟨w16, ew16, h⟩ := zb h
    obtain ⟨q15, eq15, h⟩ := zb h
    refine z_callVi X [.int (8 + x1), .int x3] rfl dd_PQ_pairs_63 (c_Graph_reached l eq15) (cwV 2 X.1.2.2.2.2 (zg_V km_1496 km_1384 km_1385 km_126 km_1386) rfl rfl rfl (by decide +kernel) ⟨Nat.le_of_ble_eq_true rfl, Nat.le_of_ble_eq_true rfl⟩) (zob_s ew16) kc_0 rfl (Nat.le_of_ble_eq_true rfl) ⟨Nat.le_of_ble_eq_true rfl, Nat.le_of_ble_eq_true rfl⟩ ?_
    obtain ⟨q17, eq17, h⟩ := zb h
    refine z_callSi X [.int q15.1] rfl dd_PQ_pairs_66 (c_Integer_bitCount l eq17) (va_cwS 1 X.1.2.2.2.2 (zg_S km_1501 km_1502 km_145 km_1503) rfl rfl rfl (by decide +kernel) ⟨Nat.le_of_ble_eq_true rfl, Nat.le_of_ble_eq_true rfl⟩) rfl (Nat.le_of_ble_eq_true rfl) ⟨Nat.le_of_ble_eq_true rfl, Nat.le_of_ble_eq_true rfl⟩ ?_
    refine z_iadd X dd_PQ_pairs_69 ?_
    refine z_istore_n (lv' := [(2, .int (x2 + q17.1)), (0, .ref x0), (1, .int x1), (3, .int x3)]) X dd_PQ_pairs_70 rfl (by decide) rfl ?_
    refine z_iinc (v := (x3 + 1)) (lv' := [(3, .int (x3 + 1)), (2, .int (x2 + q17.1)), (0, .ref x0), (1, .int x1)]) X dd_PQ_pairs_71 3 rfl rfl (by decide) rfl ?_
    refine z_goto (tgt := 42) X dd_PQ_pairs_74 (by decide) ?_
    refine z_sub [2, 3, 1, 0] rfl ?_
    obtain rfl := Option.some.inj h
    exact k0 _ rfl
set_option maxRecDepth 100000 in
set_option maxHeartbeats 4000000 in
theorem t_PQ_pairs_42  (X : zX p s m args cd D cid B bb_PQ_pairs 4 rr_PQ zT) (H : zH s meth B n0 (some (.int)) "pairs") {nf : Nat} {x0 : Nat} {x1 : Int32} {x2 : Int32} {x3 : Int32} {c : Zc} {res : Int32 × Zc} (h : f_PQ_pairs_42 nf x0 x1 x2 x3 c = some res) : Zz p l e (zRm 7 170 0 0) s m args below meth cd (MQ below (zQi D cid B res.1 res.2 n0 0) args s 0 0 (fun q => B ≤ q)) D cid B 4 0 0 c 42 [(0, .ref x0), (1, .int x1), (2, .int x2), (3, .int x3)] [] := by
  unfold f_PQ_pairs_42 at h
  obtain ⟨b, eb, h⟩ := zb h
  refine zlp_ok (P := fun a : Nat × Int32 × Int32 × Int32 × Zc => Zz p l e (zRm 7 170 0 0) s m args below meth cd _ D cid B 4 0 0 a.2.2.2.2 42 [(0, .ref a.1), (1, .int a.2.1), (2, .int a.2.2.1), (3, .int a.2.2.2.1)] []) (G := fun b : Int32 × Zc => Zz p l e (zRm 7 170 0 0) s m args below meth cd _ D cid B 4 0 0 b.2 77 [(2, .int b.1)] []) (fun a r ha k0 k1 => u_PQ_pairs_42 X H ha k0 k1) nf _ b eb ?_
  refine z_iload_n X dd_PQ_pairs_77 rfl 0 rfl ?_
  obtain rfl := Option.some.inj h
  exact z_iret X H.1 H.2.1 H.2.2.1 dd_PQ_pairs_78
set_option maxRecDepth 100000 in
set_option maxHeartbeats 4000000 in
theorem c_PQ_pairs (l : Launch) {nf : Nat} {a0 : Nat} {a1 : Int32} {c : Zc} {res : Int32 × Zc} (h : f_PQ_pairs nf a0 a1 c = some res) : zM l yy_PQ_pairs ww_PQ_pairs 7 170 0 0 [.ref a0, .int a1] c (fun D cid B => zQi D cid B res.1 res.2 c.length 0) := by
  refine z_met (cc := bb_PQ_pairs) (maxL := 4) (ret := (some (.int))) (by decide +kernel) rfl (Nat.le_of_ble_eq_true rfl) ?_
  intro p e s m args below meth cd D cid B X h1 h2 h3 h4
  have X : zX p s m args cd D cid B bb_PQ_pairs 4 rr_PQ zT := X
  have H : zH s meth B c.length (some (.int)) "pairs" := ⟨h1, h2, h4, h3⟩
  unfold f_PQ_pairs at h
  show Zz p l e (zRm 7 170 0 0) s m args below meth cd _ D cid B 4 0 0 c 0 [(0, .ref a0), (1, .int a1)] []
  refine z_iload_n X dd_PQ_pairs_0 rfl 1 rfl ?_
  refine z_if_lt (tgt := 9) X dd_PQ_pairs_1 (by decide) (fun q1 => ?_) (fun q1 => ?_)
  · rw [if_pos q1] at h
    refine z_sub [] rfl ?_
    exact t_PQ_pairs_9 X H h
  · rw [if_neg q1] at h
    refine z_iload_n X dd_PQ_pairs_4 rfl 1 rfl ?_
    refine z_iconst (v := 4) X dd_PQ_pairs_5 (by decide) ?_
    refine z_icmp_lt (tgt := 11) X dd_PQ_pairs_6 (by decide) (fun q2 => ?_) (fun q2 => ?_)
    · rw [if_pos q2] at h
      refine z_aload_n X dd_PQ_pairs_11 rfl 0 rfl ?_
      obtain ⟨v3, ev3, h⟩ := zb h
      refine z_get (j := 5) X dd_PQ_pairs_12 kc_11 ki_11 (by decide) km_694 (zgr_v ev3) ?_
      refine z_iload_n X dd_PQ_pairs_15 rfl 1 rfl ?_
      obtain ⟨w5, ew5, h⟩ := zb h
      obtain ⟨q4, eq4, h⟩ := zb h
      refine z_callVi X [.int a1] rfl dd_PQ_pairs_16 (c_RuleBook_has l eq4) (cwV 1 X.1.2.2.2.2 (zg_V km_1242 km_1243 km_1244 km_135 km_1245) rfl rfl rfl (by decide +kernel) ⟨Nat.le_of_ble_eq_true rfl, Nat.le_of_ble_eq_true rfl⟩) (zob_s ew5) kc_8 rfl (Nat.le_of_ble_eq_true rfl) ⟨Nat.le_of_ble_eq_true rfl, Nat.le_of_ble_eq_true rfl⟩ ?_
      refine z_if_ne (tgt := 25) X dd_PQ_pairs_19 (by decide) (fun q6 => ?_) (fun q6 => ?_)
      · rw [if_neg q6] at h
        refine z_aload_n X dd_PQ_pairs_25 rfl 0 rfl ?_
        obtain ⟨v7, ev7, h⟩ := zb h
        refine z_get (j := 5) X dd_PQ_pairs_26 kc_11 ki_11 (by decide) km_694 (zgr_v ev7) ?_
        obtain ⟨w9, ew9, h⟩ := zb h
        obtain ⟨q8, eq8, h⟩ := zb h
        refine z_callVi X [] rfl dd_PQ_pairs_29 (c_RuleBook_settle l eq8) (cwV 0 X.1.2.2.2.2 (zg_V km_1254 km_1255 km_1256 km_135 km_1257) rfl rfl rfl (by decide +kernel) ⟨Nat.le_of_ble_eq_true rfl, Nat.le_of_ble_eq_true rfl⟩) (zob_s ew9) kc_8 rfl (Nat.le_of_ble_eq_true rfl) ⟨Nat.le_of_ble_eq_true rfl, Nat.le_of_ble_eq_true rfl⟩ ?_
        refine z_if_eq (tgt := 38) X dd_PQ_pairs_32 (by decide) (fun q10 => ?_) (fun q10 => ?_)
        · rw [if_pos q10] at h
          refine z_iconst (v := 0) X dd_PQ_pairs_38 (by decide) ?_
          refine z_istore_n (lv' := [(2, .int 0), (0, .ref a0), (1, .int a1)]) X dd_PQ_pairs_39 rfl (by decide) rfl ?_
          refine z_iconst (v := 0) X dd_PQ_pairs_40 (by decide) ?_
          refine z_istore_n (lv' := [(3, .int 0), (2, .int 0), (0, .ref a0), (1, .int a1)]) X dd_PQ_pairs_41 rfl (by decide) rfl ?_
          refine z_sub [2, 3, 1, 0] rfl ?_
          exact t_PQ_pairs_42 X H h
        · rw [if_neg q10] at h
          refine z_bipush (v := (-4)) X dd_PQ_pairs_35 (by decide) ?_
          obtain rfl := Option.some.inj h
          exact z_iret X H.1 H.2.1 H.2.2.1 dd_PQ_pairs_37
      · rw [if_pos q6] at h
        refine z_bipush (v := (-2)) X dd_PQ_pairs_22 (by decide) ?_
        obtain rfl := Option.some.inj h
        exact z_iret X H.1 H.2.1 H.2.2.1 dd_PQ_pairs_24
    · rw [if_neg q2] at h
      refine z_sub [] rfl ?_
      exact t_PQ_pairs_9 X H h
theorem dd_PQ_least_0 : decode bb_PQ_least 0 = .ok (.iload_n 1, 1) := by decide +kernel
theorem dd_PQ_least_1 : decode bb_PQ_least 1 = .ok (.ifCond .lt 30, 3) := by decide +kernel
theorem dd_PQ_least_4 : decode bb_PQ_least 4 = .ok (.iload_n 1, 1) := by decide +kernel
theorem dd_PQ_least_5 : decode bb_PQ_least 5 = .ok (.iconst 4, 1) := by decide +kernel
theorem dd_PQ_least_6 : decode bb_PQ_least 6 = .ok (.if_icmp .ge 25, 3) := by decide +kernel
theorem dd_PQ_least_9 : decode bb_PQ_least 9 = .ok (.aload_n 0, 1) := by decide +kernel
theorem dd_PQ_least_10 : decode bb_PQ_least 10 = .ok (.getfield 16, 3) := by decide +kernel
theorem dd_PQ_least_13 : decode bb_PQ_least 13 = .ok (.iload_n 2, 1) := by decide +kernel
theorem dd_PQ_least_14 : decode bb_PQ_least 14 = .ok (.invokevirtual 90, 3) := by decide +kernel
theorem dd_PQ_least_17 : decode bb_PQ_least 17 = .ok (.ifCond .eq 14, 3) := by decide +kernel
theorem dd_PQ_least_20 : decode bb_PQ_least 20 = .ok (.aload_n 0, 1) := by decide +kernel
theorem dd_PQ_least_21 : decode bb_PQ_least 21 = .ok (.getfield 16, 3) := by decide +kernel
theorem dd_PQ_least_24 : decode bb_PQ_least 24 = .ok (.iload_n 3, 1) := by decide +kernel
theorem dd_PQ_least_25 : decode bb_PQ_least 25 = .ok (.invokevirtual 90, 3) := by decide +kernel
theorem dd_PQ_least_28 : decode bb_PQ_least 28 = .ok (.ifCond .ne 5, 3) := by decide +kernel
theorem dd_PQ_least_31 : decode bb_PQ_least 31 = .ok (.iconst (-1), 1) := by decide +kernel
theorem dd_PQ_least_32 : decode bb_PQ_least 32 = .ok (.ireturn, 1) := by decide +kernel
theorem dd_PQ_least_33 : decode bb_PQ_least 33 = .ok (.aload_n 0, 1) := by decide +kernel
theorem dd_PQ_least_34 : decode bb_PQ_least 34 = .ok (.getfield 63, 3) := by decide +kernel
theorem dd_PQ_least_37 : decode bb_PQ_least 37 = .ok (.iload_n 1, 1) := by decide +kernel
theorem dd_PQ_least_38 : decode bb_PQ_least 38 = .ok (.aaload, 1) := by decide +kernel
theorem dd_PQ_least_39 : decode bb_PQ_least 39 = .ok (.astore 4, 2) := by decide +kernel
theorem dd_PQ_least_41 : decode bb_PQ_least 41 = .ok (.aload 4, 2) := by decide +kernel
theorem dd_PQ_least_43 : decode bb_PQ_least 43 = .ok (.getfield 157, 3) := by decide +kernel
theorem dd_PQ_least_46 : decode bb_PQ_least 46 = .ok (.ifCond .eq 11, 3) := by decide +kernel
theorem dd_PQ_least_49 : decode bb_PQ_least 49 = .ok (.aload 4, 2) := by decide +kernel
theorem dd_PQ_least_51 : decode bb_PQ_least 51 = .ok (.getfield 196, 3) := by decide +kernel
theorem dd_PQ_least_54 : decode bb_PQ_least 54 = .ok (.ifCond .ne 6, 3) := by decide +kernel
theorem dd_PQ_least_57 : decode bb_PQ_least 57 = .ok (.bipush (-2), 2) := by decide +kernel
theorem dd_PQ_least_59 : decode bb_PQ_least 59 = .ok (.ireturn, 1) := by decide +kernel
theorem dd_PQ_least_60 : decode bb_PQ_least 60 = .ok (.aload_n 0, 1) := by decide +kernel
theorem dd_PQ_least_61 : decode bb_PQ_least 61 = .ok (.getfield 50, 3) := by decide +kernel
theorem dd_PQ_least_64 : decode bb_PQ_least 64 = .ok (.invokevirtual 161, 3) := by decide +kernel
theorem dd_PQ_least_67 : decode bb_PQ_least 67 = .ok (.ifCond .eq 6, 3) := by decide +kernel
theorem dd_PQ_least_70 : decode bb_PQ_least 70 = .ok (.bipush (-4), 2) := by decide +kernel
theorem dd_PQ_least_72 : decode bb_PQ_least 72 = .ok (.ireturn, 1) := by decide +kernel
theorem dd_PQ_least_73 : decode bb_PQ_least 73 = .ok (.aload 4, 2) := by decide +kernel
theorem dd_PQ_least_75 : decode bb_PQ_least 75 = .ok (.getfield 199, 3) := by decide +kernel
theorem dd_PQ_least_78 : decode bb_PQ_least 78 = .ok (.iconst 0, 1) := by decide +kernel
theorem dd_PQ_least_79 : decode bb_PQ_least 79 = .ok (.aaload, 1) := by decide +kernel
theorem dd_PQ_least_80 : decode bb_PQ_least 80 = .ok (.astore 5, 2) := by decide +kernel
theorem dd_PQ_least_82 : decode bb_PQ_least 82 = .ok (.aload_n 0, 1) := by decide +kernel
theorem dd_PQ_least_83 : decode bb_PQ_least 83 = .ok (.getfield 41, 3) := by decide +kernel
theorem dd_PQ_least_86 : decode bb_PQ_least 86 = .ok (.aload 5, 2) := by decide +kernel
theorem dd_PQ_least_88 : decode bb_PQ_least 88 = .ok (.invokevirtual 203, 3) := by decide +kernel
theorem dd_PQ_least_91 : decode bb_PQ_least 91 = .ok (.aload 5, 2) := by decide +kernel
theorem dd_PQ_least_93 : decode bb_PQ_least 93 = .ok (.getfield 207, 3) := by decide +kernel
theorem dd_PQ_least_96 : decode bb_PQ_least 96 = .ok (.ifCond .eq 13, 3) := by decide +kernel
theorem dd_PQ_least_99 : decode bb_PQ_least 99 = .ok (.aload 5, 2) := by decide +kernel
theorem dd_PQ_least_101 : decode bb_PQ_least 101 = .ok (.iload_n 3, 1) := by decide +kernel
theorem dd_PQ_least_102 : decode bb_PQ_least 102 = .ok (.iload_n 2, 1) := by decide +kernel
theorem dd_PQ_least_103 : decode bb_PQ_least 103 = .ok (.invokevirtual 212, 3) := by decide +kernel
theorem dd_PQ_least_106 : decode bb_PQ_least 106 = .ok (.goto 10, 3) := by decide +kernel
theorem dd_PQ_least_109 : decode bb_PQ_least 109 = .ok (.aload 5, 2) := by decide +kernel
theorem dd_PQ_least_111 : decode bb_PQ_least 111 = .ok (.iload_n 2, 1) := by decide +kernel
theorem dd_PQ_least_112 : decode bb_PQ_least 112 = .ok (.iload_n 3, 1) := by decide +kernel
theorem dd_PQ_least_113 : decode bb_PQ_least 113 = .ok (.invokevirtual 212, 3) := by decide +kernel
theorem dd_PQ_least_116 : decode bb_PQ_least 116 = .ok (.istore 6, 2) := by decide +kernel
theorem dd_PQ_least_118 : decode bb_PQ_least 118 = .ok (.iload 6, 2) := by decide +kernel
theorem dd_PQ_least_120 : decode bb_PQ_least 120 = .ok (.ifCond .ge 8, 3) := by decide +kernel
theorem dd_PQ_least_123 : decode bb_PQ_least 123 = .ok (.bipush (-2), 2) := by decide +kernel
theorem dd_PQ_least_125 : decode bb_PQ_least 125 = .ok (.goto 5, 3) := by decide +kernel
theorem dd_PQ_least_128 : decode bb_PQ_least 128 = .ok (.iload 6, 2) := by decide +kernel
theorem dd_PQ_least_130 : decode bb_PQ_least 130 = .ok (.ireturn, 1) := by decide +kernel
set_option maxRecDepth 100000 in
set_option maxHeartbeats 4000000 in
theorem t_PQ_least_31  (X : zX p s m args cd D cid B bb_PQ_least 7 rr_PQ zT) (H : zH s meth B n0 (some (.int)) "least") {nf : Nat}  {c : Zc} {res : Int32 × Zc} (h : f_PQ_least_31 nf  c = some res) : Zz p l e (zRm 7 170 0 0) s m args below meth cd (MQ below (zQi D cid B res.1 res.2 n0 0) args s 0 0 (fun q => B ≤ q)) D cid B 7 0 0 c 31 [] [] := by
  unfold f_PQ_least_31 at h
  refine z_iconst (v := (-1)) X dd_PQ_least_31 (by decide) ?_
  obtain rfl := Option.some.inj h
  exact z_iret X H.1 H.2.1 H.2.2.1 dd_PQ_least_32
set_option maxRecDepth 100000 in
set_option maxHeartbeats 4000000 in
theorem t_PQ_least_57  (X : zX p s m args cd D cid B bb_PQ_least 7 rr_PQ zT) (H : zH s meth B n0 (some (.int)) "least") {nf : Nat}  {c : Zc} {res : Int32 × Zc} (h : f_PQ_least_57 nf  c = some res) : Zz p l e (zRm 7 170 0 0) s m args below meth cd (MQ below (zQi D cid B res.1 res.2 n0 0) args s 0 0 (fun q => B ≤ q)) D cid B 7 0 0 c 57 [] [] := by
  unfold f_PQ_least_57 at h
  refine z_bipush (v := (-2)) X dd_PQ_least_57 (by decide) ?_
  obtain rfl := Option.some.inj h
  exact z_iret X H.1 H.2.1 H.2.2.1 dd_PQ_least_59
set_option maxRecDepth 100000 in
set_option maxHeartbeats 4000000 in
theorem t_PQ_least_130  (X : zX p s m args cd D cid B bb_PQ_least 7 rr_PQ zT) (H : zH s meth B n0 (some (.int)) "least") {nf : Nat} {s0 : Int32} {c : Zc} {res : Int32 × Zc} (h : f_PQ_least_130 nf s0 c = some res) : Zz p l e (zRm 7 170 0 0) s m args below meth cd (MQ below (zQi D cid B res.1 res.2 n0 0) args s 0 0 (fun q => B ≤ q)) D cid B 7 0 0 c 130 [] [.int s0] := by
  unfold f_PQ_least_130 at h
  obtain rfl := Option.some.inj h
  exact z_iret X H.1 H.2.1 H.2.2.1 dd_PQ_least_130
set_option maxRecDepth 100000 in
set_option maxHeartbeats 4000000 in
theorem t_PQ_least_116  (X : zX p s m args cd D cid B bb_PQ_least 7 rr_PQ zT) (H : zH s meth B n0 (some (.int)) "least") {nf : Nat} {s0 : Int32} {c : Zc} {res : Int32 × Zc} (h : f_PQ_least_116 nf s0 c = some res) : Zz p l e (zRm 7 170 0 0) s m args below meth cd (MQ below (zQi D cid B res.1 res.2 n0 0) args s 0 0 (fun q => B ≤ q)) D cid B 7 0 0 c 116 [] [.int s0] := by
  unfold f_PQ_least_116 at h
  refine z_istore (lv' := [(6, .int s0)]) X dd_PQ_least_116 (by decide) rfl ?_
  refine z_iload X dd_PQ_least_118 0 rfl ?_
  refine z_if_ge (tgt := 128) X dd_PQ_least_120 (by decide) (fun q30 => ?_) (fun q30 => ?_)
  · rw [if_pos q30] at h
    refine z_iload X dd_PQ_least_128 0 rfl ?_
    refine z_sub [] rfl ?_
    exact t_PQ_least_130 X H h
  · rw [if_neg q30] at h
    refine z_bipush (v := (-2)) X dd_PQ_least_123 (by decide) ?_
    refine z_goto (tgt := 130) X dd_PQ_least_125 (by decide) ?_
    refine z_sub [] rfl ?_
    exact t_PQ_least_130 X H h
set_option maxRecDepth 100000 in
set_option maxHeartbeats 4000000 in
theorem c_PQ_least (l : Launch) {nf : Nat} {a0 : Nat} {a1 : Int32} {a2 : Int32} {a3 : Int32} {c : Zc} {res : Int32 × Zc} (h : f_PQ_least nf a0 a1 a2 a3 c = some res) : zM l yy_PQ_least ww_PQ_least 7 170 0 0 [.ref a0, .int a1, .int a2, .int a3] c (fun D cid B => zQi D cid B res.1 res.2 c.length 0) := by
  refine z_met (cc := bb_PQ_least) (maxL := 7) (ret := (some (.int))) (by decide +kernel) rfl (Nat.le_of_ble_eq_true rfl) ?_
  intro p e s m args below meth cd D cid B X h1 h2 h3 h4
  have X : zX p s m args cd D cid B bb_PQ_least 7 rr_PQ zT := X
  have H : zH s meth B c.length (some (.int)) "least" := ⟨h1, h2, h4, h3⟩
  unfold f_PQ_least at h
  show Zz p l e (zRm 7 170 0 0) s m args below meth cd _ D cid B 7 0 0 c 0 [(0, .ref a0), (1, .int a1), (2, .int a2), (3, .int a3)] []
  refine z_iload_n X dd_PQ_least_0 rfl 1 rfl ?_
  refine z_if_lt (tgt := 31) X dd_PQ_least_1 (by decide) (fun q1 => ?_) (fun q1 => ?_)
  · rw [if_pos q1] at h
    refine z_sub [] rfl ?_
    exact t_PQ_least_31 X H h
  · rw [if_neg q1] at h
    refine z_iload_n X dd_PQ_least_4 rfl 1 rfl ?_
    refine z_iconst (v := 4) X dd_PQ_least_5 (by decide) ?_
    refine z_icmp_ge (tgt := 31) X dd_PQ_least_6 (by decide) (fun q2 => ?_) (fun q2 => ?_)
    · rw [if_pos q2] at h
      refine z_sub [] rfl ?_
      exact t_PQ_least_31 X H h
    · rw [if_neg q2] at h
      refine z_aload_n X dd_PQ_least_9 rfl 0 rfl ?_
      obtain ⟨v3, ev3, h⟩ := zb h
      refine z_get (j := 1) X dd_PQ_least_10 kc_11 ki_11 (by decide) km_690 (zgr_v ev3) ?_
      refine z_iload_n X dd_PQ_least_13 rfl 2 rfl ?_
      obtain ⟨w5, ew5, h⟩ := zb h
      obtain ⟨q4, eq4, h⟩ := zb h
      refine z_callVi X [.int a2] rfl dd_PQ_least_14 (c_Graph_isNode l eq4) (cwV 1 X.1.2.2.2.2 (zg_V km_747 km_748 km_749 km_126 km_750) rfl rfl rfl (by decide +kernel) ⟨Nat.le_of_ble_eq_true rfl, Nat.le_of_ble_eq_true rfl⟩) (zob_s ew5) kc_0 rfl (Nat.le_of_ble_eq_true rfl) ⟨Nat.le_of_ble_eq_true rfl, Nat.le_of_ble_eq_true rfl⟩ ?_
      refine z_if_eq (tgt := 31) X dd_PQ_least_17 (by decide) (fun q6 => ?_) (fun q6 => ?_)
      · rw [if_pos q6] at h
        refine z_sub [] rfl ?_
        exact t_PQ_least_31 X H h
      · rw [if_neg q6] at h
        refine z_aload_n X dd_PQ_least_20 rfl 0 rfl ?_
        obtain ⟨v7, ev7, h⟩ := zb h
        refine z_get (j := 1) X dd_PQ_least_21 kc_11 ki_11 (by decide) km_690 (zgr_v ev7) ?_
        refine z_iload_n X dd_PQ_least_24 rfl 3 rfl ?_
        obtain ⟨w9, ew9, h⟩ := zb h
        obtain ⟨q8, eq8, h⟩ := zb h
        refine z_callVi X [.int a3] rfl dd_PQ_least_25 (c_Graph_isNode l eq8) (cwV 1 X.1.2.2.2.2 (zg_V km_747 km_748 km_749 km_126 km_750) rfl rfl rfl (by decide +kernel) ⟨Nat.le_of_ble_eq_true rfl, Nat.le_of_ble_eq_true rfl⟩) (zob_s ew9) kc_0 rfl (Nat.le_of_ble_eq_true rfl) ⟨Nat.le_of_ble_eq_true rfl, Nat.le_of_ble_eq_true rfl⟩ ?_
        refine z_if_ne (tgt := 33) X dd_PQ_least_28 (by decide) (fun q10 => ?_) (fun q10 => ?_)
        · rw [if_neg q10] at h
          refine z_aload_n X dd_PQ_least_33 rfl 0 rfl ?_
          obtain ⟨v11, ev11, h⟩ := zb h
          refine z_get (j := 7) X dd_PQ_least_34 kc_11 ki_11 (by decide) km_696 (zgr_v ev11) ?_
          refine z_iload_n X dd_PQ_least_37 rfl 1 rfl ?_
          obtain ⟨v12, ev12, h⟩ := zb h
          refine z_aaload X dd_PQ_least_38 rfl ev12 ?_
          refine z_astore (lv' := [(4, .ref v12), (0, .ref a0), (1, .int a1), (2, .int a2), (3, .int a3)]) X dd_PQ_least_39 (by decide) rfl ?_
          refine z_aload X dd_PQ_least_41 0 rfl ?_
          obtain ⟨v13, ev13, h⟩ := zb h
          refine z_get (j := 0) X dd_PQ_least_43 kc_2 ki_2 (by decide) km_301 (zgi_v ev13) ?_
          refine z_if_eq (tgt := 57) X dd_PQ_least_46 (by decide) (fun q14 => ?_) (fun q14 => ?_)
          · rw [if_pos q14] at h
            refine z_sub [] rfl ?_
            exact t_PQ_least_57 X H h
          · rw [if_neg q14] at h
            refine z_aload X dd_PQ_least_49 0 rfl ?_
            obtain ⟨v15, ev15, h⟩ := zb h
            refine z_get (j := 3) X dd_PQ_least_51 kc_2 ki_2 (by decide) km_312 (zgi_v ev15) ?_
            refine z_if_ne (tgt := 60) X dd_PQ_least_54 (by decide) (fun q16 => ?_) (fun q16 => ?_)
            · rw [if_neg q16] at h
              refine z_aload_n X dd_PQ_least_60 rfl 1 rfl ?_
              obtain ⟨v17, ev17, h⟩ := zb h
              refine z_get (j := 5) X dd_PQ_least_61 kc_11 ki_11 (by decide) km_694 (zgr_v ev17) ?_
              obtain ⟨w19, ew19, h⟩ := zb h
              obtain ⟨q18, eq18, h⟩ := zb h
              refine z_callVi X [] rfl dd_PQ_least_64 (c_RuleBook_settle l eq18) (cwV 0 X.1.2.2.2.2 (zg_V km_1254 km_1255 km_1256 km_135 km_1257) rfl rfl rfl (by decide +kernel) ⟨Nat.le_of_ble_eq_true rfl, Nat.le_of_ble_eq_true rfl⟩) (zob_s ew19) kc_8 rfl (Nat.le_of_ble_eq_true rfl) ⟨Nat.le_of_ble_eq_true rfl, Nat.le_of_ble_eq_true rfl⟩ ?_
              refine z_if_eq (tgt := 73) X dd_PQ_least_67 (by decide) (fun q20 => ?_) (fun q20 => ?_)
              · rw [if_pos q20] at h
                refine z_aload X dd_PQ_least_73 0 rfl ?_
                obtain ⟨v21, ev21, h⟩ := zb h
                refine z_get (j := 4) X dd_PQ_least_75 kc_2 ki_2 (by decide) km_318 (zgr_v ev21) ?_
                refine z_iconst (v := 0) X dd_PQ_least_78 (by decide) ?_
                obtain ⟨v22, ev22, h⟩ := zb h
                refine z_aaload X dd_PQ_least_79 rfl ev22 ?_
                refine z_astore (lv' := [(5, .ref v22), (4, .ref v12), (0, .ref a0), (1, .int a1), (2, .int a2), (3, .int a3)]) X dd_PQ_least_80 (by decide) rfl ?_
                refine z_aload_n X dd_PQ_least_82 rfl 2 rfl ?_
                obtain ⟨v23, ev23, h⟩ := zb h
                refine z_get (j := 4) X dd_PQ_least_83 kc_11 ki_11 (by decide) km_693 (zgr_v ev23) ?_
                refine z_aload X dd_PQ_least_86 0 rfl ?_
                obtain ⟨w25, ew25, h⟩ := zb h
                obtain ⟨q24, eq24, h⟩ := zb h
                refine z_callVv X [.ref v22] rfl dd_PQ_least_88 (c_Finder_bringUpToDate l eq24) (cwV 1 X.1.2.2.2.2 (zg_V km_1511 km_1294 km_1295 km_133 km_1296) rfl rfl rfl (by decide +kernel) ⟨Nat.le_of_ble_eq_true rfl, Nat.le_of_ble_eq_true rfl⟩) (zob_s ew25) kc_7 rfl (Nat.le_of_ble_eq_true rfl) ⟨Nat.le_of_ble_eq_true rfl, Nat.le_of_ble_eq_true rfl⟩ ?_
                refine z_aload X dd_PQ_least_91 0 rfl ?_
                obtain ⟨v26, ev26, h⟩ := zb h
                refine z_get (j := 3) X dd_PQ_least_93 kc_1 ki_1 (by decide) km_232 (zgi_v ev26) ?_
                refine z_if_eq (tgt := 109) X dd_PQ_least_96 (by decide) (fun q27 => ?_) (fun q27 => ?_)
                · rw [if_pos q27] at h
                  refine z_aload X dd_PQ_least_109 0 rfl ?_
                  refine z_iload_n X dd_PQ_least_111 rfl 4 rfl ?_
                  refine z_iload_n X dd_PQ_least_112 rfl 5 rfl ?_
                  obtain ⟨w29, ew29, h⟩ := zb h
                  obtain ⟨q28, eq28, h⟩ := zb h
                  refine z_callVi X [.int a2, .int a3] rfl dd_PQ_least_113 (c_Way_arcsBetween l eq28) (cwV 2 X.1.2.2.2.2 (zg_V km_1512 km_1369 km_1370 km_129 km_1371) rfl rfl rfl (by decide +kernel) ⟨Nat.le_of_ble_eq_true rfl, Nat.le_of_ble_eq_true rfl⟩) (zob_s ew29) kc_1 rfl (Nat.le_of_ble_eq_true rfl) ⟨Nat.le_of_ble_eq_true rfl, Nat.le_of_ble_eq_true rfl⟩ ?_
                  refine z_sub [] rfl ?_
                  exact t_PQ_least_116 X H h
                · rw [if_neg q27] at h
                  refine z_aload X dd_PQ_least_99 0 rfl ?_
                  refine z_iload_n X dd_PQ_least_101 rfl 5 rfl ?_
                  refine z_iload_n X dd_PQ_least_102 rfl 4 rfl ?_
                  obtain ⟨w32, ew32, h⟩ := zb h
                  obtain ⟨q31, eq31, h⟩ := zb h
                  refine z_callVi X [.int a3, .int a2] rfl dd_PQ_least_103 (c_Way_arcsBetween l eq31) (cwV 2 X.1.2.2.2.2 (zg_V km_1512 km_1369 km_1370 km_129 km_1371) rfl rfl rfl (by decide +kernel) ⟨Nat.le_of_ble_eq_true rfl, Nat.le_of_ble_eq_true rfl⟩) (zob_s ew32) kc_1 rfl (Nat.le_of_ble_eq_true rfl) ⟨Nat.le_of_ble_eq_true rfl, Nat.le_of_ble_eq_true rfl⟩ ?_
                  refine z_goto (tgt := 116) X dd_PQ_least_106 (by decide) ?_
                  refine z_sub [] rfl ?_
                  exact t_PQ_least_116 X H h
              · rw [if_neg q20] at h
                refine z_bipush (v := (-4)) X dd_PQ_least_70 (by decide) ?_
                obtain rfl := Option.some.inj h
                exact z_iret X H.1 H.2.1 H.2.2.1 dd_PQ_least_72
            · rw [if_pos q16] at h
              refine z_sub [] rfl ?_
              exact t_PQ_least_57 X H h
        · rw [if_pos q10] at h
          refine z_sub [] rfl ?_
          exact t_PQ_least_31 X H h
theorem dd_Mo_init_0 : decode bb_Mo_init 0 = .ok (.aload_n 0, 1) := by decide +kernel
theorem dd_Mo_init_1 : decode bb_Mo_init 1 = .ok (.invokespecial 1, 3) := by decide +kernel
theorem dd_Mo_init_4 : decode bb_Mo_init 4 = .ok (.aload_n 0, 1) := by decide +kernel
theorem dd_Mo_init_5 : decode bb_Mo_init 5 = .ok (.bipush 16, 2) := by decide +kernel
theorem dd_Mo_init_7 : decode bb_Mo_init 7 = .ok (.newarray .int, 2) := by decide +kernel
theorem dd_Mo_init_9 : decode bb_Mo_init 9 = .ok (.putfield 7, 3) := by decide +kernel
theorem dd_Mo_init_12 : decode bb_Mo_init 12 = .ok (.aload_n 0, 1) := by decide +kernel
theorem dd_Mo_init_13 : decode bb_Mo_init 13 = .ok (.bipush 64, 2) := by decide +kernel
theorem dd_Mo_init_15 : decode bb_Mo_init 15 = .ok (.newarray .int, 2) := by decide +kernel
theorem dd_Mo_init_17 : decode bb_Mo_init 17 = .ok (.putfield 13, 3) := by decide +kernel
theorem dd_Mo_init_20 : decode bb_Mo_init 20 = .ok (.aload_n 0, 1) := by decide +kernel
theorem dd_Mo_init_21 : decode bb_Mo_init 21 = .ok (.bipush 100, 2) := by decide +kernel
theorem dd_Mo_init_23 : decode bb_Mo_init 23 = .ok (.newarray .boolean, 2) := by decide +kernel
theorem dd_Mo_init_25 : decode bb_Mo_init 25 = .ok (.putfield 16, 3) := by decide +kernel
theorem dd_Mo_init_28 : decode bb_Mo_init 28 = .ok (.aload_n 0, 1) := by decide +kernel
theorem dd_Mo_init_29 : decode bb_Mo_init 29 = .ok (.bipush 100, 2) := by decide +kernel
theorem dd_Mo_init_31 : decode bb_Mo_init 31 = .ok (.newarray .int, 2) := by decide +kernel
theorem dd_Mo_init_33 : decode bb_Mo_init 33 = .ok (.putfield 20, 3) := by decide +kernel
theorem dd_Mo_init_36 : decode bb_Mo_init 36 = .ok (.aload_n 0, 1) := by decide +kernel
theorem dd_Mo_init_37 : decode bb_Mo_init 37 = .ok (.bipush 100, 2) := by decide +kernel
theorem dd_Mo_init_39 : decode bb_Mo_init 39 = .ok (.newarray .int, 2) := by decide +kernel
theorem dd_Mo_init_41 : decode bb_Mo_init 41 = .ok (.putfield 23, 3) := by decide +kernel
theorem dd_Mo_init_44 : decode bb_Mo_init 44 = .ok (.aload_n 0, 1) := by decide +kernel
theorem dd_Mo_init_45 : decode bb_Mo_init 45 = .ok (.bipush 100, 2) := by decide +kernel
theorem dd_Mo_init_47 : decode bb_Mo_init 47 = .ok (.newarray .int, 2) := by decide +kernel
theorem dd_Mo_init_49 : decode bb_Mo_init 49 = .ok (.putfield 26, 3) := by decide +kernel
theorem dd_Mo_init_52 : decode bb_Mo_init 52 = .ok (.aload_n 0, 1) := by decide +kernel
theorem dd_Mo_init_53 : decode bb_Mo_init 53 = .ok (.bipush 100, 2) := by decide +kernel
theorem dd_Mo_init_55 : decode bb_Mo_init 55 = .ok (.newarray .int, 2) := by decide +kernel
theorem dd_Mo_init_57 : decode bb_Mo_init 57 = .ok (.putfield 29, 3) := by decide +kernel
theorem dd_Mo_init_60 : decode bb_Mo_init 60 = .ok (.aload_n 0, 1) := by decide +kernel
theorem dd_Mo_init_61 : decode bb_Mo_init 61 = .ok (.sipush 3328, 3) := by decide +kernel
theorem dd_Mo_init_64 : decode bb_Mo_init 64 = .ok (.newarray .int, 2) := by decide +kernel
theorem dd_Mo_init_66 : decode bb_Mo_init 66 = .ok (.putfield 32, 3) := by decide +kernel
theorem dd_Mo_init_69 : decode bb_Mo_init 69 = .ok (.aload_n 0, 1) := by decide +kernel
theorem dd_Mo_init_70 : decode bb_Mo_init 70 = .ok (.iconst 1, 1) := by decide +kernel
theorem dd_Mo_init_71 : decode bb_Mo_init 71 = .ok (.putfield 35, 3) := by decide +kernel
theorem dd_Mo_init_74 : decode bb_Mo_init 74 = .ok (.aload_n 0, 1) := by decide +kernel
theorem dd_Mo_init_75 : decode bb_Mo_init 75 = .ok (.sipush 1500, 3) := by decide +kernel
theorem dd_Mo_init_78 : decode bb_Mo_init 78 = .ok (.newarray .byte, 2) := by decide +kernel
theorem dd_Mo_init_80 : decode bb_Mo_init 80 = .ok (.putfield 39, 3) := by decide +kernel
theorem dd_Mo_init_83 : decode bb_Mo_init 83 = .ok (.aload_n 0, 1) := by decide +kernel
theorem dd_Mo_init_84 : decode bb_Mo_init 84 = .ok (.sipush 1502, 3) := by decide +kernel
theorem dd_Mo_init_87 : decode bb_Mo_init 87 = .ok (.newarray .int, 2) := by decide +kernel
theorem dd_Mo_init_89 : decode bb_Mo_init 89 = .ok (.putfield 43, 3) := by decide +kernel
theorem dd_Mo_init_92 : decode bb_Mo_init 92 = .ok (.aload_n 0, 1) := by decide +kernel
theorem dd_Mo_init_93 : decode bb_Mo_init 93 = .ok (.sipush 1502, 3) := by decide +kernel
theorem dd_Mo_init_96 : decode bb_Mo_init 96 = .ok (.newarray .int, 2) := by decide +kernel
theorem dd_Mo_init_98 : decode bb_Mo_init 98 = .ok (.putfield 46, 3) := by decide +kernel
theorem dd_Mo_init_101 : decode bb_Mo_init 101 = .ok (.aload_n 0, 1) := by decide +kernel
theorem dd_Mo_init_102 : decode bb_Mo_init 102 = .ok (.sipush 1502, 3) := by decide +kernel
theorem dd_Mo_init_105 : decode bb_Mo_init 105 = .ok (.newarray .int, 2) := by decide +kernel
theorem dd_Mo_init_107 : decode bb_Mo_init 107 = .ok (.putfield 49, 3) := by decide +kernel
theorem dd_Mo_init_110 : decode bb_Mo_init 110 = .ok (.aload_n 0, 1) := by decide +kernel
theorem dd_Mo_init_111 : decode bb_Mo_init 111 = .ok (.bipush (-2), 2) := by decide +kernel
theorem dd_Mo_init_113 : decode bb_Mo_init 113 = .ok (.putfield 52, 3) := by decide +kernel
theorem dd_Mo_init_116 : decode bb_Mo_init 116 = .ok (.aload_n 0, 1) := by decide +kernel
theorem dd_Mo_init_117 : decode bb_Mo_init 117 = .ok (.bipush 8, 2) := by decide +kernel
theorem dd_Mo_init_119 : decode bb_Mo_init 119 = .ok (.newarray .int, 2) := by decide +kernel
theorem dd_Mo_init_121 : decode bb_Mo_init 121 = .ok (.putfield 56, 3) := by decide +kernel
theorem dd_Mo_init_124 : decode bb_Mo_init 124 = .ok (.aload_n 0, 1) := by decide +kernel
theorem dd_Mo_init_125 : decode bb_Mo_init 125 = .ok (.bipush 8, 2) := by decide +kernel
theorem dd_Mo_init_127 : decode bb_Mo_init 127 = .ok (.newarray .boolean, 2) := by decide +kernel
theorem dd_Mo_init_129 : decode bb_Mo_init 129 = .ok (.putfield 59, 3) := by decide +kernel
theorem dd_Mo_init_132 : decode bb_Mo_init 132 = .ok (.aload_n 0, 1) := by decide +kernel
theorem dd_Mo_init_133 : decode bb_Mo_init 133 = .ok (.bipush 8, 2) := by decide +kernel
theorem dd_Mo_init_135 : decode bb_Mo_init 135 = .ok (.putfield 62, 3) := by decide +kernel
theorem dd_Mo_init_138 : decode bb_Mo_init 138 = .ok (.aload_n 0, 1) := by decide +kernel
theorem dd_Mo_init_139 : decode bb_Mo_init 139 = .ok (.bipush 9, 2) := by decide +kernel
theorem dd_Mo_init_141 : decode bb_Mo_init 141 = .ok (.newarray .int, 2) := by decide +kernel
theorem dd_Mo_init_143 : decode bb_Mo_init 143 = .ok (.putfield 65, 3) := by decide +kernel
theorem dd_Mo_init_146 : decode bb_Mo_init 146 = .ok (.aload_n 0, 1) := by decide +kernel
theorem dd_Mo_init_147 : decode bb_Mo_init 147 = .ok (.bipush 9, 2) := by decide +kernel
theorem dd_Mo_init_149 : decode bb_Mo_init 149 = .ok (.newarray .int, 2) := by decide +kernel
theorem dd_Mo_init_151 : decode bb_Mo_init 151 = .ok (.putfield 68, 3) := by decide +kernel
theorem dd_Mo_init_154 : decode bb_Mo_init 154 = .ok (.aload_n 0, 1) := by decide +kernel
theorem dd_Mo_init_155 : decode bb_Mo_init 155 = .ok (.bipush 9, 2) := by decide +kernel
theorem dd_Mo_init_157 : decode bb_Mo_init 157 = .ok (.newarray .int, 2) := by decide +kernel
theorem dd_Mo_init_159 : decode bb_Mo_init 159 = .ok (.putfield 71, 3) := by decide +kernel
theorem dd_Mo_init_162 : decode bb_Mo_init 162 = .ok (.aload_n 0, 1) := by decide +kernel
theorem dd_Mo_init_163 : decode bb_Mo_init 163 = .ok (.bipush 72, 2) := by decide +kernel
theorem dd_Mo_init_165 : decode bb_Mo_init 165 = .ok (.newarray .int, 2) := by decide +kernel
theorem dd_Mo_init_167 : decode bb_Mo_init 167 = .ok (.putfield 74, 3) := by decide +kernel
theorem dd_Mo_init_170 : decode bb_Mo_init 170 = .ok (.aload_n 0, 1) := by decide +kernel
theorem dd_Mo_init_171 : decode bb_Mo_init 171 = .ok (.sipush 5760, 3) := by decide +kernel
theorem dd_Mo_init_174 : decode bb_Mo_init 174 = .ok (.newarray .int, 2) := by decide +kernel
theorem dd_Mo_init_176 : decode bb_Mo_init 176 = .ok (.putfield 77, 3) := by decide +kernel
theorem dd_Mo_init_179 : decode bb_Mo_init 179 = .ok (.aload_n 0, 1) := by decide +kernel
theorem dd_Mo_init_180 : decode bb_Mo_init 180 = .ok (.bipush 9, 2) := by decide +kernel
theorem dd_Mo_init_182 : decode bb_Mo_init 182 = .ok (.newarray .int, 2) := by decide +kernel
theorem dd_Mo_init_184 : decode bb_Mo_init 184 = .ok (.putfield 80, 3) := by decide +kernel
theorem dd_Mo_init_187 : decode bb_Mo_init 187 = .ok (.aload_n 0, 1) := by decide +kernel
theorem dd_Mo_init_188 : decode bb_Mo_init 188 = .ok (.bipush 99, 2) := by decide +kernel
theorem dd_Mo_init_190 : decode bb_Mo_init 190 = .ok (.newarray .int, 2) := by decide +kernel
theorem dd_Mo_init_192 : decode bb_Mo_init 192 = .ok (.putfield 83, 3) := by decide +kernel
theorem dd_Mo_init_195 : decode bb_Mo_init 195 = .ok (.aload_n 0, 1) := by decide +kernel
theorem dd_Mo_init_196 : decode bb_Mo_init 196 = .ok (.bipush 99, 2) := by decide +kernel
theorem dd_Mo_init_198 : decode bb_Mo_init 198 = .ok (.newarray .int, 2) := by decide +kernel
theorem dd_Mo_init_200 : decode bb_Mo_init 200 = .ok (.putfield 86, 3) := by decide +kernel
theorem dd_Mo_init_203 : decode bb_Mo_init 203 = .ok (.aload_n 0, 1) := by decide +kernel
theorem dd_Mo_init_204 : decode bb_Mo_init 204 = .ok (.bipush 99, 2) := by decide +kernel
theorem dd_Mo_init_206 : decode bb_Mo_init 206 = .ok (.newarray .int, 2) := by decide +kernel
theorem dd_Mo_init_208 : decode bb_Mo_init 208 = .ok (.putfield 89, 3) := by decide +kernel
theorem dd_Mo_init_211 : decode bb_Mo_init 211 = .ok (.aload_n 0, 1) := by decide +kernel
theorem dd_Mo_init_212 : decode bb_Mo_init 212 = .ok (.bipush 99, 2) := by decide +kernel
theorem dd_Mo_init_214 : decode bb_Mo_init 214 = .ok (.newarray .int, 2) := by decide +kernel
theorem dd_Mo_init_216 : decode bb_Mo_init 216 = .ok (.putfield 92, 3) := by decide +kernel
theorem dd_Mo_init_219 : decode bb_Mo_init 219 = .ok (.aload_n 0, 1) := by decide +kernel
theorem dd_Mo_init_220 : decode bb_Mo_init 220 = .ok (.bipush 99, 2) := by decide +kernel
theorem dd_Mo_init_222 : decode bb_Mo_init 222 = .ok (.newarray .boolean, 2) := by decide +kernel
theorem dd_Mo_init_224 : decode bb_Mo_init 224 = .ok (.putfield 95, 3) := by decide +kernel
theorem dd_Mo_init_227 : decode bb_Mo_init 227 = .ok (.aload_n 0, 1) := by decide +kernel
theorem dd_Mo_init_228 : decode bb_Mo_init 228 = .ok (.bipush 99, 2) := by decide +kernel
theorem dd_Mo_init_230 : decode bb_Mo_init 230 = .ok (.newarray .int, 2) := by decide +kernel
theorem dd_Mo_init_232 : decode bb_Mo_init 232 = .ok (.putfield 98, 3) := by decide +kernel
theorem dd_Mo_init_235 : decode bb_Mo_init 235 = .ok (.aload_n 0, 1) := by decide +kernel
theorem dd_Mo_init_236 : decode bb_Mo_init 236 = .ok (.bipush 99, 2) := by decide +kernel
theorem dd_Mo_init_238 : decode bb_Mo_init 238 = .ok (.newarray .int, 2) := by decide +kernel
theorem dd_Mo_init_240 : decode bb_Mo_init 240 = .ok (.putfield 101, 3) := by decide +kernel
theorem dd_Mo_init_243 : decode bb_Mo_init 243 = .ok (.aload_n 0, 1) := by decide +kernel
theorem dd_Mo_init_244 : decode bb_Mo_init 244 = .ok (.bipush 99, 2) := by decide +kernel
theorem dd_Mo_init_246 : decode bb_Mo_init 246 = .ok (.newarray .int, 2) := by decide +kernel
theorem dd_Mo_init_248 : decode bb_Mo_init 248 = .ok (.putfield 104, 3) := by decide +kernel
theorem dd_Mo_init_251 : decode bb_Mo_init 251 = .ok (.aload_n 0, 1) := by decide +kernel
theorem dd_Mo_init_252 : decode bb_Mo_init 252 = .ok (.sipush 1584, 3) := by decide +kernel
theorem dd_Mo_init_255 : decode bb_Mo_init 255 = .ok (.newarray .int, 2) := by decide +kernel
theorem dd_Mo_init_257 : decode bb_Mo_init 257 = .ok (.putfield 107, 3) := by decide +kernel
theorem dd_Mo_init_260 : decode bb_Mo_init 260 = .ok (.aload_n 0, 1) := by decide +kernel
theorem dd_Mo_init_261 : decode bb_Mo_init 261 = .ok (.sipush 1584, 3) := by decide +kernel
theorem dd_Mo_init_264 : decode bb_Mo_init 264 = .ok (.newarray .boolean, 2) := by decide +kernel
theorem dd_Mo_init_266 : decode bb_Mo_init 266 = .ok (.putfield 110, 3) := by decide +kernel
theorem dd_Mo_init_269 : decode bb_Mo_init 269 = .ok (.aload_n 0, 1) := by decide +kernel
theorem dd_Mo_init_270 : decode bb_Mo_init 270 = .ok (.sipush 1584, 3) := by decide +kernel
theorem dd_Mo_init_273 : decode bb_Mo_init 273 = .ok (.newarray .int, 2) := by decide +kernel
theorem dd_Mo_init_275 : decode bb_Mo_init 275 = .ok (.putfield 113, 3) := by decide +kernel
theorem dd_Mo_init_278 : decode bb_Mo_init 278 = .ok (.aload_n 0, 1) := by decide +kernel
theorem dd_Mo_init_279 : decode bb_Mo_init 279 = .ok (.bipush 9, 2) := by decide +kernel
theorem dd_Mo_init_281 : decode bb_Mo_init 281 = .ok (.newarray .int, 2) := by decide +kernel
theorem dd_Mo_init_283 : decode bb_Mo_init 283 = .ok (.putfield 116, 3) := by decide +kernel
theorem dd_Mo_init_286 : decode bb_Mo_init 286 = .ok (.aload_n 0, 1) := by decide +kernel
theorem dd_Mo_init_287 : decode bb_Mo_init 287 = .ok (.bipush 72, 2) := by decide +kernel
theorem dd_Mo_init_289 : decode bb_Mo_init 289 = .ok (.newarray .int, 2) := by decide +kernel
theorem dd_Mo_init_291 : decode bb_Mo_init 291 = .ok (.putfield 119, 3) := by decide +kernel
theorem dd_Mo_init_294 : decode bb_Mo_init 294 = .ok (.aload_n 0, 1) := by decide +kernel
theorem dd_Mo_init_295 : decode bb_Mo_init 295 = .ok (.bipush 72, 2) := by decide +kernel
theorem dd_Mo_init_297 : decode bb_Mo_init 297 = .ok (.newarray .int, 2) := by decide +kernel
theorem dd_Mo_init_299 : decode bb_Mo_init 299 = .ok (.putfield 122, 3) := by decide +kernel
theorem dd_Mo_init_302 : decode bb_Mo_init 302 = .ok (.aload_n 0, 1) := by decide +kernel
theorem dd_Mo_init_303 : decode bb_Mo_init 303 = .ok (.bipush 9, 2) := by decide +kernel
theorem dd_Mo_init_305 : decode bb_Mo_init 305 = .ok (.newarray .int, 2) := by decide +kernel
theorem dd_Mo_init_307 : decode bb_Mo_init 307 = .ok (.putfield 125, 3) := by decide +kernel
theorem dd_Mo_init_310 : decode bb_Mo_init 310 = .ok (.aload_n 0, 1) := by decide +kernel
theorem dd_Mo_init_311 : decode bb_Mo_init 311 = .ok (.bipush 9, 2) := by decide +kernel
theorem dd_Mo_init_313 : decode bb_Mo_init 313 = .ok (.newarray .int, 2) := by decide +kernel
theorem dd_Mo_init_315 : decode bb_Mo_init 315 = .ok (.putfield 128, 3) := by decide +kernel
theorem dd_Mo_init_318 : decode bb_Mo_init 318 = .ok (.aload_n 0, 1) := by decide +kernel
theorem dd_Mo_init_319 : decode bb_Mo_init 319 = .ok (.bipush 9, 2) := by decide +kernel
theorem dd_Mo_init_321 : decode bb_Mo_init 321 = .ok (.newarray .int, 2) := by decide +kernel
theorem dd_Mo_init_323 : decode bb_Mo_init 323 = .ok (.putfield 131, 3) := by decide +kernel
theorem dd_Mo_init_326 : decode bb_Mo_init 326 = .ok (.aload_n 0, 1) := by decide +kernel
theorem dd_Mo_init_327 : decode bb_Mo_init 327 = .ok (.bipush 9, 2) := by decide +kernel
theorem dd_Mo_init_329 : decode bb_Mo_init 329 = .ok (.newarray .int, 2) := by decide +kernel
theorem dd_Mo_init_331 : decode bb_Mo_init 331 = .ok (.putfield 134, 3) := by decide +kernel
theorem dd_Mo_init_334 : decode bb_Mo_init 334 = .ok (.aload_n 0, 1) := by decide +kernel
theorem dd_Mo_init_335 : decode bb_Mo_init 335 = .ok (.sipush 4608, 3) := by decide +kernel
theorem dd_Mo_init_338 : decode bb_Mo_init 338 = .ok (.newarray .int, 2) := by decide +kernel
theorem dd_Mo_init_340 : decode bb_Mo_init 340 = .ok (.putfield 137, 3) := by decide +kernel
theorem dd_Mo_init_343 : decode bb_Mo_init 343 = .ok (.aload_n 0, 1) := by decide +kernel
theorem dd_Mo_init_344 : decode bb_Mo_init 344 = .ok (.sipush 4608, 3) := by decide +kernel
theorem dd_Mo_init_347 : decode bb_Mo_init 347 = .ok (.newarray .int, 2) := by decide +kernel
theorem dd_Mo_init_349 : decode bb_Mo_init 349 = .ok (.putfield 140, 3) := by decide +kernel
theorem dd_Mo_init_352 : decode bb_Mo_init 352 = .ok (.aload_n 0, 1) := by decide +kernel
theorem dd_Mo_init_353 : decode bb_Mo_init 353 = .ok (.bipush 66, 2) := by decide +kernel
theorem dd_Mo_init_355 : decode bb_Mo_init 355 = .ok (.newarray .int, 2) := by decide +kernel
theorem dd_Mo_init_357 : decode bb_Mo_init 357 = .ok (.putfield 143, 3) := by decide +kernel
theorem dd_Mo_init_360 : decode bb_Mo_init 360 = .ok (.aload_n 0, 1) := by decide +kernel
theorem dd_Mo_init_361 : decode bb_Mo_init 361 = .ok (.bipush 66, 2) := by decide +kernel
theorem dd_Mo_init_363 : decode bb_Mo_init 363 = .ok (.newarray .int, 2) := by decide +kernel
theorem dd_Mo_init_365 : decode bb_Mo_init 365 = .ok (.putfield 146, 3) := by decide +kernel
theorem dd_Mo_init_368 : decode bb_Mo_init 368 = .ok (.aload_n 0, 1) := by decide +kernel
theorem dd_Mo_init_369 : decode bb_Mo_init 369 = .ok (.bipush 64, 2) := by decide +kernel
theorem dd_Mo_init_371 : decode bb_Mo_init 371 = .ok (.newarray .boolean, 2) := by decide +kernel
theorem dd_Mo_init_373 : decode bb_Mo_init 373 = .ok (.putfield 149, 3) := by decide +kernel
theorem dd_Mo_init_376 : decode bb_Mo_init 376 = .ok (.aload_n 0, 1) := by decide +kernel
theorem dd_Mo_init_377 : decode bb_Mo_init 377 = .ok (.bipush 64, 2) := by decide +kernel
theorem dd_Mo_init_379 : decode bb_Mo_init 379 = .ok (.newarray .int, 2) := by decide +kernel
theorem dd_Mo_init_381 : decode bb_Mo_init 381 = .ok (.putfield 152, 3) := by decide +kernel
theorem dd_Mo_init_384 : decode bb_Mo_init 384 = .ok (.aload_n 0, 1) := by decide +kernel
theorem dd_Mo_init_385 : decode bb_Mo_init 385 = .ok (.bipush 64, 2) := by decide +kernel
theorem dd_Mo_init_387 : decode bb_Mo_init 387 = .ok (.newarray .int, 2) := by decide +kernel
theorem dd_Mo_init_389 : decode bb_Mo_init 389 = .ok (.putfield 155, 3) := by decide +kernel
theorem dd_Mo_init_392 : decode bb_Mo_init 392 = .ok (.aload_n 0, 1) := by decide +kernel
theorem dd_Mo_init_393 : decode bb_Mo_init 393 = .ok (.bipush 64, 2) := by decide +kernel
theorem dd_Mo_init_395 : decode bb_Mo_init 395 = .ok (.newarray .boolean, 2) := by decide +kernel
theorem dd_Mo_init_397 : decode bb_Mo_init 397 = .ok (.putfield 158, 3) := by decide +kernel
theorem dd_Mo_init_400 : decode bb_Mo_init 400 = .ok (.aload_n 0, 1) := by decide +kernel
theorem dd_Mo_init_401 : decode bb_Mo_init 401 = .ok (.bipush 64, 2) := by decide +kernel
theorem dd_Mo_init_403 : decode bb_Mo_init 403 = .ok (.newarray .int, 2) := by decide +kernel
theorem dd_Mo_init_405 : decode bb_Mo_init 405 = .ok (.putfield 161, 3) := by decide +kernel
theorem dd_Mo_init_408 : decode bb_Mo_init 408 = .ok (.aload_n 0, 1) := by decide +kernel
theorem dd_Mo_init_409 : decode bb_Mo_init 409 = .ok (.bipush 64, 2) := by decide +kernel
theorem dd_Mo_init_411 : decode bb_Mo_init 411 = .ok (.newarray .int, 2) := by decide +kernel
theorem dd_Mo_init_413 : decode bb_Mo_init 413 = .ok (.putfield 164, 3) := by decide +kernel
theorem dd_Mo_init_416 : decode bb_Mo_init 416 = .ok (.aload_n 0, 1) := by decide +kernel
theorem dd_Mo_init_417 : decode bb_Mo_init 417 = .ok (.bipush 64, 2) := by decide +kernel
theorem dd_Mo_init_419 : decode bb_Mo_init 419 = .ok (.newarray .boolean, 2) := by decide +kernel
theorem dd_Mo_init_421 : decode bb_Mo_init 421 = .ok (.putfield 167, 3) := by decide +kernel
theorem dd_Mo_init_424 : decode bb_Mo_init 424 = .ok (.aload_n 0, 1) := by decide +kernel
theorem dd_Mo_init_425 : decode bb_Mo_init 425 = .ok (.sipush 1024, 3) := by decide +kernel
theorem dd_Mo_init_428 : decode bb_Mo_init 428 = .ok (.newarray .int, 2) := by decide +kernel
theorem dd_Mo_init_430 : decode bb_Mo_init 430 = .ok (.putfield 170, 3) := by decide +kernel
theorem dd_Mo_init_433 : decode bb_Mo_init 433 = .ok (.aload_n 0, 1) := by decide +kernel
theorem dd_Mo_init_434 : decode bb_Mo_init 434 = .ok (.sipush 1024, 3) := by decide +kernel
theorem dd_Mo_init_437 : decode bb_Mo_init 437 = .ok (.newarray .int, 2) := by decide +kernel
theorem dd_Mo_init_439 : decode bb_Mo_init 439 = .ok (.putfield 173, 3) := by decide +kernel
theorem dd_Mo_init_442 : decode bb_Mo_init 442 = .ok (.aload_n 0, 1) := by decide +kernel
theorem dd_Mo_init_443 : decode bb_Mo_init 443 = .ok (.sipush 1024, 3) := by decide +kernel
theorem dd_Mo_init_446 : decode bb_Mo_init 446 = .ok (.newarray .int, 2) := by decide +kernel
theorem dd_Mo_init_448 : decode bb_Mo_init 448 = .ok (.putfield 176, 3) := by decide +kernel
theorem dd_Mo_init_451 : decode bb_Mo_init 451 = .ok (.aload_n 0, 1) := by decide +kernel
theorem dd_Mo_init_452 : decode bb_Mo_init 452 = .ok (.sipush 2560, 3) := by decide +kernel
theorem dd_Mo_init_455 : decode bb_Mo_init 455 = .ok (.newarray .int, 2) := by decide +kernel
theorem dd_Mo_init_457 : decode bb_Mo_init 457 = .ok (.putfield 179, 3) := by decide +kernel
theorem dd_Mo_init_460 : decode bb_Mo_init 460 = .ok (.aload_n 0, 1) := by decide +kernel
theorem dd_Mo_init_461 : decode bb_Mo_init 461 = .ok (.sipush 272, 3) := by decide +kernel
theorem dd_Mo_init_464 : decode bb_Mo_init 464 = .ok (.newarray .int, 2) := by decide +kernel
theorem dd_Mo_init_466 : decode bb_Mo_init 466 = .ok (.putfield 182, 3) := by decide +kernel
theorem dd_Mo_init_469 : decode bb_Mo_init 469 = .ok (.aload_n 0, 1) := by decide +kernel
theorem dd_Mo_init_470 : decode bb_Mo_init 470 = .ok (.sipush 272, 3) := by decide +kernel
theorem dd_Mo_init_473 : decode bb_Mo_init 473 = .ok (.newarray .int, 2) := by decide +kernel
theorem dd_Mo_init_475 : decode bb_Mo_init 475 = .ok (.putfield 185, 3) := by decide +kernel
theorem dd_Mo_init_478 : decode bb_Mo_init 478 = .ok (.aload_n 0, 1) := by decide +kernel
theorem dd_Mo_init_479 : decode bb_Mo_init 479 = .ok (.sipush 272, 3) := by decide +kernel
theorem dd_Mo_init_482 : decode bb_Mo_init 482 = .ok (.newarray .int, 2) := by decide +kernel
theorem dd_Mo_init_484 : decode bb_Mo_init 484 = .ok (.putfield 188, 3) := by decide +kernel
theorem dd_Mo_init_487 : decode bb_Mo_init 487 = .ok (.aload_n 0, 1) := by decide +kernel
theorem dd_Mo_init_488 : decode bb_Mo_init 488 = .ok (.bipush 8, 2) := by decide +kernel
theorem dd_Mo_init_490 : decode bb_Mo_init 490 = .ok (.newarray .int, 2) := by decide +kernel
theorem dd_Mo_init_492 : decode bb_Mo_init 492 = .ok (.putfield 191, 3) := by decide +kernel
theorem dd_Mo_init_495 : decode bb_Mo_init 495 = .ok (.aload_n 0, 1) := by decide +kernel
theorem dd_Mo_init_496 : decode bb_Mo_init 496 = .ok (.bipush 8, 2) := by decide +kernel
theorem dd_Mo_init_498 : decode bb_Mo_init 498 = .ok (.newarray .int, 2) := by decide +kernel
theorem dd_Mo_init_500 : decode bb_Mo_init 500 = .ok (.putfield 194, 3) := by decide +kernel
theorem dd_Mo_init_503 : decode bb_Mo_init 503 = .ok (.aload_n 0, 1) := by decide +kernel
theorem dd_Mo_init_504 : decode bb_Mo_init 504 = .ok (.sipush 256, 3) := by decide +kernel
theorem dd_Mo_init_507 : decode bb_Mo_init 507 = .ok (.newarray .int, 2) := by decide +kernel
theorem dd_Mo_init_509 : decode bb_Mo_init 509 = .ok (.putfield 197, 3) := by decide +kernel
theorem dd_Mo_init_512 : decode bb_Mo_init 512 = .ok (.aload_n 0, 1) := by decide +kernel
theorem dd_Mo_init_513 : decode bb_Mo_init 513 = .ok (.sipush 1024, 3) := by decide +kernel
theorem dd_Mo_init_516 : decode bb_Mo_init 516 = .ok (.newarray .int, 2) := by decide +kernel
theorem dd_Mo_init_518 : decode bb_Mo_init 518 = .ok (.putfield 200, 3) := by decide +kernel
theorem dd_Mo_init_521 : decode bb_Mo_init 521 = .ok (.aload_n 0, 1) := by decide +kernel
theorem dd_Mo_init_522 : decode bb_Mo_init 522 = .ok (.ldc 203, 2) := by decide +kernel
theorem dd_Mo_init_524 : decode bb_Mo_init 524 = .ok (.newarray .int, 2) := by decide +kernel
theorem dd_Mo_init_526 : decode bb_Mo_init 526 = .ok (.putfield 204, 3) := by decide +kernel
theorem dd_Mo_init_529 : decode bb_Mo_init 529 = .ok (.aload_n 0, 1) := by decide +kernel
theorem dd_Mo_init_530 : decode bb_Mo_init 530 = .ok (.sipush 20000, 3) := by decide +kernel
theorem dd_Mo_init_533 : decode bb_Mo_init 533 = .ok (.newarray .int, 2) := by decide +kernel
theorem dd_Mo_init_535 : decode bb_Mo_init 535 = .ok (.putfield 207, 3) := by decide +kernel
theorem dd_Mo_init_538 : decode bb_Mo_init 538 = .ok (.aload_n 0, 1) := by decide +kernel
theorem dd_Mo_init_539 : decode bb_Mo_init 539 = .ok (.sipush 20000, 3) := by decide +kernel
theorem dd_Mo_init_542 : decode bb_Mo_init 542 = .ok (.newarray .int, 2) := by decide +kernel
theorem dd_Mo_init_544 : decode bb_Mo_init 544 = .ok (.putfield 210, 3) := by decide +kernel
theorem dd_Mo_init_547 : decode bb_Mo_init 547 = .ok (.aload_n 0, 1) := by decide +kernel
theorem dd_Mo_init_548 : decode bb_Mo_init 548 = .ok (.ldc 213, 2) := by decide +kernel
theorem dd_Mo_init_550 : decode bb_Mo_init 550 = .ok (.newarray .int, 2) := by decide +kernel
theorem dd_Mo_init_552 : decode bb_Mo_init 552 = .ok (.putfield 214, 3) := by decide +kernel
theorem dd_Mo_init_555 : decode bb_Mo_init 555 = .ok (.aload_n 0, 1) := by decide +kernel
theorem dd_Mo_init_556 : decode bb_Mo_init 556 = .ok (.iconst 4, 1) := by decide +kernel
theorem dd_Mo_init_557 : decode bb_Mo_init 557 = .ok (.newarray .int, 2) := by decide +kernel
theorem dd_Mo_init_559 : decode bb_Mo_init 559 = .ok (.putfield 217, 3) := by decide +kernel
theorem dd_Mo_init_562 : decode bb_Mo_init 562 = .ok (.aload_n 0, 1) := by decide +kernel
theorem dd_Mo_init_563 : decode bb_Mo_init 563 = .ok (.iconst 4, 1) := by decide +kernel
theorem dd_Mo_init_564 : decode bb_Mo_init 564 = .ok (.newarray .int, 2) := by decide +kernel
theorem dd_Mo_init_566 : decode bb_Mo_init 566 = .ok (.putfield 220, 3) := by decide +kernel
theorem dd_Mo_init_569 : decode bb_Mo_init 569 = .ok (.aload_n 0, 1) := by decide +kernel
theorem dd_Mo_init_570 : decode bb_Mo_init 570 = .ok (.iconst 4, 1) := by decide +kernel
theorem dd_Mo_init_571 : decode bb_Mo_init 571 = .ok (.newarray .boolean, 2) := by decide +kernel
theorem dd_Mo_init_573 : decode bb_Mo_init 573 = .ok (.putfield 223, 3) := by decide +kernel
theorem dd_Mo_init_576 : decode bb_Mo_init 576 = .ok (.aload_n 0, 1) := by decide +kernel
theorem dd_Mo_init_577 : decode bb_Mo_init 577 = .ok (.bipush 8, 2) := by decide +kernel
theorem dd_Mo_init_579 : decode bb_Mo_init 579 = .ok (.newarray .int, 2) := by decide +kernel
theorem dd_Mo_init_581 : decode bb_Mo_init 581 = .ok (.putfield 226, 3) := by decide +kernel
theorem dd_Mo_init_584 : decode bb_Mo_init 584 = .ok (.aload_n 0, 1) := by decide +kernel
theorem dd_Mo_init_585 : decode bb_Mo_init 585 = .ok (.ldc 203, 2) := by decide +kernel
theorem dd_Mo_init_587 : decode bb_Mo_init 587 = .ok (.newarray .int, 2) := by decide +kernel
theorem dd_Mo_init_589 : decode bb_Mo_init 589 = .ok (.putfield 229, 3) := by decide +kernel
theorem dd_Mo_init_592 : decode bb_Mo_init 592 = .ok (.aload_n 0, 1) := by decide +kernel
theorem dd_Mo_init_593 : decode bb_Mo_init 593 = .ok (.bipush 99, 2) := by decide +kernel
theorem dd_Mo_init_595 : decode bb_Mo_init 595 = .ok (.newarray .boolean, 2) := by decide +kernel
theorem dd_Mo_init_597 : decode bb_Mo_init 597 = .ok (.putfield 232, 3) := by decide +kernel
theorem dd_Mo_init_600 : decode bb_Mo_init 600 = .ok (.iconst 0, 1) := by decide +kernel
theorem dd_Mo_init_601 : decode bb_Mo_init 601 = .ok (.istore_n 1, 1) := by decide +kernel
theorem dd_Mo_init_602 : decode bb_Mo_init 602 = .ok (.iload_n 1, 1) := by decide +kernel
theorem dd_Mo_init_603 : decode bb_Mo_init 603 = .ok (.bipush 8, 2) := by decide +kernel
theorem dd_Mo_init_605 : decode bb_Mo_init 605 = .ok (.if_icmp .ge 16, 3) := by decide +kernel
theorem dd_Mo_init_608 : decode bb_Mo_init 608 = .ok (.aload_n 0, 1) := by decide +kernel
theorem dd_Mo_init_609 : decode bb_Mo_init 609 = .ok (.getfield 56, 3) := by decide +kernel
theorem dd_Mo_init_612 : decode bb_Mo_init 612 = .ok (.iload_n 1, 1) := by decide +kernel
theorem dd_Mo_init_613 : decode bb_Mo_init 613 = .ok (.iload_n 1, 1) := by decide +kernel
theorem dd_Mo_init_614 : decode bb_Mo_init 614 = .ok (.iastore, 1) := by decide +kernel
theorem dd_Mo_init_615 : decode bb_Mo_init 615 = .ok (.iinc 1 1, 3) := by decide +kernel
theorem dd_Mo_init_618 : decode bb_Mo_init 618 = .ok (.goto (-16), 3) := by decide +kernel
theorem dd_Mo_init_621 : decode bb_Mo_init 621 = .ok (.return_, 1) := by decide +kernel
set_option maxRecDepth 100000 in
set_option maxHeartbeats 4000000 in
theorem u_Mo_init_602  (X : zX p s m args cd D cid B bb_Mo_init 2 rr_Mo zT) (H : zH s meth B n0 none "<init>") {nf mc ms : Nat} {x0 : Nat} {x1 : Int32} {kk : Nat} {nn : Nat} {c : Zc} {r : (Nat × Int32 × Nat × Nat × Zc) ⊕ (Nat × Nat × Zc)} (h : g_Mo_init_602 nf mc ms x0 x1 kk nn c = some r) (k0 : ∀ a, r = .inl a → (fun a : Nat × Int32 × Nat × Nat × Zc => Zz p l e (zRm 1 20 mc ms) s m args below meth cd Q D cid B 2 a.2.2.1 a.2.2.2.1 a.2.2.2.2 602 [(0, .ref a.1), (1, .int a.2.1)] []) a) (k1 : ∀ b, r = .inr b → (fun b : Nat × Nat × Zc => Zz p l e (zRm 1 20 mc ms) s m args below meth cd Q D cid B 2 b.1 b.2.1 b.2.2 621 [] []) b) : Zz p l e (zRm 1 20 mc ms) s m args below meth cd Q D cid B 2 kk nn c 602 [(0, .ref x0), (1, .int x1)] [] := by
  unfold g_Mo_init_602 at h
  refine z_iload_n X dd_Mo_init_602 rfl 1 rfl ?_
  refine z_bipush (v := 8) X dd_Mo_init_603 (by decide) ?_
  refine z_icmp_ge (tgt := 621) X dd_Mo_init_605 (by decide) (fun q214 => ?_) (fun q214 => ?_)
  · rw [if_pos q214] at h
    refine z_sub [] rfl ?_
    obtain rfl := Option.some.inj h
    exact k1 _ rfl
  · rw [if_neg q214] at h
    refine z_aload_n X dd_Mo_init_608 rfl 0 rfl ?_
    obtain ⟨v215, ev215, h⟩ := zb h
    refine z_get (j := 22) X dd_Mo_init_609 kc_12 ki_12 (by decide) km_1543 (zgr_v ev215) ?_
    refine z_iload_n X dd_Mo_init_612 rfl 1 rfl ?_
    refine z_iload_n X dd_Mo_init_613 rfl 1 rfl ?_
    obtain ⟨c216, ec216, h⟩ := zb h
    refine z_iastore X dd_Mo_init_614 rfl ec216 ?_
    refine z_iinc (v := (x1 + 1)) (lv' := [(1, .int (x1 + 1)), (0, .ref x0)]) X dd_Mo_init_615 1 rfl rfl (by decide) rfl ?_
    refine z_goto (tgt := 602) X dd_Mo_init_618 (by decide) ?_
    refine z_sub [1, 0] rfl ?_
    obtain rfl := Option.some.inj h
    exact k0 _ rfl
set_option maxRecDepth 100000 in
set_option maxHeartbeats 4000000 in
theorem t_Mo_init_602  (X : zX p s m args cd D cid B bb_Mo_init 2 rr_Mo zT) (H : zH s meth B n0 none "<init>") {nf mc ms : Nat} {x0 : Nat} {x1 : Int32} {kk : Nat} {nn : Nat} {c : Zc} {res : Zc} (h : f_Mo_init_602 nf mc ms x0 x1 kk nn c = some res) : Zz p l e (zRm 1 20 mc ms) s m args below meth cd (MQ below (zQv D cid B res n0 mc) args s mc ms (fun q => B ≤ q)) D cid B 2 kk nn c 602 [(0, .ref x0), (1, .int x1)] [] := by
  unfold f_Mo_init_602 at h
  obtain ⟨b, eb, h⟩ := zb h
  refine zlp_ok (P := fun a : Nat × Int32 × Nat × Nat × Zc => Zz p l e (zRm 1 20 mc ms) s m args below meth cd _ D cid B 2 a.2.2.1 a.2.2.2.1 a.2.2.2.2 602 [(0, .ref a.1), (1, .int a.2.1)] []) (G := fun b : Nat × Nat × Zc => Zz p l e (zRm 1 20 mc ms) s m args below meth cd _ D cid B 2 b.1 b.2.1 b.2.2 621 [] []) (fun a r ha k0 k1 => u_Mo_init_602 X H ha k0 k1) nf _ b eb ?_
  obtain ⟨u217, eu217, h⟩ := zb h
  refine z_wid (zend_s eu217).1 (zend_s eu217).2 ?_
  obtain rfl := Option.some.inj h
  exact z_vret X H.1 H.2.1 H.2.2.1 dd_Mo_init_621
set_option maxRecDepth 100000 in
set_option maxHeartbeats 4000000 in
theorem c_Mo_init (l : Launch) {nf mc ms : Nat} {a0 : Nat} {c : Zc} {res : Zc} (h : f_Mo_init nf mc ms a0 c = some res) : zM l yy_Mo_init ww_Mo_init 1 20 mc ms [.ref a0] c (fun D cid B => zQv D cid B res c.length mc) := by
  refine z_met (cc := bb_Mo_init) (maxL := 2) (ret := none) (by decide +kernel) rfl (Nat.le_of_ble_eq_true rfl) ?_
  intro p e s m args below meth cd D cid B X h1 h2 h3 h4
  have X : zX p s m args cd D cid B bb_Mo_init 2 rr_Mo zT := X
  have H : zH s meth B c.length none "<init>" := ⟨h1, h2, h4, h3⟩
  unfold f_Mo_init at h
  show Zz p l e (zRm 1 20 mc ms) s m args below meth cd _ D cid B 2 0 0 c 0 [(0, .ref a0)] []
  refine z_aload_n X dd_Mo_init_0 rfl 0 rfl ?_
  refine z_objInit X dd_Mo_init_1 km_1518 km_153 km_154 (Nat.le_of_ble_eq_true rfl) (Nat.le_of_ble_eq_true rfl) ?_
  refine z_aload_n X dd_Mo_init_4 rfl 0 rfl ?_
  refine z_bipush (v := 16) X dd_Mo_init_5 (by decide) ?_
  obtain ⟨u2, eu2, h⟩ := zb h
  obtain ⟨c1, ec1, h⟩ := zb h
  refine z_newaC (ty := .int) X dd_Mo_init_7 rfl km_206 rfl (fun _ q => by cases q) (fun _ => rfl) (fun _ => rfl) (by decide) (by decide) (by decide) (zlim_s eu2).1 (zlim_s eu2).2 ec1 ?_
  obtain ⟨c3, ec3, h⟩ := zb h
  refine z_putF (j := 1) X dd_Mo_init_9 kc_12 ki_12 tt_Mo tk_Mo nn_Mo (by decide) km_1522 rfl H.2.2.2 rfl (tk_Mo 1 (by decide)) rfl rfl ec3 ?_
  refine z_aload_n X dd_Mo_init_12 rfl 0 rfl ?_
  refine z_bipush (v := 64) X dd_Mo_init_13 (by decide) ?_
  obtain ⟨u5, eu5, h⟩ := zb h
  obtain ⟨c4, ec4, h⟩ := zb h
  refine z_newaC (ty := .int) X dd_Mo_init_15 rfl km_206 rfl (fun _ q => by cases q) (fun _ => rfl) (fun _ => rfl) (by decide) (by decide) (by decide) (zlim_s eu5).1 (zlim_s eu5).2 ec4 ?_
  obtain ⟨c6, ec6, h⟩ := zb h
  refine z_putF (j := 2) X dd_Mo_init_17 kc_12 ki_12 tt_Mo tk_Mo nn_Mo (by decide) km_1523 rfl H.2.2.2 rfl (tk_Mo 2 (by decide)) rfl rfl ec6 ?_
  refine z_aload_n X dd_Mo_init_20 rfl 0 rfl ?_
  refine z_bipush (v := 100) X dd_Mo_init_21 (by decide) ?_
  obtain ⟨u8, eu8, h⟩ := zb h
  obtain ⟨c7, ec7, h⟩ := zb h
  refine z_newaC (ty := .boolean) X dd_Mo_init_23 rfl km_1792 rfl (fun _ q => by cases q) (fun _ => rfl) (fun _ => rfl) (by decide) (by decide) (by decide) (zlim_s eu8).1 (zlim_s eu8).2 ec7 ?_
  obtain ⟨c9, ec9, h⟩ := zb h
  refine z_putF (j := 3) X dd_Mo_init_25 kc_12 ki_12 tt_Mo tk_Mo nn_Mo (by decide) km_1524 rfl H.2.2.2 rfl (tk_Mo 3 (by decide)) rfl rfl ec9 ?_
  refine z_aload_n X dd_Mo_init_28 rfl 0 rfl ?_
  refine z_bipush (v := 100) X dd_Mo_init_29 (by decide) ?_
  obtain ⟨u11, eu11, h⟩ := zb h
  obtain ⟨c10, ec10, h⟩ := zb h
  refine z_newaC (ty := .int) X dd_Mo_init_31 rfl km_206 rfl (fun _ q => by cases q) (fun _ => rfl) (fun _ => rfl) (by decide) (by decide) (by decide) (zlim_s eu11).1 (zlim_s eu11).2 ec10 ?_
  obtain ⟨c12, ec12, h⟩ := zb h
  refine z_putF (j := 4) X dd_Mo_init_33 kc_12 ki_12 tt_Mo tk_Mo nn_Mo (by decide) km_1525 rfl H.2.2.2 rfl (tk_Mo 4 (by decide)) rfl rfl ec12 ?_
  refine z_aload_n X dd_Mo_init_36 rfl 0 rfl ?_
  refine z_bipush (v := 100) X dd_Mo_init_37 (by decide) ?_
  obtain ⟨u14, eu14, h⟩ := zb h
  obtain ⟨c13, ec13, h⟩ := zb h
  refine z_newaC (ty := .int) X dd_Mo_init_39 rfl km_206 rfl (fun _ q => by cases q) (fun _ => rfl) (fun _ => rfl) (by decide) (by decide) (by decide) (zlim_s eu14).1 (zlim_s eu14).2 ec13 ?_
  obtain ⟨c15, ec15, h⟩ := zb h
  refine z_putF (j := 5) X dd_Mo_init_41 kc_12 ki_12 tt_Mo tk_Mo nn_Mo (by decide) km_1526 rfl H.2.2.2 rfl (tk_Mo 5 (by decide)) rfl rfl ec15 ?_
  refine z_aload_n X dd_Mo_init_44 rfl 0 rfl ?_
  refine z_bipush (v := 100) X dd_Mo_init_45 (by decide) ?_
  obtain ⟨u17, eu17, h⟩ := zb h
  obtain ⟨c16, ec16, h⟩ := zb h
  refine z_newaC (ty := .int) X dd_Mo_init_47 rfl km_206 rfl (fun _ q => by cases q) (fun _ => rfl) (fun _ => rfl) (by decide) (by decide) (by decide) (zlim_s eu17).1 (zlim_s eu17).2 ec16 ?_
  obtain ⟨c18, ec18, h⟩ := zb h
  refine z_putF (j := 6) X dd_Mo_init_49 kc_12 ki_12 tt_Mo tk_Mo nn_Mo (by decide) km_1527 rfl H.2.2.2 rfl (tk_Mo 6 (by decide)) rfl rfl ec18 ?_
  refine z_aload_n X dd_Mo_init_52 rfl 0 rfl ?_
  refine z_bipush (v := 100) X dd_Mo_init_53 (by decide) ?_
  obtain ⟨u20, eu20, h⟩ := zb h
  obtain ⟨c19, ec19, h⟩ := zb h
  refine z_newaC (ty := .int) X dd_Mo_init_55 rfl km_206 rfl (fun _ q => by cases q) (fun _ => rfl) (fun _ => rfl) (by decide) (by decide) (by decide) (zlim_s eu20).1 (zlim_s eu20).2 ec19 ?_
  obtain ⟨c21, ec21, h⟩ := zb h
  refine z_putF (j := 7) X dd_Mo_init_57 kc_12 ki_12 tt_Mo tk_Mo nn_Mo (by decide) km_1528 rfl H.2.2.2 rfl (tk_Mo 7 (by decide)) rfl rfl ec21 ?_
  refine z_aload_n X dd_Mo_init_60 rfl 0 rfl ?_
  refine z_sipush (v := 3328) X dd_Mo_init_61 (by decide) ?_
  obtain ⟨u23, eu23, h⟩ := zb h
  obtain ⟨c22, ec22, h⟩ := zb h
  refine z_newaC (ty := .int) X dd_Mo_init_64 rfl km_206 rfl (fun _ q => by cases q) (fun _ => rfl) (fun _ => rfl) (by decide) (by decide) (by decide) (zlim_s eu23).1 (zlim_s eu23).2 ec22 ?_
  obtain ⟨c24, ec24, h⟩ := zb h
  refine z_putF (j := 9) X dd_Mo_init_66 kc_12 ki_12 tt_Mo tk_Mo nn_Mo (by decide) km_1530 rfl H.2.2.2 rfl (tk_Mo 9 (by decide)) rfl rfl ec24 ?_
  refine z_aload_n X dd_Mo_init_69 rfl 0 rfl ?_
  refine z_iconst (v := 1) X dd_Mo_init_70 (by decide) ?_
  obtain ⟨c25, ec25, h⟩ := zb h
  refine z_put (j := 10) X dd_Mo_init_71 kc_12 ki_12 tt_Mo tk_Mo nn_Mo (by decide) km_1531 rfl (tk_Mo 10 (by decide)) rfl rfl ec25 ?_
  refine z_aload_n X dd_Mo_init_74 rfl 0 rfl ?_
  refine z_sipush (v := 1500) X dd_Mo_init_75 (by decide) ?_
  obtain ⟨u27, eu27, h⟩ := zb h
  obtain ⟨c26, ec26, h⟩ := zb h
  refine z_newaC (ty := .byte) X dd_Mo_init_78 rfl km_205 rfl (fun _ q => by cases q) (fun _ => rfl) (fun _ => rfl) (by decide) (by decide) (by decide) (zlim_s eu27).1 (zlim_s eu27).2 ec26 ?_
  obtain ⟨c28, ec28, h⟩ := zb h
  refine z_putF (j := 12) X dd_Mo_init_80 kc_12 ki_12 tt_Mo tk_Mo nn_Mo (by decide) km_1533 rfl H.2.2.2 rfl (tk_Mo 12 (by decide)) rfl rfl ec28 ?_
  refine z_aload_n X dd_Mo_init_83 rfl 0 rfl ?_
  refine z_sipush (v := 1502) X dd_Mo_init_84 (by decide) ?_
  obtain ⟨u30, eu30, h⟩ := zb h
  obtain ⟨c29, ec29, h⟩ := zb h
  refine z_newaC (ty := .int) X dd_Mo_init_87 rfl km_206 rfl (fun _ q => by cases q) (fun _ => rfl) (fun _ => rfl) (by decide) (by decide) (by decide) (zlim_s eu30).1 (zlim_s eu30).2 ec29 ?_
  obtain ⟨c31, ec31, h⟩ := zb h
  refine z_putF (j := 14) X dd_Mo_init_89 kc_12 ki_12 tt_Mo tk_Mo nn_Mo (by decide) km_1535 rfl H.2.2.2 rfl (tk_Mo 14 (by decide)) rfl rfl ec31 ?_
  refine z_aload_n X dd_Mo_init_92 rfl 0 rfl ?_
  refine z_sipush (v := 1502) X dd_Mo_init_93 (by decide) ?_
  obtain ⟨u33, eu33, h⟩ := zb h
  obtain ⟨c32, ec32, h⟩ := zb h
  refine z_newaC (ty := .int) X dd_Mo_init_96 rfl km_206 rfl (fun _ q => by cases q) (fun _ => rfl) (fun _ => rfl) (by decide) (by decide) (by decide) (zlim_s eu33).1 (zlim_s eu33).2 ec32 ?_
  obtain ⟨c34, ec34, h⟩ := zb h
  refine z_putF (j := 15) X dd_Mo_init_98 kc_12 ki_12 tt_Mo tk_Mo nn_Mo (by decide) km_1536 rfl H.2.2.2 rfl (tk_Mo 15 (by decide)) rfl rfl ec34 ?_
  refine z_aload_n X dd_Mo_init_101 rfl 0 rfl ?_
  refine z_sipush (v := 1502) X dd_Mo_init_102 (by decide) ?_
  obtain ⟨u36, eu36, h⟩ := zb h
  obtain ⟨c35, ec35, h⟩ := zb h
  refine z_newaC (ty := .int) X dd_Mo_init_105 rfl km_206 rfl (fun _ q => by cases q) (fun _ => rfl) (fun _ => rfl) (by decide) (by decide) (by decide) (zlim_s eu36).1 (zlim_s eu36).2 ec35 ?_
  obtain ⟨c37, ec37, h⟩ := zb h
  refine z_putF (j := 16) X dd_Mo_init_107 kc_12 ki_12 tt_Mo tk_Mo nn_Mo (by decide) km_1537 rfl H.2.2.2 rfl (tk_Mo 16 (by decide)) rfl rfl ec37 ?_
  refine z_aload_n X dd_Mo_init_110 rfl 0 rfl ?_
  refine z_bipush (v := (-2)) X dd_Mo_init_111 (by decide) ?_
  obtain ⟨c38, ec38, h⟩ := zb h
  refine z_put (j := 21) X dd_Mo_init_113 kc_12 ki_12 tt_Mo tk_Mo nn_Mo (by decide) km_1542 rfl (tk_Mo 21 (by decide)) rfl rfl ec38 ?_
  refine z_aload_n X dd_Mo_init_116 rfl 0 rfl ?_
  refine z_bipush (v := 8) X dd_Mo_init_117 (by decide) ?_
  obtain ⟨u40, eu40, h⟩ := zb h
  obtain ⟨c39, ec39, h⟩ := zb h
  refine z_newaC (ty := .int) X dd_Mo_init_119 rfl km_206 rfl (fun _ q => by cases q) (fun _ => rfl) (fun _ => rfl) (by decide) (by decide) (by decide) (zlim_s eu40).1 (zlim_s eu40).2 ec39 ?_
  obtain ⟨c41, ec41, h⟩ := zb h
  refine z_putF (j := 22) X dd_Mo_init_121 kc_12 ki_12 tt_Mo tk_Mo nn_Mo (by decide) km_1543 rfl H.2.2.2 rfl (tk_Mo 22 (by decide)) rfl rfl ec41 ?_
  refine z_aload_n X dd_Mo_init_124 rfl 0 rfl ?_
  refine z_bipush (v := 8) X dd_Mo_init_125 (by decide) ?_
  obtain ⟨u43, eu43, h⟩ := zb h
  obtain ⟨c42, ec42, h⟩ := zb h
  refine z_newaC (ty := .boolean) X dd_Mo_init_127 rfl km_1792 rfl (fun _ q => by cases q) (fun _ => rfl) (fun _ => rfl) (by decide) (by decide) (by decide) (zlim_s eu43).1 (zlim_s eu43).2 ec42 ?_
  obtain ⟨c44, ec44, h⟩ := zb h
  refine z_putF (j := 23) X dd_Mo_init_129 kc_12 ki_12 tt_Mo tk_Mo nn_Mo (by decide) km_1544 rfl H.2.2.2 rfl (tk_Mo 23 (by decide)) rfl rfl ec44 ?_
  refine z_aload_n X dd_Mo_init_132 rfl 0 rfl ?_
  refine z_bipush (v := 8) X dd_Mo_init_133 (by decide) ?_
  obtain ⟨c45, ec45, h⟩ := zb h
  refine z_put (j := 24) X dd_Mo_init_135 kc_12 ki_12 tt_Mo tk_Mo nn_Mo (by decide) km_1545 rfl (tk_Mo 24 (by decide)) rfl rfl ec45 ?_
  refine z_aload_n X dd_Mo_init_138 rfl 0 rfl ?_
  refine z_bipush (v := 9) X dd_Mo_init_139 (by decide) ?_
  obtain ⟨u47, eu47, h⟩ := zb h
  obtain ⟨c46, ec46, h⟩ := zb h
  refine z_newaC (ty := .int) X dd_Mo_init_141 rfl km_206 rfl (fun _ q => by cases q) (fun _ => rfl) (fun _ => rfl) (by decide) (by decide) (by decide) (zlim_s eu47).1 (zlim_s eu47).2 ec46 ?_
  obtain ⟨c48, ec48, h⟩ := zb h
  refine z_putF (j := 26) X dd_Mo_init_143 kc_12 ki_12 tt_Mo tk_Mo nn_Mo (by decide) km_1547 rfl H.2.2.2 rfl (tk_Mo 26 (by decide)) rfl rfl ec48 ?_
  refine z_aload_n X dd_Mo_init_146 rfl 0 rfl ?_
  refine z_bipush (v := 9) X dd_Mo_init_147 (by decide) ?_
  obtain ⟨u50, eu50, h⟩ := zb h
  obtain ⟨c49, ec49, h⟩ := zb h
  refine z_newaC (ty := .int) X dd_Mo_init_149 rfl km_206 rfl (fun _ q => by cases q) (fun _ => rfl) (fun _ => rfl) (by decide) (by decide) (by decide) (zlim_s eu50).1 (zlim_s eu50).2 ec49 ?_
  obtain ⟨c51, ec51, h⟩ := zb h
  refine z_putF (j := 27) X dd_Mo_init_151 kc_12 ki_12 tt_Mo tk_Mo nn_Mo (by decide) km_1548 rfl H.2.2.2 rfl (tk_Mo 27 (by decide)) rfl rfl ec51 ?_
  refine z_aload_n X dd_Mo_init_154 rfl 0 rfl ?_
  refine z_bipush (v := 9) X dd_Mo_init_155 (by decide) ?_
  obtain ⟨u53, eu53, h⟩ := zb h
  obtain ⟨c52, ec52, h⟩ := zb h
  refine z_newaC (ty := .int) X dd_Mo_init_157 rfl km_206 rfl (fun _ q => by cases q) (fun _ => rfl) (fun _ => rfl) (by decide) (by decide) (by decide) (zlim_s eu53).1 (zlim_s eu53).2 ec52 ?_
  obtain ⟨c54, ec54, h⟩ := zb h
  refine z_putF (j := 28) X dd_Mo_init_159 kc_12 ki_12 tt_Mo tk_Mo nn_Mo (by decide) km_1549 rfl H.2.2.2 rfl (tk_Mo 28 (by decide)) rfl rfl ec54 ?_
  refine z_aload_n X dd_Mo_init_162 rfl 0 rfl ?_
  refine z_bipush (v := 72) X dd_Mo_init_163 (by decide) ?_
  obtain ⟨u56, eu56, h⟩ := zb h
  obtain ⟨c55, ec55, h⟩ := zb h
  refine z_newaC (ty := .int) X dd_Mo_init_165 rfl km_206 rfl (fun _ q => by cases q) (fun _ => rfl) (fun _ => rfl) (by decide) (by decide) (by decide) (zlim_s eu56).1 (zlim_s eu56).2 ec55 ?_
  obtain ⟨c57, ec57, h⟩ := zb h
  refine z_putF (j := 29) X dd_Mo_init_167 kc_12 ki_12 tt_Mo tk_Mo nn_Mo (by decide) km_1550 rfl H.2.2.2 rfl (tk_Mo 29 (by decide)) rfl rfl ec57 ?_
  refine z_aload_n X dd_Mo_init_170 rfl 0 rfl ?_
  refine z_sipush (v := 5760) X dd_Mo_init_171 (by decide) ?_
  obtain ⟨u59, eu59, h⟩ := zb h
  obtain ⟨c58, ec58, h⟩ := zb h
  refine z_newaC (ty := .int) X dd_Mo_init_174 rfl km_206 rfl (fun _ q => by cases q) (fun _ => rfl) (fun _ => rfl) (by decide) (by decide) (by decide) (zlim_s eu59).1 (zlim_s eu59).2 ec58 ?_
  obtain ⟨c60, ec60, h⟩ := zb h
  refine z_putF (j := 30) X dd_Mo_init_176 kc_12 ki_12 tt_Mo tk_Mo nn_Mo (by decide) km_1551 rfl H.2.2.2 rfl (tk_Mo 30 (by decide)) rfl rfl ec60 ?_
  refine z_aload_n X dd_Mo_init_179 rfl 0 rfl ?_
  refine z_bipush (v := 9) X dd_Mo_init_180 (by decide) ?_
  obtain ⟨u62, eu62, h⟩ := zb h
  obtain ⟨c61, ec61, h⟩ := zb h
  refine z_newaC (ty := .int) X dd_Mo_init_182 rfl km_206 rfl (fun _ q => by cases q) (fun _ => rfl) (fun _ => rfl) (by decide) (by decide) (by decide) (zlim_s eu62).1 (zlim_s eu62).2 ec61 ?_
  obtain ⟨c63, ec63, h⟩ := zb h
  refine z_putF (j := 31) X dd_Mo_init_184 kc_12 ki_12 tt_Mo tk_Mo nn_Mo (by decide) km_1552 rfl H.2.2.2 rfl (tk_Mo 31 (by decide)) rfl rfl ec63 ?_
  refine z_aload_n X dd_Mo_init_187 rfl 0 rfl ?_
  refine z_bipush (v := 99) X dd_Mo_init_188 (by decide) ?_
  obtain ⟨u65, eu65, h⟩ := zb h
  obtain ⟨c64, ec64, h⟩ := zb h
  refine z_newaC (ty := .int) X dd_Mo_init_190 rfl km_206 rfl (fun _ q => by cases q) (fun _ => rfl) (fun _ => rfl) (by decide) (by decide) (by decide) (zlim_s eu65).1 (zlim_s eu65).2 ec64 ?_
  obtain ⟨c66, ec66, h⟩ := zb h
  refine z_putF (j := 32) X dd_Mo_init_192 kc_12 ki_12 tt_Mo tk_Mo nn_Mo (by decide) km_1553 rfl H.2.2.2 rfl (tk_Mo 32 (by decide)) rfl rfl ec66 ?_
  refine z_aload_n X dd_Mo_init_195 rfl 0 rfl ?_
  refine z_bipush (v := 99) X dd_Mo_init_196 (by decide) ?_
  obtain ⟨u68, eu68, h⟩ := zb h
  obtain ⟨c67, ec67, h⟩ := zb h
  refine z_newaC (ty := .int) X dd_Mo_init_198 rfl km_206 rfl (fun _ q => by cases q) (fun _ => rfl) (fun _ => rfl) (by decide) (by decide) (by decide) (zlim_s eu68).1 (zlim_s eu68).2 ec67 ?_
  obtain ⟨c69, ec69, h⟩ := zb h
  refine z_putF (j := 33) X dd_Mo_init_200 kc_12 ki_12 tt_Mo tk_Mo nn_Mo (by decide) km_1554 rfl H.2.2.2 rfl (tk_Mo 33 (by decide)) rfl rfl ec69 ?_
  refine z_aload_n X dd_Mo_init_203 rfl 0 rfl ?_
  refine z_bipush (v := 99) X dd_Mo_init_204 (by decide) ?_
  obtain ⟨u71, eu71, h⟩ := zb h
  obtain ⟨c70, ec70, h⟩ := zb h
  refine z_newaC (ty := .int) X dd_Mo_init_206 rfl km_206 rfl (fun _ q => by cases q) (fun _ => rfl) (fun _ => rfl) (by decide) (by decide) (by decide) (zlim_s eu71).1 (zlim_s eu71).2 ec70 ?_
  obtain ⟨c72, ec72, h⟩ := zb h
  refine z_putF (j := 34) X dd_Mo_init_208 kc_12 ki_12 tt_Mo tk_Mo nn_Mo (by decide) km_1555 rfl H.2.2.2 rfl (tk_Mo 34 (by decide)) rfl rfl ec72 ?_
  refine z_aload_n X dd_Mo_init_211 rfl 0 rfl ?_
  refine z_bipush (v := 99) X dd_Mo_init_212 (by decide) ?_
  obtain ⟨u74, eu74, h⟩ := zb h
  obtain ⟨c73, ec73, h⟩ := zb h
  refine z_newaC (ty := .int) X dd_Mo_init_214 rfl km_206 rfl (fun _ q => by cases q) (fun _ => rfl) (fun _ => rfl) (by decide) (by decide) (by decide) (zlim_s eu74).1 (zlim_s eu74).2 ec73 ?_
  obtain ⟨c75, ec75, h⟩ := zb h
  refine z_putF (j := 35) X dd_Mo_init_216 kc_12 ki_12 tt_Mo tk_Mo nn_Mo (by decide) km_1556 rfl H.2.2.2 rfl (tk_Mo 35 (by decide)) rfl rfl ec75 ?_
  refine z_aload_n X dd_Mo_init_219 rfl 0 rfl ?_
  refine z_bipush (v := 99) X dd_Mo_init_220 (by decide) ?_
  obtain ⟨u77, eu77, h⟩ := zb h
  obtain ⟨c76, ec76, h⟩ := zb h
  refine z_newaC (ty := .boolean) X dd_Mo_init_222 rfl km_1792 rfl (fun _ q => by cases q) (fun _ => rfl) (fun _ => rfl) (by decide) (by decide) (by decide) (zlim_s eu77).1 (zlim_s eu77).2 ec76 ?_
  obtain ⟨c78, ec78, h⟩ := zb h
  refine z_putF (j := 36) X dd_Mo_init_224 kc_12 ki_12 tt_Mo tk_Mo nn_Mo (by decide) km_1557 rfl H.2.2.2 rfl (tk_Mo 36 (by decide)) rfl rfl ec78 ?_
  refine z_aload_n X dd_Mo_init_227 rfl 0 rfl ?_
  refine z_bipush (v := 99) X dd_Mo_init_228 (by decide) ?_
  obtain ⟨u80, eu80, h⟩ := zb h
  obtain ⟨c79, ec79, h⟩ := zb h
  refine z_newaC (ty := .int) X dd_Mo_init_230 rfl km_206 rfl (fun _ q => by cases q) (fun _ => rfl) (fun _ => rfl) (by decide) (by decide) (by decide) (zlim_s eu80).1 (zlim_s eu80).2 ec79 ?_
  obtain ⟨c81, ec81, h⟩ := zb h
  refine z_putF (j := 37) X dd_Mo_init_232 kc_12 ki_12 tt_Mo tk_Mo nn_Mo (by decide) km_1558 rfl H.2.2.2 rfl (tk_Mo 37 (by decide)) rfl rfl ec81 ?_
  refine z_aload_n X dd_Mo_init_235 rfl 0 rfl ?_
  refine z_bipush (v := 99) X dd_Mo_init_236 (by decide) ?_
  obtain ⟨u83, eu83, h⟩ := zb h
  obtain ⟨c82, ec82, h⟩ := zb h
  refine z_newaC (ty := .int) X dd_Mo_init_238 rfl km_206 rfl (fun _ q => by cases q) (fun _ => rfl) (fun _ => rfl) (by decide) (by decide) (by decide) (zlim_s eu83).1 (zlim_s eu83).2 ec82 ?_
  obtain ⟨c84, ec84, h⟩ := zb h
  refine z_putF (j := 38) X dd_Mo_init_240 kc_12 ki_12 tt_Mo tk_Mo nn_Mo (by decide) km_1559 rfl H.2.2.2 rfl (tk_Mo 38 (by decide)) rfl rfl ec84 ?_
  refine z_aload_n X dd_Mo_init_243 rfl 0 rfl ?_
  refine z_bipush (v := 99) X dd_Mo_init_244 (by decide) ?_
  obtain ⟨u86, eu86, h⟩ := zb h
  obtain ⟨c85, ec85, h⟩ := zb h
  refine z_newaC (ty := .int) X dd_Mo_init_246 rfl km_206 rfl (fun _ q => by cases q) (fun _ => rfl) (fun _ => rfl) (by decide) (by decide) (by decide) (zlim_s eu86).1 (zlim_s eu86).2 ec85 ?_
  obtain ⟨c87, ec87, h⟩ := zb h
  refine z_putF (j := 39) X dd_Mo_init_248 kc_12 ki_12 tt_Mo tk_Mo nn_Mo (by decide) km_1560 rfl H.2.2.2 rfl (tk_Mo 39 (by decide)) rfl rfl ec87 ?_
  refine z_aload_n X dd_Mo_init_251 rfl 0 rfl ?_
  refine z_sipush (v := 1584) X dd_Mo_init_252 (by decide) ?_
  obtain ⟨u89, eu89, h⟩ := zb h
  obtain ⟨c88, ec88, h⟩ := zb h
  refine z_newaC (ty := .int) X dd_Mo_init_255 rfl km_206 rfl (fun _ q => by cases q) (fun _ => rfl) (fun _ => rfl) (by decide) (by decide) (by decide) (zlim_s eu89).1 (zlim_s eu89).2 ec88 ?_
  obtain ⟨c90, ec90, h⟩ := zb h
  refine z_putF (j := 40) X dd_Mo_init_257 kc_12 ki_12 tt_Mo tk_Mo nn_Mo (by decide) km_1561 rfl H.2.2.2 rfl (tk_Mo 40 (by decide)) rfl rfl ec90 ?_
  refine z_aload_n X dd_Mo_init_260 rfl 0 rfl ?_
  refine z_sipush (v := 1584) X dd_Mo_init_261 (by decide) ?_
  obtain ⟨u92, eu92, h⟩ := zb h
  obtain ⟨c91, ec91, h⟩ := zb h
  refine z_newaC (ty := .boolean) X dd_Mo_init_264 rfl km_1792 rfl (fun _ q => by cases q) (fun _ => rfl) (fun _ => rfl) (by decide) (by decide) (by decide) (zlim_s eu92).1 (zlim_s eu92).2 ec91 ?_
  obtain ⟨c93, ec93, h⟩ := zb h
  refine z_putF (j := 41) X dd_Mo_init_266 kc_12 ki_12 tt_Mo tk_Mo nn_Mo (by decide) km_1562 rfl H.2.2.2 rfl (tk_Mo 41 (by decide)) rfl rfl ec93 ?_
  refine z_aload_n X dd_Mo_init_269 rfl 0 rfl ?_
  refine z_sipush (v := 1584) X dd_Mo_init_270 (by decide) ?_
  obtain ⟨u95, eu95, h⟩ := zb h
  obtain ⟨c94, ec94, h⟩ := zb h
  refine z_newaC (ty := .int) X dd_Mo_init_273 rfl km_206 rfl (fun _ q => by cases q) (fun _ => rfl) (fun _ => rfl) (by decide) (by decide) (by decide) (zlim_s eu95).1 (zlim_s eu95).2 ec94 ?_
  obtain ⟨c96, ec96, h⟩ := zb h
  refine z_putF (j := 42) X dd_Mo_init_275 kc_12 ki_12 tt_Mo tk_Mo nn_Mo (by decide) km_1563 rfl H.2.2.2 rfl (tk_Mo 42 (by decide)) rfl rfl ec96 ?_
  refine z_aload_n X dd_Mo_init_278 rfl 0 rfl ?_
  refine z_bipush (v := 9) X dd_Mo_init_279 (by decide) ?_
  obtain ⟨u98, eu98, h⟩ := zb h
  obtain ⟨c97, ec97, h⟩ := zb h
  refine z_newaC (ty := .int) X dd_Mo_init_281 rfl km_206 rfl (fun _ q => by cases q) (fun _ => rfl) (fun _ => rfl) (by decide) (by decide) (by decide) (zlim_s eu98).1 (zlim_s eu98).2 ec97 ?_
  obtain ⟨c99, ec99, h⟩ := zb h
  refine z_putF (j := 43) X dd_Mo_init_283 kc_12 ki_12 tt_Mo tk_Mo nn_Mo (by decide) km_1564 rfl H.2.2.2 rfl (tk_Mo 43 (by decide)) rfl rfl ec99 ?_
  refine z_aload_n X dd_Mo_init_286 rfl 0 rfl ?_
  refine z_bipush (v := 72) X dd_Mo_init_287 (by decide) ?_
  obtain ⟨u101, eu101, h⟩ := zb h
  obtain ⟨c100, ec100, h⟩ := zb h
  refine z_newaC (ty := .int) X dd_Mo_init_289 rfl km_206 rfl (fun _ q => by cases q) (fun _ => rfl) (fun _ => rfl) (by decide) (by decide) (by decide) (zlim_s eu101).1 (zlim_s eu101).2 ec100 ?_
  obtain ⟨c102, ec102, h⟩ := zb h
  refine z_putF (j := 44) X dd_Mo_init_291 kc_12 ki_12 tt_Mo tk_Mo nn_Mo (by decide) km_1565 rfl H.2.2.2 rfl (tk_Mo 44 (by decide)) rfl rfl ec102 ?_
  refine z_aload_n X dd_Mo_init_294 rfl 0 rfl ?_
  refine z_bipush (v := 72) X dd_Mo_init_295 (by decide) ?_
  obtain ⟨u104, eu104, h⟩ := zb h
  obtain ⟨c103, ec103, h⟩ := zb h
  refine z_newaC (ty := .int) X dd_Mo_init_297 rfl km_206 rfl (fun _ q => by cases q) (fun _ => rfl) (fun _ => rfl) (by decide) (by decide) (by decide) (zlim_s eu104).1 (zlim_s eu104).2 ec103 ?_
  obtain ⟨c105, ec105, h⟩ := zb h
  refine z_putF (j := 45) X dd_Mo_init_299 kc_12 ki_12 tt_Mo tk_Mo nn_Mo (by decide) km_1566 rfl H.2.2.2 rfl (tk_Mo 45 (by decide)) rfl rfl ec105 ?_
  refine z_aload_n X dd_Mo_init_302 rfl 0 rfl ?_
  refine z_bipush (v := 9) X dd_Mo_init_303 (by decide) ?_
  obtain ⟨u107, eu107, h⟩ := zb h
  obtain ⟨c106, ec106, h⟩ := zb h
  refine z_newaC (ty := .int) X dd_Mo_init_305 rfl km_206 rfl (fun _ q => by cases q) (fun _ => rfl) (fun _ => rfl) (by decide) (by decide) (by decide) (zlim_s eu107).1 (zlim_s eu107).2 ec106 ?_
  obtain ⟨c108, ec108, h⟩ := zb h
  refine z_putF (j := 46) X dd_Mo_init_307 kc_12 ki_12 tt_Mo tk_Mo nn_Mo (by decide) km_1567 rfl H.2.2.2 rfl (tk_Mo 46 (by decide)) rfl rfl ec108 ?_
  refine z_aload_n X dd_Mo_init_310 rfl 0 rfl ?_
  refine z_bipush (v := 9) X dd_Mo_init_311 (by decide) ?_
  obtain ⟨u110, eu110, h⟩ := zb h
  obtain ⟨c109, ec109, h⟩ := zb h
  refine z_newaC (ty := .int) X dd_Mo_init_313 rfl km_206 rfl (fun _ q => by cases q) (fun _ => rfl) (fun _ => rfl) (by decide) (by decide) (by decide) (zlim_s eu110).1 (zlim_s eu110).2 ec109 ?_
  obtain ⟨c111, ec111, h⟩ := zb h
  refine z_putF (j := 47) X dd_Mo_init_315 kc_12 ki_12 tt_Mo tk_Mo nn_Mo (by decide) km_1568 rfl H.2.2.2 rfl (tk_Mo 47 (by decide)) rfl rfl ec111 ?_
  refine z_aload_n X dd_Mo_init_318 rfl 0 rfl ?_
  refine z_bipush (v := 9) X dd_Mo_init_319 (by decide) ?_
  obtain ⟨u113, eu113, h⟩ := zb h
  obtain ⟨c112, ec112, h⟩ := zb h
  refine z_newaC (ty := .int) X dd_Mo_init_321 rfl km_206 rfl (fun _ q => by cases q) (fun _ => rfl) (fun _ => rfl) (by decide) (by decide) (by decide) (zlim_s eu113).1 (zlim_s eu113).2 ec112 ?_
  obtain ⟨c114, ec114, h⟩ := zb h
  refine z_putF (j := 48) X dd_Mo_init_323 kc_12 ki_12 tt_Mo tk_Mo nn_Mo (by decide) km_1569 rfl H.2.2.2 rfl (tk_Mo 48 (by decide)) rfl rfl ec114 ?_
  refine z_aload_n X dd_Mo_init_326 rfl 0 rfl ?_
  refine z_bipush (v := 9) X dd_Mo_init_327 (by decide) ?_
  obtain ⟨u116, eu116, h⟩ := zb h
  obtain ⟨c115, ec115, h⟩ := zb h
  refine z_newaC (ty := .int) X dd_Mo_init_329 rfl km_206 rfl (fun _ q => by cases q) (fun _ => rfl) (fun _ => rfl) (by decide) (by decide) (by decide) (zlim_s eu116).1 (zlim_s eu116).2 ec115 ?_
  obtain ⟨c117, ec117, h⟩ := zb h
  refine z_putF (j := 49) X dd_Mo_init_331 kc_12 ki_12 tt_Mo tk_Mo nn_Mo (by decide) km_1570 rfl H.2.2.2 rfl (tk_Mo 49 (by decide)) rfl rfl ec117 ?_
  refine z_aload_n X dd_Mo_init_334 rfl 0 rfl ?_
  refine z_sipush (v := 4608) X dd_Mo_init_335 (by decide) ?_
  obtain ⟨u119, eu119, h⟩ := zb h
  obtain ⟨c118, ec118, h⟩ := zb h
  refine z_newaC (ty := .int) X dd_Mo_init_338 rfl km_206 rfl (fun _ q => by cases q) (fun _ => rfl) (fun _ => rfl) (by decide) (by decide) (by decide) (zlim_s eu119).1 (zlim_s eu119).2 ec118 ?_
  obtain ⟨c120, ec120, h⟩ := zb h
  refine z_putF (j := 50) X dd_Mo_init_340 kc_12 ki_12 tt_Mo tk_Mo nn_Mo (by decide) km_1571 rfl H.2.2.2 rfl (tk_Mo 50 (by decide)) rfl rfl ec120 ?_
  refine z_aload_n X dd_Mo_init_343 rfl 0 rfl ?_
  refine z_sipush (v := 4608) X dd_Mo_init_344 (by decide) ?_
  obtain ⟨u122, eu122, h⟩ := zb h
  obtain ⟨c121, ec121, h⟩ := zb h
  refine z_newaC (ty := .int) X dd_Mo_init_347 rfl km_206 rfl (fun _ q => by cases q) (fun _ => rfl) (fun _ => rfl) (by decide) (by decide) (by decide) (zlim_s eu122).1 (zlim_s eu122).2 ec121 ?_
  obtain ⟨c123, ec123, h⟩ := zb h
  refine z_putF (j := 51) X dd_Mo_init_349 kc_12 ki_12 tt_Mo tk_Mo nn_Mo (by decide) km_1572 rfl H.2.2.2 rfl (tk_Mo 51 (by decide)) rfl rfl ec123 ?_
  refine z_aload_n X dd_Mo_init_352 rfl 0 rfl ?_
  refine z_bipush (v := 66) X dd_Mo_init_353 (by decide) ?_
  obtain ⟨u125, eu125, h⟩ := zb h
  obtain ⟨c124, ec124, h⟩ := zb h
  refine z_newaC (ty := .int) X dd_Mo_init_355 rfl km_206 rfl (fun _ q => by cases q) (fun _ => rfl) (fun _ => rfl) (by decide) (by decide) (by decide) (zlim_s eu125).1 (zlim_s eu125).2 ec124 ?_
  obtain ⟨c126, ec126, h⟩ := zb h
  refine z_putF (j := 54) X dd_Mo_init_357 kc_12 ki_12 tt_Mo tk_Mo nn_Mo (by decide) km_1575 rfl H.2.2.2 rfl (tk_Mo 54 (by decide)) rfl rfl ec126 ?_
  refine z_aload_n X dd_Mo_init_360 rfl 0 rfl ?_
  refine z_bipush (v := 66) X dd_Mo_init_361 (by decide) ?_
  obtain ⟨u128, eu128, h⟩ := zb h
  obtain ⟨c127, ec127, h⟩ := zb h
  refine z_newaC (ty := .int) X dd_Mo_init_363 rfl km_206 rfl (fun _ q => by cases q) (fun _ => rfl) (fun _ => rfl) (by decide) (by decide) (by decide) (zlim_s eu128).1 (zlim_s eu128).2 ec127 ?_
  obtain ⟨c129, ec129, h⟩ := zb h
  refine z_putF (j := 55) X dd_Mo_init_365 kc_12 ki_12 tt_Mo tk_Mo nn_Mo (by decide) km_1576 rfl H.2.2.2 rfl (tk_Mo 55 (by decide)) rfl rfl ec129 ?_
  refine z_aload_n X dd_Mo_init_368 rfl 0 rfl ?_
  refine z_bipush (v := 64) X dd_Mo_init_369 (by decide) ?_
  obtain ⟨u131, eu131, h⟩ := zb h
  obtain ⟨c130, ec130, h⟩ := zb h
  refine z_newaC (ty := .boolean) X dd_Mo_init_371 rfl km_1792 rfl (fun _ q => by cases q) (fun _ => rfl) (fun _ => rfl) (by decide) (by decide) (by decide) (zlim_s eu131).1 (zlim_s eu131).2 ec130 ?_
  obtain ⟨c132, ec132, h⟩ := zb h
  refine z_putF (j := 58) X dd_Mo_init_373 kc_12 ki_12 tt_Mo tk_Mo nn_Mo (by decide) km_1579 rfl H.2.2.2 rfl (tk_Mo 58 (by decide)) rfl rfl ec132 ?_
  refine z_aload_n X dd_Mo_init_376 rfl 0 rfl ?_
  refine z_bipush (v := 64) X dd_Mo_init_377 (by decide) ?_
  obtain ⟨u134, eu134, h⟩ := zb h
  obtain ⟨c133, ec133, h⟩ := zb h
  refine z_newaC (ty := .int) X dd_Mo_init_379 rfl km_206 rfl (fun _ q => by cases q) (fun _ => rfl) (fun _ => rfl) (by decide) (by decide) (by decide) (zlim_s eu134).1 (zlim_s eu134).2 ec133 ?_
  obtain ⟨c135, ec135, h⟩ := zb h
  refine z_putF (j := 59) X dd_Mo_init_381 kc_12 ki_12 tt_Mo tk_Mo nn_Mo (by decide) km_1580 rfl H.2.2.2 rfl (tk_Mo 59 (by decide)) rfl rfl ec135 ?_
  refine z_aload_n X dd_Mo_init_384 rfl 0 rfl ?_
  refine z_bipush (v := 64) X dd_Mo_init_385 (by decide) ?_
  obtain ⟨u137, eu137, h⟩ := zb h
  obtain ⟨c136, ec136, h⟩ := zb h
  refine z_newaC (ty := .int) X dd_Mo_init_387 rfl km_206 rfl (fun _ q => by cases q) (fun _ => rfl) (fun _ => rfl) (by decide) (by decide) (by decide) (zlim_s eu137).1 (zlim_s eu137).2 ec136 ?_
  obtain ⟨c138, ec138, h⟩ := zb h
  refine z_putF (j := 60) X dd_Mo_init_389 kc_12 ki_12 tt_Mo tk_Mo nn_Mo (by decide) km_1581 rfl H.2.2.2 rfl (tk_Mo 60 (by decide)) rfl rfl ec138 ?_
  refine z_aload_n X dd_Mo_init_392 rfl 0 rfl ?_
  refine z_bipush (v := 64) X dd_Mo_init_393 (by decide) ?_
  obtain ⟨u140, eu140, h⟩ := zb h
  obtain ⟨c139, ec139, h⟩ := zb h
  refine z_newaC (ty := .boolean) X dd_Mo_init_395 rfl km_1792 rfl (fun _ q => by cases q) (fun _ => rfl) (fun _ => rfl) (by decide) (by decide) (by decide) (zlim_s eu140).1 (zlim_s eu140).2 ec139 ?_
  obtain ⟨c141, ec141, h⟩ := zb h
  refine z_putF (j := 61) X dd_Mo_init_397 kc_12 ki_12 tt_Mo tk_Mo nn_Mo (by decide) km_1582 rfl H.2.2.2 rfl (tk_Mo 61 (by decide)) rfl rfl ec141 ?_
  refine z_aload_n X dd_Mo_init_400 rfl 0 rfl ?_
  refine z_bipush (v := 64) X dd_Mo_init_401 (by decide) ?_
  obtain ⟨u143, eu143, h⟩ := zb h
  obtain ⟨c142, ec142, h⟩ := zb h
  refine z_newaC (ty := .int) X dd_Mo_init_403 rfl km_206 rfl (fun _ q => by cases q) (fun _ => rfl) (fun _ => rfl) (by decide) (by decide) (by decide) (zlim_s eu143).1 (zlim_s eu143).2 ec142 ?_
  obtain ⟨c144, ec144, h⟩ := zb h
  refine z_putF (j := 62) X dd_Mo_init_405 kc_12 ki_12 tt_Mo tk_Mo nn_Mo (by decide) km_1583 rfl H.2.2.2 rfl (tk_Mo 62 (by decide)) rfl rfl ec144 ?_
  refine z_aload_n X dd_Mo_init_408 rfl 0 rfl ?_
  refine z_bipush (v := 64) X dd_Mo_init_409 (by decide) ?_
  obtain ⟨u146, eu146, h⟩ := zb h
  obtain ⟨c145, ec145, h⟩ := zb h
  refine z_newaC (ty := .int) X dd_Mo_init_411 rfl km_206 rfl (fun _ q => by cases q) (fun _ => rfl) (fun _ => rfl) (by decide) (by decide) (by decide) (zlim_s eu146).1 (zlim_s eu146).2 ec145 ?_
  obtain ⟨c147, ec147, h⟩ := zb h
  refine z_putF (j := 63) X dd_Mo_init_413 kc_12 ki_12 tt_Mo tk_Mo nn_Mo (by decide) km_1584 rfl H.2.2.2 rfl (tk_Mo 63 (by decide)) rfl rfl ec147 ?_
  refine z_aload_n X dd_Mo_init_416 rfl 0 rfl ?_
  refine z_bipush (v := 64) X dd_Mo_init_417 (by decide) ?_
  obtain ⟨u149, eu149, h⟩ := zb h
  obtain ⟨c148, ec148, h⟩ := zb h
  refine z_newaC (ty := .boolean) X dd_Mo_init_419 rfl km_1792 rfl (fun _ q => by cases q) (fun _ => rfl) (fun _ => rfl) (by decide) (by decide) (by decide) (zlim_s eu149).1 (zlim_s eu149).2 ec148 ?_
  obtain ⟨c150, ec150, h⟩ := zb h
  refine z_putF (j := 64) X dd_Mo_init_421 kc_12 ki_12 tt_Mo tk_Mo nn_Mo (by decide) km_1585 rfl H.2.2.2 rfl (tk_Mo 64 (by decide)) rfl rfl ec150 ?_
  refine z_aload_n X dd_Mo_init_424 rfl 0 rfl ?_
  refine z_sipush (v := 1024) X dd_Mo_init_425 (by decide) ?_
  obtain ⟨u152, eu152, h⟩ := zb h
  obtain ⟨c151, ec151, h⟩ := zb h
  refine z_newaC (ty := .int) X dd_Mo_init_428 rfl km_206 rfl (fun _ q => by cases q) (fun _ => rfl) (fun _ => rfl) (by decide) (by decide) (by decide) (zlim_s eu152).1 (zlim_s eu152).2 ec151 ?_
  obtain ⟨c153, ec153, h⟩ := zb h
  refine z_putF (j := 66) X dd_Mo_init_430 kc_12 ki_12 tt_Mo tk_Mo nn_Mo (by decide) km_1587 rfl H.2.2.2 rfl (tk_Mo 66 (by decide)) rfl rfl ec153 ?_
  refine z_aload_n X dd_Mo_init_433 rfl 0 rfl ?_
  refine z_sipush (v := 1024) X dd_Mo_init_434 (by decide) ?_
  obtain ⟨u155, eu155, h⟩ := zb h
  obtain ⟨c154, ec154, h⟩ := zb h
  refine z_newaC (ty := .int) X dd_Mo_init_437 rfl km_206 rfl (fun _ q => by cases q) (fun _ => rfl) (fun _ => rfl) (by decide) (by decide) (by decide) (zlim_s eu155).1 (zlim_s eu155).2 ec154 ?_
  obtain ⟨c156, ec156, h⟩ := zb h
  refine z_putF (j := 67) X dd_Mo_init_439 kc_12 ki_12 tt_Mo tk_Mo nn_Mo (by decide) km_1588 rfl H.2.2.2 rfl (tk_Mo 67 (by decide)) rfl rfl ec156 ?_
  refine z_aload_n X dd_Mo_init_442 rfl 0 rfl ?_
  refine z_sipush (v := 1024) X dd_Mo_init_443 (by decide) ?_
  obtain ⟨u158, eu158, h⟩ := zb h
  obtain ⟨c157, ec157, h⟩ := zb h
  refine z_newaC (ty := .int) X dd_Mo_init_446 rfl km_206 rfl (fun _ q => by cases q) (fun _ => rfl) (fun _ => rfl) (by decide) (by decide) (by decide) (zlim_s eu158).1 (zlim_s eu158).2 ec157 ?_
  obtain ⟨c159, ec159, h⟩ := zb h
  refine z_putF (j := 68) X dd_Mo_init_448 kc_12 ki_12 tt_Mo tk_Mo nn_Mo (by decide) km_1589 rfl H.2.2.2 rfl (tk_Mo 68 (by decide)) rfl rfl ec159 ?_
  refine z_aload_n X dd_Mo_init_451 rfl 0 rfl ?_
  refine z_sipush (v := 2560) X dd_Mo_init_452 (by decide) ?_
  obtain ⟨u161, eu161, h⟩ := zb h
  obtain ⟨c160, ec160, h⟩ := zb h
  refine z_newaC (ty := .int) X dd_Mo_init_455 rfl km_206 rfl (fun _ q => by cases q) (fun _ => rfl) (fun _ => rfl) (by decide) (by decide) (by decide) (zlim_s eu161).1 (zlim_s eu161).2 ec160 ?_
  obtain ⟨c162, ec162, h⟩ := zb h
  refine z_putF (j := 70) X dd_Mo_init_457 kc_12 ki_12 tt_Mo tk_Mo nn_Mo (by decide) km_1591 rfl H.2.2.2 rfl (tk_Mo 70 (by decide)) rfl rfl ec162 ?_
  refine z_aload_n X dd_Mo_init_460 rfl 0 rfl ?_
  refine z_sipush (v := 272) X dd_Mo_init_461 (by decide) ?_
  obtain ⟨u164, eu164, h⟩ := zb h
  obtain ⟨c163, ec163, h⟩ := zb h
  refine z_newaC (ty := .int) X dd_Mo_init_464 rfl km_206 rfl (fun _ q => by cases q) (fun _ => rfl) (fun _ => rfl) (by decide) (by decide) (by decide) (zlim_s eu164).1 (zlim_s eu164).2 ec163 ?_
  obtain ⟨c165, ec165, h⟩ := zb h
  refine z_putF (j := 71) X dd_Mo_init_466 kc_12 ki_12 tt_Mo tk_Mo nn_Mo (by decide) km_1592 rfl H.2.2.2 rfl (tk_Mo 71 (by decide)) rfl rfl ec165 ?_
  refine z_aload_n X dd_Mo_init_469 rfl 0 rfl ?_
  refine z_sipush (v := 272) X dd_Mo_init_470 (by decide) ?_
  obtain ⟨u167, eu167, h⟩ := zb h
  obtain ⟨c166, ec166, h⟩ := zb h
  refine z_newaC (ty := .int) X dd_Mo_init_473 rfl km_206 rfl (fun _ q => by cases q) (fun _ => rfl) (fun _ => rfl) (by decide) (by decide) (by decide) (zlim_s eu167).1 (zlim_s eu167).2 ec166 ?_
  obtain ⟨c168, ec168, h⟩ := zb h
  refine z_putF (j := 72) X dd_Mo_init_475 kc_12 ki_12 tt_Mo tk_Mo nn_Mo (by decide) km_1593 rfl H.2.2.2 rfl (tk_Mo 72 (by decide)) rfl rfl ec168 ?_
  refine z_aload_n X dd_Mo_init_478 rfl 0 rfl ?_
  refine z_sipush (v := 272) X dd_Mo_init_479 (by decide) ?_
  obtain ⟨u170, eu170, h⟩ := zb h
  obtain ⟨c169, ec169, h⟩ := zb h
  refine z_newaC (ty := .int) X dd_Mo_init_482 rfl km_206 rfl (fun _ q => by cases q) (fun _ => rfl) (fun _ => rfl) (by decide) (by decide) (by decide) (zlim_s eu170).1 (zlim_s eu170).2 ec169 ?_
  obtain ⟨c171, ec171, h⟩ := zb h
  refine z_putF (j := 73) X dd_Mo_init_484 kc_12 ki_12 tt_Mo tk_Mo nn_Mo (by decide) km_1594 rfl H.2.2.2 rfl (tk_Mo 73 (by decide)) rfl rfl ec171 ?_
  refine z_aload_n X dd_Mo_init_487 rfl 0 rfl ?_
  refine z_bipush (v := 8) X dd_Mo_init_488 (by decide) ?_
  obtain ⟨u173, eu173, h⟩ := zb h
  obtain ⟨c172, ec172, h⟩ := zb h
  refine z_newaC (ty := .int) X dd_Mo_init_490 rfl km_206 rfl (fun _ q => by cases q) (fun _ => rfl) (fun _ => rfl) (by decide) (by decide) (by decide) (zlim_s eu173).1 (zlim_s eu173).2 ec172 ?_
  obtain ⟨c174, ec174, h⟩ := zb h
  refine z_putF (j := 74) X dd_Mo_init_492 kc_12 ki_12 tt_Mo tk_Mo nn_Mo (by decide) km_1595 rfl H.2.2.2 rfl (tk_Mo 74 (by decide)) rfl rfl ec174 ?_
  refine z_aload_n X dd_Mo_init_495 rfl 0 rfl ?_
  refine z_bipush (v := 8) X dd_Mo_init_496 (by decide) ?_
  obtain ⟨u176, eu176, h⟩ := zb h
  obtain ⟨c175, ec175, h⟩ := zb h
  refine z_newaC (ty := .int) X dd_Mo_init_498 rfl km_206 rfl (fun _ q => by cases q) (fun _ => rfl) (fun _ => rfl) (by decide) (by decide) (by decide) (zlim_s eu176).1 (zlim_s eu176).2 ec175 ?_
  obtain ⟨c177, ec177, h⟩ := zb h
  refine z_putF (j := 75) X dd_Mo_init_500 kc_12 ki_12 tt_Mo tk_Mo nn_Mo (by decide) km_1596 rfl H.2.2.2 rfl (tk_Mo 75 (by decide)) rfl rfl ec177 ?_
  refine z_aload_n X dd_Mo_init_503 rfl 0 rfl ?_
  refine z_sipush (v := 256) X dd_Mo_init_504 (by decide) ?_
  obtain ⟨u179, eu179, h⟩ := zb h
  obtain ⟨c178, ec178, h⟩ := zb h
  refine z_newaC (ty := .int) X dd_Mo_init_507 rfl km_206 rfl (fun _ q => by cases q) (fun _ => rfl) (fun _ => rfl) (by decide) (by decide) (by decide) (zlim_s eu179).1 (zlim_s eu179).2 ec178 ?_
  obtain ⟨c180, ec180, h⟩ := zb h
  refine z_putF (j := 76) X dd_Mo_init_509 kc_12 ki_12 tt_Mo tk_Mo nn_Mo (by decide) km_1597 rfl H.2.2.2 rfl (tk_Mo 76 (by decide)) rfl rfl ec180 ?_
  refine z_aload_n X dd_Mo_init_512 rfl 0 rfl ?_
  refine z_sipush (v := 1024) X dd_Mo_init_513 (by decide) ?_
  obtain ⟨u182, eu182, h⟩ := zb h
  obtain ⟨c181, ec181, h⟩ := zb h
  refine z_newaC (ty := .int) X dd_Mo_init_516 rfl km_206 rfl (fun _ q => by cases q) (fun _ => rfl) (fun _ => rfl) (by decide) (by decide) (by decide) (zlim_s eu182).1 (zlim_s eu182).2 ec181 ?_
  obtain ⟨c183, ec183, h⟩ := zb h
  refine z_putF (j := 77) X dd_Mo_init_518 kc_12 ki_12 tt_Mo tk_Mo nn_Mo (by decide) km_1598 rfl H.2.2.2 rfl (tk_Mo 77 (by decide)) rfl rfl ec183 ?_
  refine z_aload_n X dd_Mo_init_521 rfl 0 rfl ?_
  refine z_ldc (v := 160000) X dd_Mo_init_522 km_1519 ?_
  obtain ⟨u185, eu185, h⟩ := zb h
  obtain ⟨c184, ec184, h⟩ := zb h
  refine z_newaC (ty := .int) X dd_Mo_init_524 rfl km_206 rfl (fun _ q => by cases q) (fun _ => rfl) (fun _ => rfl) (by decide) (by decide) (by decide) (zlim_s eu185).1 (zlim_s eu185).2 ec184 ?_
  obtain ⟨c186, ec186, h⟩ := zb h
  refine z_putF (j := 78) X dd_Mo_init_526 kc_12 ki_12 tt_Mo tk_Mo nn_Mo (by decide) km_1599 rfl H.2.2.2 rfl (tk_Mo 78 (by decide)) rfl rfl ec186 ?_
  refine z_aload_n X dd_Mo_init_529 rfl 0 rfl ?_
  refine z_sipush (v := 20000) X dd_Mo_init_530 (by decide) ?_
  obtain ⟨u188, eu188, h⟩ := zb h
  obtain ⟨c187, ec187, h⟩ := zb h
  refine z_newaC (ty := .int) X dd_Mo_init_533 rfl km_206 rfl (fun _ q => by cases q) (fun _ => rfl) (fun _ => rfl) (by decide) (by decide) (by decide) (zlim_s eu188).1 (zlim_s eu188).2 ec187 ?_
  obtain ⟨c189, ec189, h⟩ := zb h
  refine z_putF (j := 79) X dd_Mo_init_535 kc_12 ki_12 tt_Mo tk_Mo nn_Mo (by decide) km_1600 rfl H.2.2.2 rfl (tk_Mo 79 (by decide)) rfl rfl ec189 ?_
  refine z_aload_n X dd_Mo_init_538 rfl 0 rfl ?_
  refine z_sipush (v := 20000) X dd_Mo_init_539 (by decide) ?_
  obtain ⟨u191, eu191, h⟩ := zb h
  obtain ⟨c190, ec190, h⟩ := zb h
  refine z_newaC (ty := .int) X dd_Mo_init_542 rfl km_206 rfl (fun _ q => by cases q) (fun _ => rfl) (fun _ => rfl) (by decide) (by decide) (by decide) (zlim_s eu191).1 (zlim_s eu191).2 ec190 ?_
  obtain ⟨c192, ec192, h⟩ := zb h
  refine z_putF (j := 80) X dd_Mo_init_544 kc_12 ki_12 tt_Mo tk_Mo nn_Mo (by decide) km_1601 rfl H.2.2.2 rfl (tk_Mo 80 (by decide)) rfl rfl ec192 ?_
  refine z_aload_n X dd_Mo_init_547 rfl 0 rfl ?_
  refine z_ldc (v := 640000) X dd_Mo_init_548 km_1520 ?_
  obtain ⟨u194, eu194, h⟩ := zb h
  obtain ⟨c193, ec193, h⟩ := zb h
  refine z_newaC (ty := .int) X dd_Mo_init_550 rfl km_206 rfl (fun _ q => by cases q) (fun _ => rfl) (fun _ => rfl) (by decide) (by decide) (by decide) (zlim_s eu194).1 (zlim_s eu194).2 ec193 ?_
  obtain ⟨c195, ec195, h⟩ := zb h
  refine z_putF (j := 82) X dd_Mo_init_552 kc_12 ki_12 tt_Mo tk_Mo nn_Mo (by decide) km_1603 rfl H.2.2.2 rfl (tk_Mo 82 (by decide)) rfl rfl ec195 ?_
  refine z_aload_n X dd_Mo_init_555 rfl 0 rfl ?_
  refine z_iconst (v := 4) X dd_Mo_init_556 (by decide) ?_
  obtain ⟨u197, eu197, h⟩ := zb h
  obtain ⟨c196, ec196, h⟩ := zb h
  refine z_newaC (ty := .int) X dd_Mo_init_557 rfl km_206 rfl (fun _ q => by cases q) (fun _ => rfl) (fun _ => rfl) (by decide) (by decide) (by decide) (zlim_s eu197).1 (zlim_s eu197).2 ec196 ?_
  obtain ⟨c198, ec198, h⟩ := zb h
  refine z_putF (j := 83) X dd_Mo_init_559 kc_12 ki_12 tt_Mo tk_Mo nn_Mo (by decide) km_1604 rfl H.2.2.2 rfl (tk_Mo 83 (by decide)) rfl rfl ec198 ?_
  refine z_aload_n X dd_Mo_init_562 rfl 0 rfl ?_
  refine z_iconst (v := 4) X dd_Mo_init_563 (by decide) ?_
  obtain ⟨u200, eu200, h⟩ := zb h
  obtain ⟨c199, ec199, h⟩ := zb h
  refine z_newaC (ty := .int) X dd_Mo_init_564 rfl km_206 rfl (fun _ q => by cases q) (fun _ => rfl) (fun _ => rfl) (by decide) (by decide) (by decide) (zlim_s eu200).1 (zlim_s eu200).2 ec199 ?_
  obtain ⟨c201, ec201, h⟩ := zb h
  refine z_putF (j := 84) X dd_Mo_init_566 kc_12 ki_12 tt_Mo tk_Mo nn_Mo (by decide) km_1605 rfl H.2.2.2 rfl (tk_Mo 84 (by decide)) rfl rfl ec201 ?_
  refine z_aload_n X dd_Mo_init_569 rfl 0 rfl ?_
  refine z_iconst (v := 4) X dd_Mo_init_570 (by decide) ?_
  obtain ⟨u203, eu203, h⟩ := zb h
  obtain ⟨c202, ec202, h⟩ := zb h
  refine z_newaC (ty := .boolean) X dd_Mo_init_571 rfl km_1792 rfl (fun _ q => by cases q) (fun _ => rfl) (fun _ => rfl) (by decide) (by decide) (by decide) (zlim_s eu203).1 (zlim_s eu203).2 ec202 ?_
  obtain ⟨c204, ec204, h⟩ := zb h
  refine z_putF (j := 85) X dd_Mo_init_573 kc_12 ki_12 tt_Mo tk_Mo nn_Mo (by decide) km_1606 rfl H.2.2.2 rfl (tk_Mo 85 (by decide)) rfl rfl ec204 ?_
  refine z_aload_n X dd_Mo_init_576 rfl 0 rfl ?_
  refine z_bipush (v := 8) X dd_Mo_init_577 (by decide) ?_
  obtain ⟨u206, eu206, h⟩ := zb h
  obtain ⟨c205, ec205, h⟩ := zb h
  refine z_newaC (ty := .int) X dd_Mo_init_579 rfl km_206 rfl (fun _ q => by cases q) (fun _ => rfl) (fun _ => rfl) (by decide) (by decide) (by decide) (zlim_s eu206).1 (zlim_s eu206).2 ec205 ?_
  obtain ⟨c207, ec207, h⟩ := zb h
  refine z_putF (j := 86) X dd_Mo_init_581 kc_12 ki_12 tt_Mo tk_Mo nn_Mo (by decide) km_1607 rfl H.2.2.2 rfl (tk_Mo 86 (by decide)) rfl rfl ec207 ?_
  refine z_aload_n X dd_Mo_init_584 rfl 0 rfl ?_
  refine z_ldc (v := 160000) X dd_Mo_init_585 km_1519 ?_
  obtain ⟨u209, eu209, h⟩ := zb h
  obtain ⟨c208, ec208, h⟩ := zb h
  refine z_newaC (ty := .int) X dd_Mo_init_587 rfl km_206 rfl (fun _ q => by cases q) (fun _ => rfl) (fun _ => rfl) (by decide) (by decide) (by decide) (zlim_s eu209).1 (zlim_s eu209).2 ec208 ?_
  obtain ⟨c210, ec210, h⟩ := zb h
  refine z_putF (j := 88) X dd_Mo_init_589 kc_12 ki_12 tt_Mo tk_Mo nn_Mo (by decide) km_1609 rfl H.2.2.2 rfl (tk_Mo 88 (by decide)) rfl rfl ec210 ?_
  refine z_aload_n X dd_Mo_init_592 rfl 0 rfl ?_
  refine z_bipush (v := 99) X dd_Mo_init_593 (by decide) ?_
  obtain ⟨u212, eu212, h⟩ := zb h
  obtain ⟨c211, ec211, h⟩ := zb h
  refine z_newaC (ty := .boolean) X dd_Mo_init_595 rfl km_1792 rfl (fun _ q => by cases q) (fun _ => rfl) (fun _ => rfl) (by decide) (by decide) (by decide) (zlim_s eu212).1 (zlim_s eu212).2 ec211 ?_
  obtain ⟨c213, ec213, h⟩ := zb h
  refine z_putF (j := 89) X dd_Mo_init_597 kc_12 ki_12 tt_Mo tk_Mo nn_Mo (by decide) km_1610 rfl H.2.2.2 rfl (tk_Mo 89 (by decide)) rfl rfl ec213 ?_
  refine z_iconst (v := 0) X dd_Mo_init_600 (by decide) ?_
  refine z_istore_n (lv' := [(1, .int 0), (0, .ref a0)]) X dd_Mo_init_601 rfl (by decide) rfl ?_
  refine z_sub [1, 0] rfl ?_
  exact t_Mo_init_602 X H h
theorem dd_Mo_isSmall_0 : decode bb_Mo_isSmall 0 = .ok (.iload_n 0, 1) := by decide +kernel
theorem dd_Mo_isSmall_1 : decode bb_Mo_isSmall 1 = .ok (.bipush 97, 2) := by decide +kernel
theorem dd_Mo_isSmall_3 : decode bb_Mo_isSmall 3 = .ok (.if_icmp .lt 13, 3) := by decide +kernel
theorem dd_Mo_isSmall_6 : decode bb_Mo_isSmall 6 = .ok (.iload_n 0, 1) := by decide +kernel
theorem dd_Mo_isSmall_7 : decode bb_Mo_isSmall 7 = .ok (.bipush 122, 2) := by decide +kernel
theorem dd_Mo_isSmall_9 : decode bb_Mo_isSmall 9 = .ok (.if_icmp .gt 7, 3) := by decide +kernel
theorem dd_Mo_isSmall_12 : decode bb_Mo_isSmall 12 = .ok (.iconst 1, 1) := by decide +kernel
theorem dd_Mo_isSmall_13 : decode bb_Mo_isSmall 13 = .ok (.goto 4, 3) := by decide +kernel
theorem dd_Mo_isSmall_16 : decode bb_Mo_isSmall 16 = .ok (.iconst 0, 1) := by decide +kernel
theorem dd_Mo_isSmall_17 : decode bb_Mo_isSmall 17 = .ok (.ireturn, 1) := by decide +kernel
set_option maxRecDepth 100000 in
set_option maxHeartbeats 4000000 in
theorem t_Mo_isSmall_17  (X : zX p s m args cd D cid B bb_Mo_isSmall 1 rr_Mo zT) (H : zH s meth B n0 (some (.boolean)) "isSmall") {nf : Nat} {s0 : Int32} {c : Zc} {res : Int32 × Zc} (h : f_Mo_isSmall_17 nf s0 c = some res) : Zz p l e (zRm 0 0 0 0) s m args below meth cd (MQ below (zQi D cid B res.1 res.2 n0 0) args s 0 0 (fun q => B ≤ q)) D cid B 1 0 0 c 17 [] [.int s0] := by
  unfold f_Mo_isSmall_17 at h
  obtain ⟨hz, h⟩ := zrz_s h
  obtain rfl := h
  exact z_zret X H.1 (zn_z hz) H.2.1 H.2.2.1 dd_Mo_isSmall_17
set_option maxRecDepth 100000 in
set_option maxHeartbeats 4000000 in
theorem t_Mo_isSmall_16  (X : zX p s m args cd D cid B bb_Mo_isSmall 1 rr_Mo zT) (H : zH s meth B n0 (some (.boolean)) "isSmall") {nf : Nat}  {c : Zc} {res : Int32 × Zc} (h : f_Mo_isSmall_16 nf  c = some res) : Zz p l e (zRm 0 0 0 0) s m args below meth cd (MQ below (zQi D cid B res.1 res.2 n0 0) args s 0 0 (fun q => B ≤ q)) D cid B 1 0 0 c 16 [] [] := by
  unfold f_Mo_isSmall_16 at h
  refine z_iconst (v := 0) X dd_Mo_isSmall_16 (by decide) ?_
  exact t_Mo_isSmall_17 X H h
set_option maxRecDepth 100000 in
set_option maxHeartbeats 4000000 in
theorem c_Mo_isSmall (l : Launch) {nf : Nat} {a0 : Int32} {c : Zc} {res : Int32 × Zc} (h : f_Mo_isSmall nf a0 c = some res) : zM l yy_Mo_isSmall ww_Mo_isSmall 0 0 0 0 [.int a0] c (fun D cid B => zQi D cid B res.1 res.2 c.length 0) := by
  refine z_met (cc := bb_Mo_isSmall) (maxL := 1) (ret := (some (.boolean))) (by decide +kernel) rfl (Nat.le_of_ble_eq_true rfl) ?_
  intro p e s m args below meth cd D cid B X h1 h2 h3 h4
  have X : zX p s m args cd D cid B bb_Mo_isSmall 1 rr_Mo zT := X
  have H : zH s meth B c.length (some (.boolean)) "isSmall" := ⟨h1, h2, h4, h3⟩
  unfold f_Mo_isSmall at h
  show Zz p l e (zRm 0 0 0 0) s m args below meth cd _ D cid B 1 0 0 c 0 [(0, .int a0)] []
  refine z_iload_n X dd_Mo_isSmall_0 rfl 0 rfl ?_
  refine z_bipush (v := 97) X dd_Mo_isSmall_1 (by decide) ?_
  refine z_icmp_lt (tgt := 16) X dd_Mo_isSmall_3 (by decide) (fun q1 => ?_) (fun q1 => ?_)
  · rw [if_pos q1] at h
    refine z_sub [] rfl ?_
    exact t_Mo_isSmall_16 X H h
  · rw [if_neg q1] at h
    refine z_iload_n X dd_Mo_isSmall_6 rfl 0 rfl ?_
    refine z_bipush (v := 122) X dd_Mo_isSmall_7 (by decide) ?_
    refine z_icmp_gt (tgt := 16) X dd_Mo_isSmall_9 (by decide) (fun q2 => ?_) (fun q2 => ?_)
    · rw [if_pos q2] at h
      refine z_sub [] rfl ?_
      exact t_Mo_isSmall_16 X H h
    · rw [if_neg q2] at h
      refine z_iconst (v := 1) X dd_Mo_isSmall_12 (by decide) ?_
      refine z_goto (tgt := 17) X dd_Mo_isSmall_13 (by decide) ?_
      refine z_sub [] rfl ?_
      exact t_Mo_isSmall_17 X H h
theorem dd_Mo_isDigit_0 : decode bb_Mo_isDigit 0 = .ok (.iload_n 0, 1) := by decide +kernel
theorem dd_Mo_isDigit_1 : decode bb_Mo_isDigit 1 = .ok (.bipush 48, 2) := by decide +kernel
theorem dd_Mo_isDigit_3 : decode bb_Mo_isDigit 3 = .ok (.if_icmp .lt 13, 3) := by decide +kernel
theorem dd_Mo_isDigit_6 : decode bb_Mo_isDigit 6 = .ok (.iload_n 0, 1) := by decide +kernel
theorem dd_Mo_isDigit_7 : decode bb_Mo_isDigit 7 = .ok (.bipush 57, 2) := by decide +kernel
theorem dd_Mo_isDigit_9 : decode bb_Mo_isDigit 9 = .ok (.if_icmp .gt 7, 3) := by decide +kernel
theorem dd_Mo_isDigit_12 : decode bb_Mo_isDigit 12 = .ok (.iconst 1, 1) := by decide +kernel
theorem dd_Mo_isDigit_13 : decode bb_Mo_isDigit 13 = .ok (.goto 4, 3) := by decide +kernel
theorem dd_Mo_isDigit_16 : decode bb_Mo_isDigit 16 = .ok (.iconst 0, 1) := by decide +kernel
theorem dd_Mo_isDigit_17 : decode bb_Mo_isDigit 17 = .ok (.ireturn, 1) := by decide +kernel
set_option maxRecDepth 100000 in
set_option maxHeartbeats 4000000 in
theorem t_Mo_isDigit_17  (X : zX p s m args cd D cid B bb_Mo_isDigit 1 rr_Mo zT) (H : zH s meth B n0 (some (.boolean)) "isDigit") {nf : Nat} {s0 : Int32} {c : Zc} {res : Int32 × Zc} (h : f_Mo_isDigit_17 nf s0 c = some res) : Zz p l e (zRm 0 0 0 0) s m args below meth cd (MQ below (zQi D cid B res.1 res.2 n0 0) args s 0 0 (fun q => B ≤ q)) D cid B 1 0 0 c 17 [] [.int s0] := by
  unfold f_Mo_isDigit_17 at h
  obtain ⟨hz, h⟩ := zrz_s h
  obtain rfl := h
  exact z_zret X H.1 (zn_z hz) H.2.1 H.2.2.1 dd_Mo_isDigit_17
set_option maxRecDepth 100000 in
set_option maxHeartbeats 4000000 in
theorem t_Mo_isDigit_16  (X : zX p s m args cd D cid B bb_Mo_isDigit 1 rr_Mo zT) (H : zH s meth B n0 (some (.boolean)) "isDigit") {nf : Nat}  {c : Zc} {res : Int32 × Zc} (h : f_Mo_isDigit_16 nf  c = some res) : Zz p l e (zRm 0 0 0 0) s m args below meth cd (MQ below (zQi D cid B res.1 res.2 n0 0) args s 0 0 (fun q => B ≤ q)) D cid B 1 0 0 c 16 [] [] := by
  unfold f_Mo_isDigit_16 at h
  refine z_iconst (v := 0) X dd_Mo_isDigit_16 (by decide) ?_
  exact t_Mo_isDigit_17 X H h
set_option maxRecDepth 100000 in
set_option maxHeartbeats 4000000 in
theorem c_Mo_isDigit (l : Launch) {nf : Nat} {a0 : Int32} {c : Zc} {res : Int32 × Zc} (h : f_Mo_isDigit nf a0 c = some res) : zM l yy_Mo_isDigit ww_Mo_isDigit 0 0 0 0 [.int a0] c (fun D cid B => zQi D cid B res.1 res.2 c.length 0) := by
  refine z_met (cc := bb_Mo_isDigit) (maxL := 1) (ret := (some (.boolean))) (by decide +kernel) rfl (Nat.le_of_ble_eq_true rfl) ?_
  intro p e s m args below meth cd D cid B X h1 h2 h3 h4
  have X : zX p s m args cd D cid B bb_Mo_isDigit 1 rr_Mo zT := X
  have H : zH s meth B c.length (some (.boolean)) "isDigit" := ⟨h1, h2, h4, h3⟩
  unfold f_Mo_isDigit at h
  show Zz p l e (zRm 0 0 0 0) s m args below meth cd _ D cid B 1 0 0 c 0 [(0, .int a0)] []
  refine z_iload_n X dd_Mo_isDigit_0 rfl 0 rfl ?_
  refine z_bipush (v := 48) X dd_Mo_isDigit_1 (by decide) ?_
  refine z_icmp_lt (tgt := 16) X dd_Mo_isDigit_3 (by decide) (fun q1 => ?_) (fun q1 => ?_)
  · rw [if_pos q1] at h
    refine z_sub [] rfl ?_
    exact t_Mo_isDigit_16 X H h
  · rw [if_neg q1] at h
    refine z_iload_n X dd_Mo_isDigit_6 rfl 0 rfl ?_
    refine z_bipush (v := 57) X dd_Mo_isDigit_7 (by decide) ?_
    refine z_icmp_gt (tgt := 16) X dd_Mo_isDigit_9 (by decide) (fun q2 => ?_) (fun q2 => ?_)
    · rw [if_pos q2] at h
      refine z_sub [] rfl ?_
      exact t_Mo_isDigit_16 X H h
    · rw [if_neg q2] at h
      refine z_iconst (v := 1) X dd_Mo_isDigit_12 (by decide) ?_
      refine z_goto (tgt := 17) X dd_Mo_isDigit_13 (by decide) ?_
      refine z_sub [] rfl ?_
      exact t_Mo_isDigit_17 X H h
end ZzM
