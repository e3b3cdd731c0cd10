section ZzM
variable {p : Program} {l : Launch} {e : Env} {s : State} {m : MethodId} {args : Array Value} {below : List Frame} {meth : Method} {cd : Code} {Q : State → Prop} {D : va_G} {cid : Nat → ClassId} {B n0 : Nat}
theorem dd_Reader_begin_0 : decode bb_Reader_begin 0 = .ok (.aload_n 0, 1) := by decide +kernel
theorem dd_Reader_begin_1 : decode bb_Reader_begin 1 = .ok (.aload_n 1, 1) := by decide +kernel
theorem dd_Reader_begin_2 : decode bb_Reader_begin 2 = .ok (.putfield 69, 3) := by decide +kernel
theorem dd_Reader_begin_5 : decode bb_Reader_begin 5 = .ok (.aload_n 0, 1) := by decide +kernel
theorem dd_Reader_begin_6 : decode bb_Reader_begin 6 = .ok (.getfield 69, 3) := by decide +kernel
theorem dd_Reader_begin_9 : decode bb_Reader_begin 9 = .ok (.invokevirtual 115, 3) := by decide +kernel
theorem dd_Reader_begin_12 : decode bb_Reader_begin 12 = .ok (.aload_n 0, 1) := by decide +kernel
theorem dd_Reader_begin_13 : decode bb_Reader_begin 13 = .ok (.getfield 87, 3) := by decide +kernel
theorem dd_Reader_begin_16 : decode bb_Reader_begin 16 = .ok (.aload_n 1, 1) := by decide +kernel
theorem dd_Reader_begin_17 : decode bb_Reader_begin 17 = .ok (.invokevirtual 118, 3) := by decide +kernel
theorem dd_Reader_begin_20 : decode bb_Reader_begin 20 = .ok (.aload_n 0, 1) := by decide +kernel
theorem dd_Reader_begin_21 : decode bb_Reader_begin 21 = .ok (.aload_n 1, 1) := by decide +kernel
theorem dd_Reader_begin_22 : decode bb_Reader_begin 22 = .ok (.getfield 73, 3) := by decide +kernel
theorem dd_Reader_begin_25 : decode bb_Reader_begin 25 = .ok (.iconst 0, 1) := by decide +kernel
theorem dd_Reader_begin_26 : decode bb_Reader_begin 26 = .ok (.aaload, 1) := by decide +kernel
theorem dd_Reader_begin_27 : decode bb_Reader_begin 27 = .ok (.putfield 79, 3) := by decide +kernel
theorem dd_Reader_begin_30 : decode bb_Reader_begin 30 = .ok (.aload_n 0, 1) := by decide +kernel
theorem dd_Reader_begin_31 : decode bb_Reader_begin 31 = .ok (.iload_n 2, 1) := by decide +kernel
theorem dd_Reader_begin_32 : decode bb_Reader_begin 32 = .ok (.putfield 26, 3) := by decide +kernel
theorem dd_Reader_begin_35 : decode bb_Reader_begin 35 = .ok (.aload_n 0, 1) := by decide +kernel
theorem dd_Reader_begin_36 : decode bb_Reader_begin 36 = .ok (.iconst 0, 1) := by decide +kernel
theorem dd_Reader_begin_37 : decode bb_Reader_begin 37 = .ok (.putfield 33, 3) := by decide +kernel
theorem dd_Reader_begin_40 : decode bb_Reader_begin 40 = .ok (.aload_n 0, 1) := by decide +kernel
theorem dd_Reader_begin_41 : decode bb_Reader_begin 41 = .ok (.iconst 0, 1) := by decide +kernel
theorem dd_Reader_begin_42 : decode bb_Reader_begin 42 = .ok (.putfield 36, 3) := by decide +kernel
theorem dd_Reader_begin_45 : decode bb_Reader_begin 45 = .ok (.aload_n 0, 1) := by decide +kernel
theorem dd_Reader_begin_46 : decode bb_Reader_begin 46 = .ok (.bipush (-2), 2) := by decide +kernel
theorem dd_Reader_begin_48 : decode bb_Reader_begin 48 = .ok (.putfield 9, 3) := by decide +kernel
theorem dd_Reader_begin_51 : decode bb_Reader_begin 51 = .ok (.aload_n 0, 1) := by decide +kernel
theorem dd_Reader_begin_52 : decode bb_Reader_begin 52 = .ok (.iconst 0, 1) := by decide +kernel
theorem dd_Reader_begin_53 : decode bb_Reader_begin 53 = .ok (.putfield 39, 3) := by decide +kernel
theorem dd_Reader_begin_56 : decode bb_Reader_begin 56 = .ok (.aload_n 0, 1) := by decide +kernel
theorem dd_Reader_begin_57 : decode bb_Reader_begin 57 = .ok (.iconst 0, 1) := by decide +kernel
theorem dd_Reader_begin_58 : decode bb_Reader_begin 58 = .ok (.putfield 42, 3) := by decide +kernel
theorem dd_Reader_begin_61 : decode bb_Reader_begin 61 = .ok (.aload_n 0, 1) := by decide +kernel
theorem dd_Reader_begin_62 : decode bb_Reader_begin 62 = .ok (.iconst 0, 1) := by decide +kernel
theorem dd_Reader_begin_63 : decode bb_Reader_begin 63 = .ok (.putfield 45, 3) := by decide +kernel
theorem dd_Reader_begin_66 : decode bb_Reader_begin 66 = .ok (.aload_n 0, 1) := by decide +kernel
theorem dd_Reader_begin_67 : decode bb_Reader_begin 67 = .ok (.iconst (-1), 1) := by decide +kernel
theorem dd_Reader_begin_68 : decode bb_Reader_begin 68 = .ok (.putfield 48, 3) := by decide +kernel
theorem dd_Reader_begin_71 : decode bb_Reader_begin 71 = .ok (.aload_n 0, 1) := by decide +kernel
theorem dd_Reader_begin_72 : decode bb_Reader_begin 72 = .ok (.iconst (-1), 1) := by decide +kernel
theorem dd_Reader_begin_73 : decode bb_Reader_begin 73 = .ok (.putfield 54, 3) := by decide +kernel
theorem dd_Reader_begin_76 : decode bb_Reader_begin 76 = .ok (.aload_n 0, 1) := by decide +kernel
theorem dd_Reader_begin_77 : decode bb_Reader_begin 77 = .ok (.getfield 22, 3) := by decide +kernel
theorem dd_Reader_begin_80 : decode bb_Reader_begin 80 = .ok (.iconst (-1), 1) := by decide +kernel
theorem dd_Reader_begin_81 : decode bb_Reader_begin 81 = .ok (.invokestatic 120, 3) := by decide +kernel
theorem dd_Reader_begin_84 : decode bb_Reader_begin 84 = .ok (.return_, 1) := by decide +kernel
set_option maxRecDepth 100000 in
set_option maxHeartbeats 4000000 in
theorem c_Reader_begin (l : Launch) {nf : Nat} {a0 : Nat} {a1 : Nat} {a2 : Int32} {c : Zc} {res : Zc} (h : f_Reader_begin nf a0 a1 a2 c = some res) : zM l yy_Reader_begin ww_Reader_begin 3 60 0 0 [.ref a0, .ref a1, .int a2] c (fun D cid B => zQv D cid B res c.length 0) := by
  refine z_met (cc := bb_Reader_begin) (maxL := 3) (ret := none) (by decide +kernel) rfl (Nat.le_of_ble_eq_true rfl) ?_
  intro p e s m args below meth cd D cid B X h1 h2 h3 h4
  have X : zX p s m args cd D cid B bb_Reader_begin 3 rr_Reader zT := X
  have H : zH s meth B c.length none "begin" := ⟨h1, h2, h4, h3⟩
  unfold f_Reader_begin at h
  show Zz p l e (zRm 3 60 0 0) s m args below meth cd _ D cid B 3 0 0 c 0 [(0, .ref a0), (1, .ref a1), (2, .int a2)] []
  refine z_aload_n X dd_Reader_begin_0 rfl 0 rfl ?_
  refine z_aload_n X dd_Reader_begin_1 rfl 1 rfl ?_
  obtain ⟨c1, ec1, h⟩ := zb h
  refine z_put (j := 4) X dd_Reader_begin_2 kc_5 ki_5 tt_Reader tk_Reader nn_Reader (by decide) km_478 rfl (tk_Reader 4 (by decide)) rfl rfl ec1 ?_
  refine z_aload_n X dd_Reader_begin_5 rfl 0 rfl ?_
  obtain ⟨v2, ev2, h⟩ := zb h
  refine z_get (j := 4) X dd_Reader_begin_6 kc_5 ki_5 (by decide) km_478 (zgr_v ev2) ?_
  obtain ⟨w4, ew4, h⟩ := zb h
  obtain ⟨q3, eq3, h⟩ := zb h
  refine z_callVv X [] rfl dd_Reader_begin_9 (c_Text_clear l eq3) (cwV 0 X.1.2.2.2.2 (zg_V km_820 km_821 km_822 km_128 km_823) rfl rfl rfl (by decide +kernel) ⟨Nat.le_of_ble_eq_true rfl, Nat.le_of_ble_eq_true rfl⟩) (zob_s ew4) kc_2 rfl (Nat.le_of_ble_eq_true rfl) ⟨Nat.le_of_ble_eq_true rfl, Nat.le_of_ble_eq_true rfl⟩ ?_
  refine z_aload_n X dd_Reader_begin_12 rfl 0 rfl ?_
  obtain ⟨v5, ev5, h⟩ := zb h
  refine z_get (j := 2) X dd_Reader_begin_13 kc_5 ki_5 (by decide) km_476 (zgr_v ev5) ?_
  refine z_aload_n X dd_Reader_begin_16 rfl 1 rfl ?_
  obtain ⟨w7, ew7, h⟩ := zb h
  obtain ⟨q6, eq6, h⟩ := zb h
  refine z_callVv X [.ref a1] rfl dd_Reader_begin_17 (c_Operators_begin l eq6) (cwV 1 X.1.2.2.2.2 (zg_V km_832 km_833 km_834 km_132 km_835) rfl rfl rfl (by decide +kernel) ⟨Nat.le_of_ble_eq_true rfl, Nat.le_of_ble_eq_true rfl⟩) (zob_s ew7) kc_4 rfl (Nat.le_of_ble_eq_true rfl) ⟨Nat.le_of_ble_eq_true rfl, Nat.le_of_ble_eq_true rfl⟩ ?_
  refine z_aload_n X dd_Reader_begin_20 rfl 0 rfl ?_
  refine z_aload_n X dd_Reader_begin_21 rfl 1 rfl ?_
  obtain ⟨v8, ev8, h⟩ := zb h
  refine z_get (j := 4) X dd_Reader_begin_22 kc_2 ki_2 (by decide) km_314 (zgr_v ev8) ?_
  refine z_iconst (v := 0) X dd_Reader_begin_25 (by decide) ?_
  obtain ⟨v9, ev9, h⟩ := zb h
  refine z_aaload X dd_Reader_begin_26 rfl ev9 ?_
  obtain ⟨c10, ec10, h⟩ := zb h
  refine z_put (j := 5) X dd_Reader_begin_27 kc_5 ki_5 tt_Reader tk_Reader nn_Reader (by decide) km_479 rfl (tk_Reader 5 (by decide)) rfl rfl ec10 ?_
  refine z_aload_n X dd_Reader_begin_30 rfl 0 rfl ?_
  refine z_iload_n X dd_Reader_begin_31 rfl 2 rfl ?_
  obtain ⟨c11, ec11, h⟩ := zb h
  obtain ⟨bc11, ec11⟩ := zpz_s ec11
  refine z_put (j := 6) X dd_Reader_begin_32 kc_5 ki_5 tt_Reader tk_Reader nn_Reader (by decide) km_480 rfl (tk_Reader 6 (by decide)) (zn_z bc11) (zf_z bc11) ec11 ?_
  refine z_aload_n X dd_Reader_begin_35 rfl 0 rfl ?_
  refine z_iconst (v := 0) X dd_Reader_begin_36 (by decide) ?_
  obtain ⟨c12, ec12, h⟩ := zb h
  refine z_put (j := 8) X dd_Reader_begin_37 kc_5 ki_5 tt_Reader tk_Reader nn_Reader (by decide) km_482 rfl (tk_Reader 8 (by decide)) rfl rfl ec12 ?_
  refine z_aload_n X dd_Reader_begin_40 rfl 0 rfl ?_
  refine z_iconst (v := 0) X dd_Reader_begin_41 (by decide) ?_
  obtain ⟨c13, ec13, h⟩ := zb h
  refine z_put (j := 9) X dd_Reader_begin_42 kc_5 ki_5 tt_Reader tk_Reader nn_Reader (by decide) km_483 rfl (tk_Reader 9 (by decide)) rfl rfl ec13 ?_
  refine z_aload_n X dd_Reader_begin_45 rfl 0 rfl ?_
  refine z_bipush (v := (-2)) X dd_Reader_begin_46 (by decide) ?_
  obtain ⟨c14, ec14, h⟩ := zb h
  refine z_put (j := 0) X dd_Reader_begin_48 kc_5 ki_5 tt_Reader tk_Reader nn_Reader (by decide) km_473 rfl (tk_Reader 0 (by decide)) rfl rfl ec14 ?_
  refine z_aload_n X dd_Reader_begin_51 rfl 0 rfl ?_
  refine z_iconst (v := 0) X dd_Reader_begin_52 (by decide) ?_
  obtain ⟨c15, ec15, h⟩ := zb h
  refine z_put (j := 10) X dd_Reader_begin_53 kc_5 ki_5 tt_Reader tk_Reader nn_Reader (by decide) km_484 rfl (tk_Reader 10 (by decide)) rfl rfl ec15 ?_
  refine z_aload_n X dd_Reader_begin_56 rfl 0 rfl ?_
  refine z_iconst (v := 0) X dd_Reader_begin_57 (by decide) ?_
  obtain ⟨c16, ec16, h⟩ := zb h
  refine z_put (j := 11) X dd_Reader_begin_58 kc_5 ki_5 tt_Reader tk_Reader nn_Reader (by decide) km_485 rfl (tk_Reader 11 (by decide)) rfl rfl ec16 ?_
  refine z_aload_n X dd_Reader_begin_61 rfl 0 rfl ?_
  refine z_iconst (v := 0) X dd_Reader_begin_62 (by decide) ?_
  obtain ⟨c17, ec17, h⟩ := zb h
  refine z_put (j := 12) X dd_Reader_begin_63 kc_5 ki_5 tt_Reader tk_Reader nn_Reader (by decide) km_486 rfl (tk_Reader 12 (by decide)) rfl rfl ec17 ?_
  refine z_aload_n X dd_Reader_begin_66 rfl 0 rfl ?_
  refine z_iconst (v := (-1)) X dd_Reader_begin_67 (by decide) ?_
  obtain ⟨c18, ec18, h⟩ := zb h
  refine z_put (j := 13) X dd_Reader_begin_68 kc_5 ki_5 tt_Reader tk_Reader nn_Reader (by decide) km_487 rfl (tk_Reader 13 (by decide)) rfl rfl ec18 ?_
  refine z_aload_n X dd_Reader_begin_71 rfl 0 rfl ?_
  refine z_iconst (v := (-1)) X dd_Reader_begin_72 (by decide) ?_
  obtain ⟨c19, ec19, h⟩ := zb h
  refine z_put (j := 15) X dd_Reader_begin_73 kc_5 ki_5 tt_Reader tk_Reader nn_Reader (by decide) km_489 rfl (tk_Reader 15 (by decide)) rfl rfl ec19 ?_
  refine z_aload_n X dd_Reader_begin_76 rfl 0 rfl ?_
  obtain ⟨v20, ev20, h⟩ := zb h
  refine z_get (j := 3) X dd_Reader_begin_77 kc_5 ki_5 (by decide) km_477 (zgr_v ev20) ?_
  refine z_iconst (v := (-1)) X dd_Reader_begin_80 (by decide) ?_
  obtain ⟨q21, eq21, h⟩ := zb h
  refine z_callSv X [.ref v20, .int (-1)] rfl dd_Reader_begin_81 (c_Arrays_fill l eq21) (va_cwS 2 X.1.2.2.2.2 (zg_S km_836 km_162 km_127 km_163) rfl rfl rfl (by decide +kernel) ⟨Nat.le_of_ble_eq_true rfl, Nat.le_of_ble_eq_true rfl⟩) rfl (Nat.le_of_ble_eq_true rfl) ⟨Nat.le_of_ble_eq_true rfl, Nat.le_of_ble_eq_true rfl⟩ ?_
  obtain rfl := Option.some.inj h
  exact z_vret X H.1 H.2.1 H.2.2.1 dd_Reader_begin_84
theorem dd_Reader_failAt_0 : decode bb_Reader_failAt 0 = .ok (.aload_n 0, 1) := by decide +kernel
theorem dd_Reader_failAt_1 : decode bb_Reader_failAt 1 = .ok (.iload_n 1, 1) := by decide +kernel
theorem dd_Reader_failAt_2 : decode bb_Reader_failAt 2 = .ok (.putfield 36, 3) := by decide +kernel
theorem dd_Reader_failAt_5 : decode bb_Reader_failAt 5 = .ok (.aload_n 0, 1) := by decide +kernel
theorem dd_Reader_failAt_6 : decode bb_Reader_failAt 6 = .ok (.aload_n 0, 1) := by decide +kernel
theorem dd_Reader_failAt_7 : decode bb_Reader_failAt 7 = .ok (.getfield 18, 3) := by decide +kernel
theorem dd_Reader_failAt_10 : decode bb_Reader_failAt 10 = .ok (.getfield 130, 3) := by decide +kernel
theorem dd_Reader_failAt_13 : decode bb_Reader_failAt 13 = .ok (.iload_n 2, 1) := by decide +kernel
theorem dd_Reader_failAt_14 : decode bb_Reader_failAt 14 = .ok (.iaload, 1) := by decide +kernel
theorem dd_Reader_failAt_15 : decode bb_Reader_failAt 15 = .ok (.putfield 9, 3) := by decide +kernel
theorem dd_Reader_failAt_18 : decode bb_Reader_failAt 18 = .ok (.return_, 1) := by decide +kernel
set_option maxRecDepth 100000 in
set_option maxHeartbeats 4000000 in
theorem c_Reader_failAt (l : Launch) {nf : Nat} {a0 : Nat} {a1 : Int32} {a2 : Int32} {c : Zc} {res : Zc} (h : f_Reader_failAt nf a0 a1 a2 c = some res) : zM l yy_Reader_failAt ww_Reader_failAt 0 0 0 0 [.ref a0, .int a1, .int a2] c (fun D cid B => zQv D cid B res c.length 0) := by
  refine z_met (cc := bb_Reader_failAt) (maxL := 3) (ret := none) (by decide +kernel) rfl (Nat.le_of_ble_eq_true rfl) ?_
  intro p e s m args below meth cd D cid B X h1 h2 h3 h4
  have X : zX p s m args cd D cid B bb_Reader_failAt 3 rr_Reader zT := X
  have H : zH s meth B c.length none "failAt" := ⟨h1, h2, h4, h3⟩
  unfold f_Reader_failAt at h
  show Zz p l e (zRm 0 0 0 0) s m args below meth cd _ D cid B 3 0 0 c 0 [(0, .ref a0), (1, .int a1), (2, .int a2)] []
  refine z_aload_n X dd_Reader_failAt_0 rfl 0 rfl ?_
  refine z_iload_n X dd_Reader_failAt_1 rfl 1 rfl ?_
  obtain ⟨c1, ec1, h⟩ := zb h
  refine z_put (j := 9) X dd_Reader_failAt_2 kc_5 ki_5 tt_Reader tk_Reader nn_Reader (by decide) km_483 rfl (tk_Reader 9 (by decide)) rfl rfl ec1 ?_
  refine z_aload_n X dd_Reader_failAt_5 rfl 0 rfl ?_
  refine z_aload_n X dd_Reader_failAt_6 rfl 0 rfl ?_
  obtain ⟨v2, ev2, h⟩ := zb h
  refine z_get (j := 1) X dd_Reader_failAt_7 kc_5 ki_5 (by decide) km_475 (zgr_v ev2) ?_
  obtain ⟨v3, ev3, h⟩ := zb h
  refine z_get (j := 2) X dd_Reader_failAt_10 kc_3 ki_3 (by decide) km_421 (zgr_v ev3) ?_
  refine z_iload_n X dd_Reader_failAt_13 rfl 2 rfl ?_
  obtain ⟨v4, ev4, h⟩ := zb h
  refine z_iaload X dd_Reader_failAt_14 rfl ev4 ?_
  obtain ⟨c5, ec5, h⟩ := zb h
  refine z_put (j := 0) X dd_Reader_failAt_15 kc_5 ki_5 tt_Reader tk_Reader nn_Reader (by decide) km_473 rfl (tk_Reader 0 (by decide)) rfl rfl ec5 ?_
  obtain rfl := Option.some.inj h
  exact z_vret X H.1 H.2.1 H.2.2.1 dd_Reader_failAt_18
theorem dd_Reader_fail_0 : decode bb_Reader_fail 0 = .ok (.aload_n 0, 1) := by decide +kernel
theorem dd_Reader_fail_1 : decode bb_Reader_fail 1 = .ok (.iload_n 1, 1) := by decide +kernel
theorem dd_Reader_fail_2 : decode bb_Reader_fail 2 = .ok (.aload_n 0, 1) := by decide +kernel
theorem dd_Reader_fail_3 : decode bb_Reader_fail 3 = .ok (.getfield 30, 3) := by decide +kernel
theorem dd_Reader_fail_6 : decode bb_Reader_fail 6 = .ok (.invokevirtual 126, 3) := by decide +kernel
theorem dd_Reader_fail_9 : decode bb_Reader_fail 9 = .ok (.return_, 1) := by decide +kernel
set_option maxRecDepth 100000 in
set_option maxHeartbeats 4000000 in
theorem c_Reader_fail (l : Launch) {nf : Nat} {a0 : Nat} {a1 : Int32} {c : Zc} {res : Zc} (h : f_Reader_fail nf a0 a1 c = some res) : zM l yy_Reader_fail ww_Reader_fail 1 22 0 0 [.ref a0, .int a1] c (fun D cid B => zQv D cid B res c.length 0) := by
  refine z_met (cc := bb_Reader_fail) (maxL := 2) (ret := none) (by decide +kernel) rfl (Nat.le_of_ble_eq_true rfl) ?_
  intro p e s m args below meth cd D cid B X h1 h2 h3 h4
  have X : zX p s m args cd D cid B bb_Reader_fail 2 rr_Reader zT := X
  have H : zH s meth B c.length none "fail" := ⟨h1, h2, h4, h3⟩
  unfold f_Reader_fail at h
  show Zz p l e (zRm 1 22 0 0) s m args below meth cd _ D cid B 2 0 0 c 0 [(0, .ref a0), (1, .int a1)] []
  refine z_aload_n X dd_Reader_fail_0 rfl 0 rfl ?_
  refine z_iload_n X dd_Reader_fail_1 rfl 1 rfl ?_
  refine z_aload_n X dd_Reader_fail_2 rfl 0 rfl ?_
  obtain ⟨v1, ev1, h⟩ := zb h
  refine z_get (j := 7) X dd_Reader_fail_3 kc_5 ki_5 (by decide) km_481 (zgi_v ev1) ?_
  obtain ⟨w3, ew3, h⟩ := zb h
  obtain ⟨q2, eq2, h⟩ := zb h
  refine z_callVv X [.int a1, .int v1] rfl dd_Reader_fail_6 (c_Reader_failAt l eq2) (cwV 2 X.1.2.2.2.2 (zg_V km_1002 km_1004 km_12 km_130 km_1005) rfl rfl rfl (by decide +kernel) ⟨Nat.le_of_ble_eq_true rfl, Nat.le_of_ble_eq_true rfl⟩) (zob_s ew3) kc_5 rfl (Nat.le_of_ble_eq_true rfl) ⟨Nat.le_of_ble_eq_true rfl, Nat.le_of_ble_eq_true rfl⟩ ?_
  obtain rfl := Option.some.inj h
  exact z_vret X H.1 H.2.1 H.2.2.1 dd_Reader_fail_9
theorem dd_Reader_takeHead_0 : decode bb_Reader_takeHead 0 = .ok (.aload_n 0, 1) := by decide +kernel
theorem dd_Reader_takeHead_1 : decode bb_Reader_takeHead 1 = .ok (.getfield 18, 3) := by decide +kernel
theorem dd_Reader_takeHead_4 : decode bb_Reader_takeHead 4 = .ok (.getfield 178, 3) := by decide +kernel
theorem dd_Reader_takeHead_7 : decode bb_Reader_takeHead 7 = .ok (.aload_n 0, 1) := by decide +kernel
theorem dd_Reader_takeHead_8 : decode bb_Reader_takeHead 8 = .ok (.getfield 30, 3) := by decide +kernel
theorem dd_Reader_takeHead_11 : decode bb_Reader_takeHead 11 = .ok (.iaload, 1) := by decide +kernel
theorem dd_Reader_takeHead_12 : decode bb_Reader_takeHead 12 = .ok (.istore_n 2, 1) := by decide +kernel
theorem dd_Reader_takeHead_13 : decode bb_Reader_takeHead 13 = .ok (.aload_n 0, 1) := by decide +kernel
theorem dd_Reader_takeHead_14 : decode bb_Reader_takeHead 14 = .ok (.getfield 33, 3) := by decide +kernel
theorem dd_Reader_takeHead_17 : decode bb_Reader_takeHead 17 = .ok (.ifCond .ne 24, 3) := by decide +kernel
theorem dd_Reader_takeHead_20 : decode bb_Reader_takeHead 20 = .ok (.aload_n 0, 1) := by decide +kernel
theorem dd_Reader_takeHead_21 : decode bb_Reader_takeHead 21 = .ok (.getfield 26, 3) := by decide +kernel
theorem dd_Reader_takeHead_24 : decode bb_Reader_takeHead 24 = .ok (.ifCond .eq 17, 3) := by decide +kernel
theorem dd_Reader_takeHead_27 : decode bb_Reader_takeHead 27 = .ok (.iload_n 1, 1) := by decide +kernel
theorem dd_Reader_takeHead_28 : decode bb_Reader_takeHead 28 = .ok (.bipush 23, 2) := by decide +kernel
theorem dd_Reader_takeHead_30 : decode bb_Reader_takeHead 30 = .ok (.if_icmp .ne 11, 3) := by decide +kernel
theorem dd_Reader_takeHead_33 : decode bb_Reader_takeHead 33 = .ok (.aload_n 0, 1) := by decide +kernel
theorem dd_Reader_takeHead_34 : decode bb_Reader_takeHead 34 = .ok (.iconst 1, 1) := by decide +kernel
theorem dd_Reader_takeHead_35 : decode bb_Reader_takeHead 35 = .ok (.putfield 33, 3) := by decide +kernel
theorem dd_Reader_takeHead_38 : decode bb_Reader_takeHead 38 = .ok (.goto 82, 3) := by decide +kernel
theorem dd_Reader_takeHead_41 : decode bb_Reader_takeHead 41 = .ok (.aload_n 0, 1) := by decide +kernel
theorem dd_Reader_takeHead_42 : decode bb_Reader_takeHead 42 = .ok (.getfield 33, 3) := by decide +kernel
theorem dd_Reader_takeHead_45 : decode bb_Reader_takeHead 45 = .ok (.iconst 1, 1) := by decide +kernel
theorem dd_Reader_takeHead_46 : decode bb_Reader_takeHead 46 = .ok (.if_icmp .ne 33, 3) := by decide +kernel
theorem dd_Reader_takeHead_49 : decode bb_Reader_takeHead 49 = .ok (.iload_n 1, 1) := by decide +kernel
theorem dd_Reader_takeHead_50 : decode bb_Reader_takeHead 50 = .ok (.iconst 5, 1) := by decide +kernel
theorem dd_Reader_takeHead_51 : decode bb_Reader_takeHead 51 = .ok (.if_icmp .ne 28, 3) := by decide +kernel
theorem dd_Reader_takeHead_54 : decode bb_Reader_takeHead 54 = .ok (.iload_n 2, 1) := by decide +kernel
theorem dd_Reader_takeHead_55 : decode bb_Reader_takeHead 55 = .ok (.bipush 8, 2) := by decide +kernel
theorem dd_Reader_takeHead_57 : decode bb_Reader_takeHead 57 = .ok (.if_icmp .lt 22, 3) := by decide +kernel
theorem dd_Reader_takeHead_60 : decode bb_Reader_takeHead 60 = .ok (.aload_n 0, 1) := by decide +kernel
theorem dd_Reader_takeHead_61 : decode bb_Reader_takeHead 61 = .ok (.getfield 69, 3) := by decide +kernel
theorem dd_Reader_takeHead_64 : decode bb_Reader_takeHead 64 = .ok (.iload_n 2, 1) := by decide +kernel
theorem dd_Reader_takeHead_65 : decode bb_Reader_takeHead 65 = .ok (.bipush 8, 2) := by decide +kernel
theorem dd_Reader_takeHead_67 : decode bb_Reader_takeHead 67 = .ok (.isub, 1) := by decide +kernel
theorem dd_Reader_takeHead_68 : decode bb_Reader_takeHead 68 = .ok (.putfield 181, 3) := by decide +kernel
theorem dd_Reader_takeHead_71 : decode bb_Reader_takeHead 71 = .ok (.aload_n 0, 1) := by decide +kernel
theorem dd_Reader_takeHead_72 : decode bb_Reader_takeHead 72 = .ok (.iconst 2, 1) := by decide +kernel
theorem dd_Reader_takeHead_73 : decode bb_Reader_takeHead 73 = .ok (.putfield 33, 3) := by decide +kernel
theorem dd_Reader_takeHead_76 : decode bb_Reader_takeHead 76 = .ok (.goto 44, 3) := by decide +kernel
theorem dd_Reader_takeHead_79 : decode bb_Reader_takeHead 79 = .ok (.iload_n 1, 1) := by decide +kernel
theorem dd_Reader_takeHead_80 : decode bb_Reader_takeHead 80 = .ok (.bipush 10, 2) := by decide +kernel
theorem dd_Reader_takeHead_82 : decode bb_Reader_takeHead 82 = .ok (.if_icmp .ne 33, 3) := by decide +kernel
theorem dd_Reader_takeHead_85 : decode bb_Reader_takeHead 85 = .ok (.aload_n 0, 1) := by decide +kernel
theorem dd_Reader_takeHead_86 : decode bb_Reader_takeHead 86 = .ok (.getfield 33, 3) := by decide +kernel
theorem dd_Reader_takeHead_89 : decode bb_Reader_takeHead 89 = .ok (.iconst 2, 1) := by decide +kernel
theorem dd_Reader_takeHead_90 : decode bb_Reader_takeHead 90 = .ok (.if_icmp .eq 17, 3) := by decide +kernel
theorem dd_Reader_takeHead_93 : decode bb_Reader_takeHead 93 = .ok (.aload_n 0, 1) := by decide +kernel
theorem dd_Reader_takeHead_94 : decode bb_Reader_takeHead 94 = .ok (.getfield 33, 3) := by decide +kernel
theorem dd_Reader_takeHead_97 : decode bb_Reader_takeHead 97 = .ok (.ifCond .ne 18, 3) := by decide +kernel
theorem dd_Reader_takeHead_100 : decode bb_Reader_takeHead 100 = .ok (.aload_n 0, 1) := by decide +kernel
theorem dd_Reader_takeHead_101 : decode bb_Reader_takeHead 101 = .ok (.getfield 26, 3) := by decide +kernel
theorem dd_Reader_takeHead_104 : decode bb_Reader_takeHead 104 = .ok (.ifCond .ne 11, 3) := by decide +kernel
theorem dd_Reader_takeHead_107 : decode bb_Reader_takeHead 107 = .ok (.aload_n 0, 1) := by decide +kernel
theorem dd_Reader_takeHead_108 : decode bb_Reader_takeHead 108 = .ok (.iconst 3, 1) := by decide +kernel
theorem dd_Reader_takeHead_109 : decode bb_Reader_takeHead 109 = .ok (.putfield 33, 3) := by decide +kernel
theorem dd_Reader_takeHead_112 : decode bb_Reader_takeHead 112 = .ok (.goto 8, 3) := by decide +kernel
theorem dd_Reader_takeHead_115 : decode bb_Reader_takeHead 115 = .ok (.aload_n 0, 1) := by decide +kernel
theorem dd_Reader_takeHead_116 : decode bb_Reader_takeHead 116 = .ok (.iconst 2, 1) := by decide +kernel
theorem dd_Reader_takeHead_117 : decode bb_Reader_takeHead 117 = .ok (.invokevirtual 133, 3) := by decide +kernel
theorem dd_Reader_takeHead_120 : decode bb_Reader_takeHead 120 = .ok (.return_, 1) := by decide +kernel
set_option maxRecDepth 100000 in
set_option maxHeartbeats 4000000 in
theorem t_Reader_takeHead_120  (X : zX p s m args cd D cid B bb_Reader_takeHead 3 rr_Reader zT) (H : zH s meth B n0 none "takeHead") {nf : Nat}  {c : Zc} {res : Zc} (h : f_Reader_takeHead_120 nf  c = some res) : Zz p l e (zRm 2 43 0 0) s m args below meth cd (MQ below (zQv D cid B res n0 0) args s 0 0 (fun q => B ≤ q)) D cid B 3 0 0 c 120 [] [] := by
  unfold f_Reader_takeHead_120 at h
  obtain rfl := Option.some.inj h
  exact z_vret X H.1 H.2.1 H.2.2.1 dd_Reader_takeHead_120
set_option maxRecDepth 100000 in
set_option maxHeartbeats 4000000 in
theorem t_Reader_takeHead_115  (X : zX p s m args cd D cid B bb_Reader_takeHead 3 rr_Reader zT) (H : zH s meth B n0 none "takeHead") {nf : Nat} {x0 : Nat} {c : Zc} {res : Zc} (h : f_Reader_takeHead_115 nf x0 c = some res) : Zz p l e (zRm 2 43 0 0) s m args below meth cd (MQ below (zQv D cid B res n0 0) args s 0 0 (fun q => B ≤ q)) D cid B 3 0 0 c 115 [(0, .ref x0)] [] := by
  unfold f_Reader_takeHead_115 at h
  refine z_aload_n X dd_Reader_takeHead_115 rfl 0 rfl ?_
  refine z_iconst (v := 2) X dd_Reader_takeHead_116 (by decide) ?_
  obtain ⟨w11, ew11, h⟩ := zb h
  obtain ⟨q10, eq10, h⟩ := zb h
  refine z_callVv X [.int 2] rfl dd_Reader_takeHead_117 (c_Reader_fail l eq10) (cwV 1 X.1.2.2.2.2 (zg_V km_998 km_1000 km_11 km_130 km_1001) rfl rfl rfl (by decide +kernel) ⟨Nat.le_of_ble_eq_true rfl, Nat.le_of_ble_eq_true rfl⟩) (zob_s ew11) kc_5 rfl (Nat.le_of_ble_eq_true rfl) ⟨Nat.le_of_ble_eq_true rfl, Nat.le_of_ble_eq_true rfl⟩ ?_
  refine z_sub [] rfl ?_
  exact t_Reader_takeHead_120 X H h
set_option maxRecDepth 100000 in
set_option maxHeartbeats 4000000 in
theorem t_Reader_takeHead_107  (X : zX p s m args cd D cid B bb_Reader_takeHead 3 rr_Reader zT) (H : zH s meth B n0 none "takeHead") {nf : Nat} {x0 : Nat} {c : Zc} {res : Zc} (h : f_Reader_takeHead_107 nf x0 c = some res) : Zz p l e (zRm 2 43 0 0) s m args below meth cd (MQ below (zQv D cid B res n0 0) args s 0 0 (fun q => B ≤ q)) D cid B 3 0 0 c 107 [(0, .ref x0)] [] := by
  unfold f_Reader_takeHead_107 at h
  refine z_aload_n X dd_Reader_takeHead_107 rfl 0 rfl ?_
  refine z_iconst (v := 3) X dd_Reader_takeHead_108 (by decide) ?_
  obtain ⟨c14, ec14, h⟩ := zb h
  refine z_put (j := 8) X dd_Reader_takeHead_109 kc_5 ki_5 tt_Reader tk_Reader nn_Reader (by decide) km_482 rfl (tk_Reader 8 (by decide)) rfl rfl ec14 ?_
  refine z_goto (tgt := 120) X dd_Reader_takeHead_112 (by decide) ?_
  refine z_sub [] rfl ?_
  exact t_Reader_takeHead_120 X H h
set_option maxRecDepth 100000 in
set_option maxHeartbeats 4000000 in
theorem t_Reader_takeHead_79  (X : zX p s m args cd D cid B bb_Reader_takeHead 3 rr_Reader zT) (H : zH s meth B n0 none "takeHead") {nf : Nat} {x0 : Nat} {x1 : Int32} {c : Zc} {res : Zc} (h : f_Reader_takeHead_79 nf x0 x1 c = some res) : Zz p l e (zRm 2 43 0 0) s m args below meth cd (MQ below (zQv D cid B res n0 0) args s 0 0 (fun q => B ≤ q)) D cid B 3 0 0 c 79 [(0, .ref x0), (1, .int x1)] [] := by
  unfold f_Reader_takeHead_79 at h
  refine z_iload_n X dd_Reader_takeHead_79 rfl 1 rfl ?_
  refine z_bipush (v := 10) X dd_Reader_takeHead_80 (by decide) ?_
  refine z_icmp_ne (tgt := 115) X dd_Reader_takeHead_82 (by decide) (fun q9 => ?_) (fun q9 => ?_)
  · rw [if_neg q9] at h
    refine z_sub [0] rfl ?_
    exact t_Reader_takeHead_115 X H h
  · rw [if_pos q9] at h
    refine z_aload_n X dd_Reader_takeHead_85 rfl 0 rfl ?_
    obtain ⟨v12, ev12, h⟩ := zb h
    refine z_get (j := 8) X dd_Reader_takeHead_86 kc_5 ki_5 (by decide) km_482 (zgi_v ev12) ?_
    refine z_iconst (v := 2) X dd_Reader_takeHead_89 (by decide) ?_
    refine z_icmp_eq (tgt := 107) X dd_Reader_takeHead_90 (by decide) (fun q13 => ?_) (fun q13 => ?_)
    · rw [if_pos q13] at h
      refine z_sub [0] rfl ?_
      exact t_Reader_takeHead_107 X H h
    · rw [if_neg q13] at h
      refine z_aload_n X dd_Reader_takeHead_93 rfl 0 rfl ?_
      obtain ⟨v15, ev15, h⟩ := zb h
      refine z_get (j := 8) X dd_Reader_takeHead_94 kc_5 ki_5 (by decide) km_482 (zgi_v ev15) ?_
      refine z_if_ne (tgt := 115) X dd_Reader_takeHead_97 (by decide) (fun q16 => ?_) (fun q16 => ?_)
      · rw [if_neg q16] at h
        refine z_sub [0] rfl ?_
        exact t_Reader_takeHead_115 X H h
      · rw [if_pos q16] at h
        refine z_aload_n X dd_Reader_takeHead_100 rfl 0 rfl ?_
        obtain ⟨v17, ev17, h⟩ := zb h
        refine z_get (j := 6) X dd_Reader_takeHead_101 kc_5 ki_5 (by decide) km_480 (zgi_v ev17) ?_
        refine z_if_ne (tgt := 115) X dd_Reader_takeHead_104 (by decide) (fun q18 => ?_) (fun q18 => ?_)
        · rw [if_neg q18] at h
          refine z_sub [0] rfl ?_
          exact t_Reader_takeHead_115 X H h
        · rw [if_pos q18] at h
          refine z_sub [0] rfl ?_
          exact t_Reader_takeHead_107 X H h
set_option maxRecDepth 100000 in
set_option maxHeartbeats 4000000 in
theorem t_Reader_takeHead_41  (X : zX p s m args cd D cid B bb_Reader_takeHead 3 rr_Reader zT) (H : zH s meth B n0 none "takeHead") {nf : Nat} {x0 : Nat} {x1 : Int32} {x2 : Int32} {c : Zc} {res : Zc} (h : f_Reader_takeHead_41 nf x0 x1 x2 c = some res) : Zz p l e (zRm 2 43 0 0) s m args below meth cd (MQ below (zQv D cid B res n0 0) args s 0 0 (fun q => B ≤ q)) D cid B 3 0 0 c 41 [(0, .ref x0), (1, .int x1), (2, .int x2)] [] := by
  unfold f_Reader_takeHead_41 at h
  refine z_aload_n X dd_Reader_takeHead_41 rfl 0 rfl ?_
  obtain ⟨v7, ev7, h⟩ := zb h
  refine z_get (j := 8) X dd_Reader_takeHead_42 kc_5 ki_5 (by decide) km_482 (zgi_v ev7) ?_
  refine z_iconst (v := 1) X dd_Reader_takeHead_45 (by decide) ?_
  refine z_icmp_ne (tgt := 79) X dd_Reader_takeHead_46 (by decide) (fun q8 => ?_) (fun q8 => ?_)
  · rw [if_neg q8] at h
    refine z_sub [0, 1] rfl ?_
    exact t_Reader_takeHead_79 X H h
  · rw [if_pos q8] at h
    refine z_iload_n X dd_Reader_takeHead_49 rfl 1 rfl ?_
    refine z_iconst (v := 5) X dd_Reader_takeHead_50 (by decide) ?_
    refine z_icmp_ne (tgt := 79) X dd_Reader_takeHead_51 (by decide) (fun q19 => ?_) (fun q19 => ?_)
    · rw [if_neg q19] at h
      refine z_sub [0, 1] rfl ?_
      exact t_Reader_takeHead_79 X H h
    · rw [if_pos q19] at h
      refine z_iload_n X dd_Reader_takeHead_54 rfl 2 rfl ?_
      refine z_bipush (v := 8) X dd_Reader_takeHead_55 (by decide) ?_
      refine z_icmp_lt (tgt := 79) X dd_Reader_takeHead_57 (by decide) (fun q20 => ?_) (fun q20 => ?_)
      · rw [if_pos q20] at h
        refine z_sub [0, 1] rfl ?_
        exact t_Reader_takeHead_79 X H h
      · rw [if_neg q20] at h
        refine z_aload_n X dd_Reader_takeHead_60 rfl 0 rfl ?_
        obtain ⟨v21, ev21, h⟩ := zb h
        refine z_get (j := 4) X dd_Reader_takeHead_61 kc_5 ki_5 (by decide) km_478 (zgr_v ev21) ?_
        refine z_iload_n X dd_Reader_takeHead_64 rfl 2 rfl ?_
        refine z_bipush (v := 8) X dd_Reader_takeHead_65 (by decide) ?_
        refine z_isub X dd_Reader_takeHead_67 ?_
        obtain ⟨c22, ec22, h⟩ := zb h
        refine z_put (j := 1) X dd_Reader_takeHead_68 kc_2 ki_2 tt_Text tk_Text nn_Text (by decide) km_304 rfl (tk_Text 1 (by decide)) rfl rfl ec22 ?_
        refine z_aload_n X dd_Reader_takeHead_71 rfl 0 rfl ?_
        refine z_iconst (v := 2) X dd_Reader_takeHead_72 (by decide) ?_
        obtain ⟨c23, ec23, h⟩ := zb h
        refine z_put (j := 8) X dd_Reader_takeHead_73 kc_5 ki_5 tt_Reader tk_Reader nn_Reader (by decide) km_482 rfl (tk_Reader 8 (by decide)) rfl rfl ec23 ?_
        refine z_goto (tgt := 120) X dd_Reader_takeHead_76 (by decide) ?_
        refine z_sub [] rfl ?_
        exact t_Reader_takeHead_120 X H h
set_option maxRecDepth 100000 in
set_option maxHeartbeats 4000000 in
theorem c_Reader_takeHead (l : Launch) {nf : Nat} {a0 : Nat} {a1 : Int32} {c : Zc} {res : Zc} (h : f_Reader_takeHead nf a0 a1 c = some res) : zM l yy_Reader_takeHead ww_Reader_takeHead 2 43 0 0 [.ref a0, .int a1] c (fun D cid B => zQv D cid B res c.length 0) := by
  refine z_met (cc := bb_Reader_takeHead) (maxL := 3) (ret := none) (by decide +kernel) rfl (Nat.le_of_ble_eq_true rfl) ?_
  intro p e s m args below meth cd D cid B X h1 h2 h3 h4
  have X : zX p s m args cd D cid B bb_Reader_takeHead 3 rr_Reader zT := X
  have H : zH s meth B c.length none "takeHead" := ⟨h1, h2, h4, h3⟩
  unfold f_Reader_takeHead at h
  show Zz p l e (zRm 2 43 0 0) s m args below meth cd _ D cid B 3 0 0 c 0 [(0, .ref a0), (1, .int a1)] []
  refine z_aload_n X dd_Reader_takeHead_0 rfl 0 rfl ?_
  obtain ⟨v1, ev1, h⟩ := zb h
  refine z_get (j := 1) X dd_Reader_takeHead_1 kc_5 ki_5 (by decide) km_475 (zgr_v ev1) ?_
  obtain ⟨v2, ev2, h⟩ := zb h
  refine z_get (j := 1) X dd_Reader_takeHead_4 kc_3 ki_3 (by decide) km_419 (zgr_v ev2) ?_
  refine z_aload_n X dd_Reader_takeHead_7 rfl 0 rfl ?_
  obtain ⟨v3, ev3, h⟩ := zb h
  refine z_get (j := 7) X dd_Reader_takeHead_8 kc_5 ki_5 (by decide) km_481 (zgi_v ev3) ?_
  obtain ⟨v4, ev4, h⟩ := zb h
  refine z_iaload X dd_Reader_takeHead_11 rfl ev4 ?_
  refine z_istore_n (lv' := [(2, .int v4), (0, .ref a0), (1, .int a1)]) X dd_Reader_takeHead_12 rfl (by decide) rfl ?_
  refine z_aload_n X dd_Reader_takeHead_13 rfl 1 rfl ?_
  obtain ⟨v5, ev5, h⟩ := zb h
  refine z_get (j := 8) X dd_Reader_takeHead_14 kc_5 ki_5 (by decide) km_482 (zgi_v ev5) ?_
  refine z_if_ne (tgt := 41) X dd_Reader_takeHead_17 (by decide) (fun q6 => ?_) (fun q6 => ?_)
  · rw [if_neg q6] at h
    refine z_sub [1, 2, 0] rfl ?_
    exact t_Reader_takeHead_41 X H h
  · rw [if_pos q6] at h
    refine z_aload_n X dd_Reader_takeHead_20 rfl 1 rfl ?_
    obtain ⟨v24, ev24, h⟩ := zb h
    refine z_get (j := 6) X dd_Reader_takeHead_21 kc_5 ki_5 (by decide) km_480 (zgi_v ev24) ?_
    refine z_if_eq (tgt := 41) X dd_Reader_takeHead_24 (by decide) (fun q25 => ?_) (fun q25 => ?_)
    · rw [if_pos q25] at h
      refine z_sub [1, 2, 0] rfl ?_
      exact t_Reader_takeHead_41 X H h
    · rw [if_neg q25] at h
      refine z_iload_n X dd_Reader_takeHead_27 rfl 2 rfl ?_
      refine z_bipush (v := 23) X dd_Reader_takeHead_28 (by decide) ?_
      refine z_icmp_ne (tgt := 41) X dd_Reader_takeHead_30 (by decide) (fun q26 => ?_) (fun q26 => ?_)
      · rw [if_neg q26] at h
        refine z_sub [1, 2, 0] rfl ?_
        exact t_Reader_takeHead_41 X H h
      · rw [if_pos q26] at h
        refine z_aload_n X dd_Reader_takeHead_33 rfl 1 rfl ?_
        refine z_iconst (v := 1) X dd_Reader_takeHead_34 (by decide) ?_
        obtain ⟨c27, ec27, h⟩ := zb h
        refine z_put (j := 8) X dd_Reader_takeHead_35 kc_5 ki_5 tt_Reader tk_Reader nn_Reader (by decide) km_482 rfl (tk_Reader 8 (by decide)) rfl rfl ec27 ?_
        refine z_goto (tgt := 120) X dd_Reader_takeHead_38 (by decide) ?_
        refine z_sub [] rfl ?_
        exact t_Reader_takeHead_120 X H h
theorem dd_Reader_takeSlot_0 : decode bb_Reader_takeSlot 0 = .ok (.aload_n 0, 1) := by decide +kernel
theorem dd_Reader_takeSlot_1 : decode bb_Reader_takeSlot 1 = .ok (.getfield 39, 3) := by decide +kernel
theorem dd_Reader_takeSlot_4 : decode bb_Reader_takeSlot 4 = .ok (.bipush 8, 2) := by decide +kernel
theorem dd_Reader_takeSlot_6 : decode bb_Reader_takeSlot 6 = .ok (.if_icmp .lt 17, 3) := by decide +kernel
theorem dd_Reader_takeSlot_9 : decode bb_Reader_takeSlot 9 = .ok (.aload_n 0, 1) := by decide +kernel
theorem dd_Reader_takeSlot_10 : decode bb_Reader_takeSlot 10 = .ok (.iconst (-1), 1) := by decide +kernel
theorem dd_Reader_takeSlot_11 : decode bb_Reader_takeSlot 11 = .ok (.putfield 57, 3) := by decide +kernel
theorem dd_Reader_takeSlot_14 : decode bb_Reader_takeSlot 14 = .ok (.aload_n 0, 1) := by decide +kernel
theorem dd_Reader_takeSlot_15 : decode bb_Reader_takeSlot 15 = .ok (.iconst 3, 1) := by decide +kernel
theorem dd_Reader_takeSlot_16 : decode bb_Reader_takeSlot 16 = .ok (.iload_n 1, 1) := by decide +kernel
theorem dd_Reader_takeSlot_17 : decode bb_Reader_takeSlot 17 = .ok (.invokevirtual 126, 3) := by decide +kernel
theorem dd_Reader_takeSlot_20 : decode bb_Reader_takeSlot 20 = .ok (.goto 21, 3) := by decide +kernel
theorem dd_Reader_takeSlot_23 : decode bb_Reader_takeSlot 23 = .ok (.aload_n 0, 1) := by decide +kernel
theorem dd_Reader_takeSlot_24 : decode bb_Reader_takeSlot 24 = .ok (.aload_n 0, 1) := by decide +kernel
theorem dd_Reader_takeSlot_25 : decode bb_Reader_takeSlot 25 = .ok (.getfield 39, 3) := by decide +kernel
theorem dd_Reader_takeSlot_28 : decode bb_Reader_takeSlot 28 = .ok (.putfield 57, 3) := by decide +kernel
theorem dd_Reader_takeSlot_31 : decode bb_Reader_takeSlot 31 = .ok (.aload_n 0, 1) := by decide +kernel
theorem dd_Reader_takeSlot_32 : decode bb_Reader_takeSlot 32 = .ok (.dup, 1) := by decide +kernel
theorem dd_Reader_takeSlot_33 : decode bb_Reader_takeSlot 33 = .ok (.getfield 39, 3) := by decide +kernel
theorem dd_Reader_takeSlot_36 : decode bb_Reader_takeSlot 36 = .ok (.iconst 1, 1) := by decide +kernel
theorem dd_Reader_takeSlot_37 : decode bb_Reader_takeSlot 37 = .ok (.iadd, 1) := by decide +kernel
theorem dd_Reader_takeSlot_38 : decode bb_Reader_takeSlot 38 = .ok (.putfield 39, 3) := by decide +kernel
theorem dd_Reader_takeSlot_41 : decode bb_Reader_takeSlot 41 = .ok (.return_, 1) := by decide +kernel
set_option maxRecDepth 100000 in
set_option maxHeartbeats 4000000 in
theorem t_Reader_takeSlot_41  (X : zX p s m args cd D cid B bb_Reader_takeSlot 2 rr_Reader zT) (H : zH s meth B n0 none "takeSlot") {nf : Nat}  {c : Zc} {res : Zc} (h : f_Reader_takeSlot_41 nf  c = some res) : Zz p l e (zRm 1 22 0 0) s m args below meth cd (MQ below (zQv D cid B res n0 0) args s 0 0 (fun q => B ≤ q)) D cid B 2 0 0 c 41 [] [] := by
  unfold f_Reader_takeSlot_41 at h
  obtain rfl := Option.some.inj h
  exact z_vret X H.1 H.2.1 H.2.2.1 dd_Reader_takeSlot_41
set_option maxRecDepth 100000 in
set_option maxHeartbeats 4000000 in
theorem c_Reader_takeSlot (l : Launch) {nf : Nat} {a0 : Nat} {a1 : Int32} {c : Zc} {res : Zc} (h : f_Reader_takeSlot nf a0 a1 c = some res) : zM l yy_Reader_takeSlot ww_Reader_takeSlot 1 22 0 0 [.ref a0, .int a1] c (fun D cid B => zQv D cid B res c.length 0) := by
  refine z_met (cc := bb_Reader_takeSlot) (maxL := 2) (ret := none) (by decide +kernel) rfl (Nat.le_of_ble_eq_true rfl) ?_
  intro p e s m args below meth cd D cid B X h1 h2 h3 h4
  have X : zX p s m args cd D cid B bb_Reader_takeSlot 2 rr_Reader zT := X
  have H : zH s meth B c.length none "takeSlot" := ⟨h1, h2, h4, h3⟩
  unfold f_Reader_takeSlot at h
  show Zz p l e (zRm 1 22 0 0) s m args below meth cd _ D cid B 2 0 0 c 0 [(0, .ref a0), (1, .int a1)] []
  refine z_aload_n X dd_Reader_takeSlot_0 rfl 0 rfl ?_
  obtain ⟨v1, ev1, h⟩ := zb h
  refine z_get (j := 10) X dd_Reader_takeSlot_1 kc_5 ki_5 (by decide) km_484 (zgi_v ev1) ?_
  refine z_bipush (v := 8) X dd_Reader_takeSlot_4 (by decide) ?_
  refine z_icmp_lt (tgt := 23) X dd_Reader_takeSlot_6 (by decide) (fun q2 => ?_) (fun q2 => ?_)
  · rw [if_pos q2] at h
    refine z_aload_n X dd_Reader_takeSlot_23 rfl 0 rfl ?_
    refine z_aload_n X dd_Reader_takeSlot_24 rfl 0 rfl ?_
    obtain ⟨v3, ev3, h⟩ := zb h
    refine z_get (j := 10) X dd_Reader_takeSlot_25 kc_5 ki_5 (by decide) km_484 (zgi_v ev3) ?_
    obtain ⟨c4, ec4, h⟩ := zb h
    refine z_put (j := 16) X dd_Reader_takeSlot_28 kc_5 ki_5 tt_Reader tk_Reader nn_Reader (by decide) km_490 rfl (tk_Reader 16 (by decide)) rfl rfl ec4 ?_
    refine z_aload_n X dd_Reader_takeSlot_31 rfl 0 rfl ?_
    refine z_dup X dd_Reader_takeSlot_32 rfl ?_
    obtain ⟨v5, ev5, h⟩ := zb h
    refine z_get (j := 10) X dd_Reader_takeSlot_33 kc_5 ki_5 (by decide) km_484 (zgi_v ev5) ?_
    refine z_iconst (v := 1) X dd_Reader_takeSlot_36 (by decide) ?_
    refine z_iadd X dd_Reader_takeSlot_37 ?_
    obtain ⟨c6, ec6, h⟩ := zb h
    refine z_put (j := 10) X dd_Reader_takeSlot_38 kc_5 ki_5 tt_Reader tk_Reader nn_Reader (by decide) km_484 rfl (tk_Reader 10 (by decide)) rfl rfl ec6 ?_
    refine z_sub [] rfl ?_
    exact t_Reader_takeSlot_41 X H h
  · rw [if_neg q2] at h
    refine z_aload_n X dd_Reader_takeSlot_9 rfl 0 rfl ?_
    refine z_iconst (v := (-1)) X dd_Reader_takeSlot_10 (by decide) ?_
    obtain ⟨c7, ec7, h⟩ := zb h
    refine z_put (j := 16) X dd_Reader_takeSlot_11 kc_5 ki_5 tt_Reader tk_Reader nn_Reader (by decide) km_490 rfl (tk_Reader 16 (by decide)) rfl rfl ec7 ?_
    refine z_aload_n X dd_Reader_takeSlot_14 rfl 0 rfl ?_
    refine z_iconst (v := 3) X dd_Reader_takeSlot_15 (by decide) ?_
    refine z_iload_n X dd_Reader_takeSlot_16 rfl 1 rfl ?_
    obtain ⟨w9, ew9, h⟩ := zb h
    obtain ⟨q8, eq8, h⟩ := zb h
    refine z_callVv X [.int 3, .int a1] rfl dd_Reader_takeSlot_17 (c_Reader_failAt l eq8) (cwV 2 X.1.2.2.2.2 (zg_V km_1002 km_1004 km_12 km_130 km_1005) rfl rfl rfl (by decide +kernel) ⟨Nat.le_of_ble_eq_true rfl, Nat.le_of_ble_eq_true rfl⟩) (zob_s ew9) kc_5 rfl (Nat.le_of_ble_eq_true rfl) ⟨Nat.le_of_ble_eq_true rfl, Nat.le_of_ble_eq_true rfl⟩ ?_
    refine z_goto (tgt := 41) X dd_Reader_takeSlot_20 (by decide) ?_
    refine z_sub [] rfl ?_
    exact t_Reader_takeSlot_41 X H h
theorem dd_Reader_makeKnown_0 : decode bb_Reader_makeKnown 0 = .ok (.aload_n 0, 1) := by decide +kernel
theorem dd_Reader_makeKnown_1 : decode bb_Reader_makeKnown 1 = .ok (.dup, 1) := by decide +kernel
theorem dd_Reader_makeKnown_2 : decode bb_Reader_makeKnown 2 = .ok (.getfield 42, 3) := by decide +kernel
theorem dd_Reader_makeKnown_5 : decode bb_Reader_makeKnown 5 = .ok (.iconst 1, 1) := by decide +kernel
theorem dd_Reader_makeKnown_6 : decode bb_Reader_makeKnown 6 = .ok (.aload_n 0, 1) := by decide +kernel
theorem dd_Reader_makeKnown_7 : decode bb_Reader_makeKnown 7 = .ok (.getfield 57, 3) := by decide +kernel
theorem dd_Reader_makeKnown_10 : decode bb_Reader_makeKnown 10 = .ok (.ishl, 1) := by decide +kernel
theorem dd_Reader_makeKnown_11 : decode bb_Reader_makeKnown 11 = .ok (.ior, 1) := by decide +kernel
theorem dd_Reader_makeKnown_12 : decode bb_Reader_makeKnown 12 = .ok (.putfield 42, 3) := by decide +kernel
theorem dd_Reader_makeKnown_15 : decode bb_Reader_makeKnown 15 = .ok (.aload_n 0, 1) := by decide +kernel
theorem dd_Reader_makeKnown_16 : decode bb_Reader_makeKnown 16 = .ok (.getfield 69, 3) := by decide +kernel
theorem dd_Reader_makeKnown_19 : decode bb_Reader_makeKnown 19 = .ok (.getfield 202, 3) := by decide +kernel
theorem dd_Reader_makeKnown_22 : decode bb_Reader_makeKnown 22 = .ok (.aload_n 0, 1) := by decide +kernel
theorem dd_Reader_makeKnown_23 : decode bb_Reader_makeKnown 23 = .ok (.getfield 69, 3) := by decide +kernel
theorem dd_Reader_makeKnown_26 : decode bb_Reader_makeKnown 26 = .ok (.getfield 205, 3) := by decide +kernel
theorem dd_Reader_makeKnown_29 : decode bb_Reader_makeKnown 29 = .ok (.iconst 1, 1) := by decide +kernel
theorem dd_Reader_makeKnown_30 : decode bb_Reader_makeKnown 30 = .ok (.isub, 1) := by decide +kernel
theorem dd_Reader_makeKnown_31 : decode bb_Reader_makeKnown 31 = .ok (.dup2, 1) := by decide +kernel
theorem dd_Reader_makeKnown_32 : decode bb_Reader_makeKnown 32 = .ok (.iaload, 1) := by decide +kernel
theorem dd_Reader_makeKnown_33 : decode bb_Reader_makeKnown 33 = .ok (.iconst 1, 1) := by decide +kernel
theorem dd_Reader_makeKnown_34 : decode bb_Reader_makeKnown 34 = .ok (.aload_n 0, 1) := by decide +kernel
theorem dd_Reader_makeKnown_35 : decode bb_Reader_makeKnown 35 = .ok (.getfield 57, 3) := by decide +kernel
theorem dd_Reader_makeKnown_38 : decode bb_Reader_makeKnown 38 = .ok (.ishl, 1) := by decide +kernel
theorem dd_Reader_makeKnown_39 : decode bb_Reader_makeKnown 39 = .ok (.ior, 1) := by decide +kernel
theorem dd_Reader_makeKnown_40 : decode bb_Reader_makeKnown 40 = .ok (.iastore, 1) := by decide +kernel
theorem dd_Reader_makeKnown_41 : decode bb_Reader_makeKnown 41 = .ok (.return_, 1) := by decide +kernel
set_option maxRecDepth 100000 in
set_option maxHeartbeats 4000000 in
theorem c_Reader_makeKnown (l : Launch) {nf : Nat} {a0 : Nat} {c : Zc} {res : Zc} (h : f_Reader_makeKnown nf a0 c = some res) : zM l yy_Reader_makeKnown ww_Reader_makeKnown 0 0 0 0 [.ref a0] c (fun D cid B => zQv D cid B res c.length 0) := by
  refine z_met (cc := bb_Reader_makeKnown) (maxL := 1) (ret := none) (by decide +kernel) rfl (Nat.le_of_ble_eq_true rfl) ?_
  intro p e s m args below meth cd D cid B X h1 h2 h3 h4
  have X : zX p s m args cd D cid B bb_Reader_makeKnown 1 rr_Reader zT := X
  have H : zH s meth B c.length none "makeKnown" := ⟨h1, h2, h4, h3⟩
  unfold f_Reader_makeKnown at h
  show Zz p l e (zRm 0 0 0 0) s m args below meth cd _ D cid B 1 0 0 c 0 [(0, .ref a0)] []
  refine z_aload_n X dd_Reader_makeKnown_0 rfl 0 rfl ?_
  refine z_dup X dd_Reader_makeKnown_1 rfl ?_
  obtain ⟨v1, ev1, h⟩ := zb h
  refine z_get (j := 11) X dd_Reader_makeKnown_2 kc_5 ki_5 (by decide) km_485 (zgi_v ev1) ?_
  refine z_iconst (v := 1) X dd_Reader_makeKnown_5 (by decide) ?_
  refine z_aload_n X dd_Reader_makeKnown_6 rfl 0 rfl ?_
  obtain ⟨v2, ev2, h⟩ := zb h
  refine z_get (j := 16) X dd_Reader_makeKnown_7 kc_5 ki_5 (by decide) km_490 (zgi_v ev2) ?_
  refine z_ishl X dd_Reader_makeKnown_10 ?_
  refine z_ior X dd_Reader_makeKnown_11 ?_
  obtain ⟨c3, ec3, h⟩ := zb h
  refine z_put (j := 11) X dd_Reader_makeKnown_12 kc_5 ki_5 tt_Reader tk_Reader nn_Reader (by decide) km_485 rfl (tk_Reader 11 (by decide)) rfl rfl ec3 ?_
  refine z_aload_n X dd_Reader_makeKnown_15 rfl 0 rfl ?_
  obtain ⟨v4, ev4, h⟩ := zb h
  refine z_get (j := 4) X dd_Reader_makeKnown_16 kc_5 ki_5 (by decide) km_478 (zgr_v ev4) ?_
  obtain ⟨v5, ev5, h⟩ := zb h
  refine z_get (j := 9) X dd_Reader_makeKnown_19 kc_2 ki_2 (by decide) km_331 (zgr_v ev5) ?_
  refine z_aload_n X dd_Reader_makeKnown_22 rfl 0 rfl ?_
  obtain ⟨v6, ev6, h⟩ := zb h
  refine z_get (j := 4) X dd_Reader_makeKnown_23 kc_5 ki_5 (by decide) km_478 (zgr_v ev6) ?_
  obtain ⟨v7, ev7, h⟩ := zb h
  refine z_get (j := 8) X dd_Reader_makeKnown_26 kc_2 ki_2 (by decide) km_328 (zgi_v ev7) ?_
  refine z_iconst (v := 1) X dd_Reader_makeKnown_29 (by decide) ?_
  refine z_isub X dd_Reader_makeKnown_30 ?_
  refine z_dup2_11 X dd_Reader_makeKnown_31 rfl rfl ?_
  obtain ⟨v8, ev8, h⟩ := zb h
  refine z_iaload X dd_Reader_makeKnown_32 rfl ev8 ?_
  refine z_iconst (v := 1) X dd_Reader_makeKnown_33 (by decide) ?_
  refine z_aload_n X dd_Reader_makeKnown_34 rfl 0 rfl ?_
  obtain ⟨v9, ev9, h⟩ := zb h
  refine z_get (j := 16) X dd_Reader_makeKnown_35 kc_5 ki_5 (by decide) km_490 (zgi_v ev9) ?_
  refine z_ishl X dd_Reader_makeKnown_38 ?_
  refine z_ior X dd_Reader_makeKnown_39 ?_
  obtain ⟨c10, ec10, h⟩ := zb h
  refine z_iastore X dd_Reader_makeKnown_40 rfl ec10 ?_
  obtain rfl := Option.some.inj h
  exact z_vret X H.1 H.2.1 H.2.2.1 dd_Reader_makeKnown_41
theorem dd_Reader_tellNode_0 : decode bb_Reader_tellNode 0 = .ok (.aload_n 0, 1) := by decide +kernel
theorem dd_Reader_tellNode_1 : decode bb_Reader_tellNode 1 = .ok (.iload_n 1, 1) := by decide +kernel
theorem dd_Reader_tellNode_2 : decode bb_Reader_tellNode 2 = .ok (.invokevirtual 196, 3) := by decide +kernel
theorem dd_Reader_tellNode_5 : decode bb_Reader_tellNode 5 = .ok (.aload_n 0, 1) := by decide +kernel
theorem dd_Reader_tellNode_6 : decode bb_Reader_tellNode 6 = .ok (.getfield 36, 3) := by decide +kernel
theorem dd_Reader_tellNode_9 : decode bb_Reader_tellNode 9 = .ok (.ifCond .ne 20, 3) := by decide +kernel
theorem dd_Reader_tellNode_12 : decode bb_Reader_tellNode 12 = .ok (.aload_n 0, 1) := by decide +kernel
theorem dd_Reader_tellNode_13 : decode bb_Reader_tellNode 13 = .ok (.getfield 69, 3) := by decide +kernel
theorem dd_Reader_tellNode_16 : decode bb_Reader_tellNode 16 = .ok (.dup, 1) := by decide +kernel
theorem dd_Reader_tellNode_17 : decode bb_Reader_tellNode 17 = .ok (.getfield 199, 3) := by decide +kernel
theorem dd_Reader_tellNode_20 : decode bb_Reader_tellNode 20 = .ok (.iconst 1, 1) := by decide +kernel
theorem dd_Reader_tellNode_21 : decode bb_Reader_tellNode 21 = .ok (.iadd, 1) := by decide +kernel
theorem dd_Reader_tellNode_22 : decode bb_Reader_tellNode 22 = .ok (.putfield 199, 3) := by decide +kernel
theorem dd_Reader_tellNode_25 : decode bb_Reader_tellNode 25 = .ok (.aload_n 0, 1) := by decide +kernel
theorem dd_Reader_tellNode_26 : decode bb_Reader_tellNode 26 = .ok (.invokevirtual 193, 3) := by decide +kernel
theorem dd_Reader_tellNode_29 : decode bb_Reader_tellNode 29 = .ok (.return_, 1) := by decide +kernel
set_option maxRecDepth 100000 in
set_option maxHeartbeats 4000000 in
theorem t_Reader_tellNode_29  (X : zX p s m args cd D cid B bb_Reader_tellNode 2 rr_Reader zT) (H : zH s meth B n0 none "tellNode") {nf : Nat}  {c : Zc} {res : Zc} (h : f_Reader_tellNode_29 nf  c = some res) : Zz p l e (zRm 2 43 0 0) s m args below meth cd (MQ below (zQv D cid B res n0 0) args s 0 0 (fun q => B ≤ q)) D cid B 2 0 0 c 29 [] [] := by
  unfold f_Reader_tellNode_29 at h
  obtain rfl := Option.some.inj h
  exact z_vret X H.1 H.2.1 H.2.2.1 dd_Reader_tellNode_29
set_option maxRecDepth 100000 in
set_option maxHeartbeats 4000000 in
theorem c_Reader_tellNode (l : Launch) {nf : Nat} {a0 : Nat} {a1 : Int32} {c : Zc} {res : Zc} (h : f_Reader_tellNode nf a0 a1 c = some res) : zM l yy_Reader_tellNode ww_Reader_tellNode 2 43 0 0 [.ref a0, .int a1] c (fun D cid B => zQv D cid B res c.length 0) := by
  refine z_met (cc := bb_Reader_tellNode) (maxL := 2) (ret := none) (by decide +kernel) rfl (Nat.le_of_ble_eq_true rfl) ?_
  intro p e s m args below meth cd D cid B X h1 h2 h3 h4
  have X : zX p s m args cd D cid B bb_Reader_tellNode 2 rr_Reader zT := X
  have H : zH s meth B c.length none "tellNode" := ⟨h1, h2, h4, h3⟩
  unfold f_Reader_tellNode at h
  show Zz p l e (zRm 2 43 0 0) s m args below meth cd _ D cid B 2 0 0 c 0 [(0, .ref a0), (1, .int a1)] []
  refine z_aload_n X dd_Reader_tellNode_0 rfl 0 rfl ?_
  refine z_iload_n X dd_Reader_tellNode_1 rfl 1 rfl ?_
  obtain ⟨w2, ew2, h⟩ := zb h
  obtain ⟨q1, eq1, h⟩ := zb h
  refine z_callVv X [.int a1] rfl dd_Reader_tellNode_2 (c_Reader_takeSlot l eq1) (cwV 1 X.1.2.2.2.2 (zg_V km_1022 km_1024 km_17 km_130 km_1025) rfl rfl rfl (by decide +kernel) ⟨Nat.le_of_ble_eq_true rfl, Nat.le_of_ble_eq_true rfl⟩) (zob_s ew2) kc_5 rfl (Nat.le_of_ble_eq_true rfl) ⟨Nat.le_of_ble_eq_true rfl, Nat.le_of_ble_eq_true rfl⟩ ?_
  refine z_aload_n X dd_Reader_tellNode_5 rfl 0 rfl ?_
  obtain ⟨v3, ev3, h⟩ := zb h
  refine z_get (j := 9) X dd_Reader_tellNode_6 kc_5 ki_5 (by decide) km_483 (zgi_v ev3) ?_
  refine z_if_ne (tgt := 29) X dd_Reader_tellNode_9 (by decide) (fun q4 => ?_) (fun q4 => ?_)
  · rw [if_neg q4] at h
    refine z_sub [] rfl ?_
    exact t_Reader_tellNode_29 X H h
  · rw [if_pos q4] at h
    refine z_aload_n X dd_Reader_tellNode_12 rfl 0 rfl ?_
    obtain ⟨v5, ev5, h⟩ := zb h
    refine z_get (j := 4) X dd_Reader_tellNode_13 kc_5 ki_5 (by decide) km_478 (zgr_v ev5) ?_
    refine z_dup X dd_Reader_tellNode_16 rfl ?_
    obtain ⟨v6, ev6, h⟩ := zb h
    refine z_get (j := 2) X dd_Reader_tellNode_17 kc_2 ki_2 (by decide) km_307 (zgi_v ev6) ?_
    refine z_iconst (v := 1) X dd_Reader_tellNode_20 (by decide) ?_
    refine z_iadd X dd_Reader_tellNode_21 ?_
    obtain ⟨c7, ec7, h⟩ := zb h
    refine z_put (j := 2) X dd_Reader_tellNode_22 kc_2 ki_2 tt_Text tk_Text nn_Text (by decide) km_307 rfl (tk_Text 2 (by decide)) rfl rfl ec7 ?_
    refine z_aload_n X dd_Reader_tellNode_25 rfl 0 rfl ?_
    obtain ⟨w9, ew9, h⟩ := zb h
    obtain ⟨q8, eq8, h⟩ := zb h
    refine z_callVv X [] rfl dd_Reader_tellNode_26 (c_Reader_makeKnown l eq8) (cwV 0 X.1.2.2.2.2 (zg_V km_1026 km_1028 km_18 km_130 km_1029) rfl rfl rfl (by decide +kernel) ⟨Nat.le_of_ble_eq_true rfl, Nat.le_of_ble_eq_true rfl⟩) (zob_s ew9) kc_5 rfl (Nat.le_of_ble_eq_true rfl) ⟨Nat.le_of_ble_eq_true rfl, Nat.le_of_ble_eq_true rfl⟩ ?_
    refine z_sub [] rfl ?_
    exact t_Reader_tellNode_29 X H h
theorem dd_Reader_nameNode_0 : decode bb_Reader_nameNode 0 = .ok (.aload_n 0, 1) := by decide +kernel
theorem dd_Reader_nameNode_1 : decode bb_Reader_nameNode 1 = .ok (.aload_n 0, 1) := by decide +kernel
theorem dd_Reader_nameNode_2 : decode bb_Reader_nameNode 2 = .ok (.getfield 22, 3) := by decide +kernel
theorem dd_Reader_nameNode_5 : decode bb_Reader_nameNode 5 = .ok (.iload_n 1, 1) := by decide +kernel
theorem dd_Reader_nameNode_6 : decode bb_Reader_nameNode 6 = .ok (.iaload, 1) := by decide +kernel
theorem dd_Reader_nameNode_7 : decode bb_Reader_nameNode 7 = .ok (.putfield 57, 3) := by decide +kernel
theorem dd_Reader_nameNode_10 : decode bb_Reader_nameNode 10 = .ok (.aload_n 0, 1) := by decide +kernel
theorem dd_Reader_nameNode_11 : decode bb_Reader_nameNode 11 = .ok (.getfield 57, 3) := by decide +kernel
theorem dd_Reader_nameNode_14 : decode bb_Reader_nameNode 14 = .ok (.iconst (-1), 1) := by decide +kernel
theorem dd_Reader_nameNode_15 : decode bb_Reader_nameNode 15 = .ok (.if_icmp .ne 24, 3) := by decide +kernel
theorem dd_Reader_nameNode_18 : decode bb_Reader_nameNode 18 = .ok (.aload_n 0, 1) := by decide +kernel
theorem dd_Reader_nameNode_19 : decode bb_Reader_nameNode 19 = .ok (.aload_n 0, 1) := by decide +kernel
theorem dd_Reader_nameNode_20 : decode bb_Reader_nameNode 20 = .ok (.getfield 30, 3) := by decide +kernel
theorem dd_Reader_nameNode_23 : decode bb_Reader_nameNode 23 = .ok (.invokevirtual 187, 3) := by decide +kernel
theorem dd_Reader_nameNode_26 : decode bb_Reader_nameNode 26 = .ok (.aload_n 0, 1) := by decide +kernel
theorem dd_Reader_nameNode_27 : decode bb_Reader_nameNode 27 = .ok (.getfield 22, 3) := by decide +kernel
theorem dd_Reader_nameNode_30 : decode bb_Reader_nameNode 30 = .ok (.iload_n 1, 1) := by decide +kernel
theorem dd_Reader_nameNode_31 : decode bb_Reader_nameNode 31 = .ok (.aload_n 0, 1) := by decide +kernel
theorem dd_Reader_nameNode_32 : decode bb_Reader_nameNode 32 = .ok (.getfield 57, 3) := by decide +kernel
theorem dd_Reader_nameNode_35 : decode bb_Reader_nameNode 35 = .ok (.iastore, 1) := by decide +kernel
theorem dd_Reader_nameNode_36 : decode bb_Reader_nameNode 36 = .ok (.goto 43, 3) := by decide +kernel
theorem dd_Reader_nameNode_39 : decode bb_Reader_nameNode 39 = .ok (.aload_n 0, 1) := by decide +kernel
theorem dd_Reader_nameNode_40 : decode bb_Reader_nameNode 40 = .ok (.getfield 45, 3) := by decide +kernel
theorem dd_Reader_nameNode_43 : decode bb_Reader_nameNode 43 = .ok (.aload_n 0, 1) := by decide +kernel
theorem dd_Reader_nameNode_44 : decode bb_Reader_nameNode 44 = .ok (.getfield 57, 3) := by decide +kernel
theorem dd_Reader_nameNode_47 : decode bb_Reader_nameNode 47 = .ok (.ishr, 1) := by decide +kernel
theorem dd_Reader_nameNode_48 : decode bb_Reader_nameNode 48 = .ok (.iconst 1, 1) := by decide +kernel
theorem dd_Reader_nameNode_49 : decode bb_Reader_nameNode 49 = .ok (.iand, 1) := by decide +kernel
theorem dd_Reader_nameNode_50 : decode bb_Reader_nameNode 50 = .ok (.ifCond .eq 11, 3) := by decide +kernel
theorem dd_Reader_nameNode_53 : decode bb_Reader_nameNode 53 = .ok (.aload_n 0, 1) := by decide +kernel
theorem dd_Reader_nameNode_54 : decode bb_Reader_nameNode 54 = .ok (.iconst 4, 1) := by decide +kernel
theorem dd_Reader_nameNode_55 : decode bb_Reader_nameNode 55 = .ok (.invokevirtual 133, 3) := by decide +kernel
theorem dd_Reader_nameNode_58 : decode bb_Reader_nameNode 58 = .ok (.goto 21, 3) := by decide +kernel
theorem dd_Reader_nameNode_61 : decode bb_Reader_nameNode 61 = .ok (.aload_n 0, 1) := by decide +kernel
theorem dd_Reader_nameNode_62 : decode bb_Reader_nameNode 62 = .ok (.getfield 42, 3) := by decide +kernel
theorem dd_Reader_nameNode_65 : decode bb_Reader_nameNode 65 = .ok (.aload_n 0, 1) := by decide +kernel
theorem dd_Reader_nameNode_66 : decode bb_Reader_nameNode 66 = .ok (.getfield 57, 3) := by decide +kernel
theorem dd_Reader_nameNode_69 : decode bb_Reader_nameNode 69 = .ok (.ishr, 1) := by decide +kernel
theorem dd_Reader_nameNode_70 : decode bb_Reader_nameNode 70 = .ok (.iconst 1, 1) := by decide +kernel
theorem dd_Reader_nameNode_71 : decode bb_Reader_nameNode 71 = .ok (.iand, 1) := by decide +kernel
theorem dd_Reader_nameNode_72 : decode bb_Reader_nameNode 72 = .ok (.ifCond .ne 7, 3) := by decide +kernel
theorem dd_Reader_nameNode_75 : decode bb_Reader_nameNode 75 = .ok (.aload_n 0, 1) := by decide +kernel
theorem dd_Reader_nameNode_76 : decode bb_Reader_nameNode 76 = .ok (.invokevirtual 193, 3) := by decide +kernel
theorem dd_Reader_nameNode_79 : decode bb_Reader_nameNode 79 = .ok (.return_, 1) := by decide +kernel
set_option maxRecDepth 100000 in
set_option maxHeartbeats 4000000 in
theorem t_Reader_nameNode_79  (X : zX p s m args cd D cid B bb_Reader_nameNode 2 rr_Reader zT) (H : zH s meth B n0 none "nameNode") {nf : Nat}  {c : Zc} {res : Zc} (h : f_Reader_nameNode_79 nf  c = some res) : Zz p l e (zRm 3 64 0 0) s m args below meth cd (MQ below (zQv D cid B res n0 0) args s 0 0 (fun q => B ≤ q)) D cid B 2 0 0 c 79 [] [] := by
  unfold f_Reader_nameNode_79 at h
  obtain rfl := Option.some.inj h
  exact z_vret X H.1 H.2.1 H.2.2.1 dd_Reader_nameNode_79
set_option maxRecDepth 100000 in
set_option maxHeartbeats 4000000 in
theorem c_Reader_nameNode (l : Launch) {nf : Nat} {a0 : Nat} {a1 : Int32} {c : Zc} {res : Zc} (h : f_Reader_nameNode nf a0 a1 c = some res) : zM l yy_Reader_nameNode ww_Reader_nameNode 3 64 0 0 [.ref a0, .int a1] c (fun D cid B => zQv D cid B res c.length 0) := by
  refine z_met (cc := bb_Reader_nameNode) (maxL := 2) (ret := none) (by decide +kernel) rfl (Nat.le_of_ble_eq_true rfl) ?_
  intro p e s m args below meth cd D cid B X h1 h2 h3 h4
  have X : zX p s m args cd D cid B bb_Reader_nameNode 2 rr_Reader zT := X
  have H : zH s meth B c.length none "nameNode" := ⟨h1, h2, h4, h3⟩
  unfold f_Reader_nameNode at h
  show Zz p l e (zRm 3 64 0 0) s m args below meth cd _ D cid B 2 0 0 c 0 [(0, .ref a0), (1, .int a1)] []
  refine z_aload_n X dd_Reader_nameNode_0 rfl 0 rfl ?_
  refine z_aload_n X dd_Reader_nameNode_1 rfl 0 rfl ?_
  obtain ⟨v1, ev1, h⟩ := zb h
  refine z_get (j := 3) X dd_Reader_nameNode_2 kc_5 ki_5 (by decide) km_477 (zgr_v ev1) ?_
  refine z_iload_n X dd_Reader_nameNode_5 rfl 1 rfl ?_
  obtain ⟨v2, ev2, h⟩ := zb h
  refine z_iaload X dd_Reader_nameNode_6 rfl ev2 ?_
  obtain ⟨c3, ec3, h⟩ := zb h
  refine z_put (j := 16) X dd_Reader_nameNode_7 kc_5 ki_5 tt_Reader tk_Reader nn_Reader (by decide) km_490 rfl (tk_Reader 16 (by decide)) rfl rfl ec3 ?_
  refine z_aload_n X dd_Reader_nameNode_10 rfl 0 rfl ?_
  obtain ⟨v4, ev4, h⟩ := zb h
  refine z_get (j := 16) X dd_Reader_nameNode_11 kc_5 ki_5 (by decide) km_490 (zgi_v ev4) ?_
  refine z_iconst (v := (-1)) X dd_Reader_nameNode_14 (by decide) ?_
  refine z_icmp_ne (tgt := 39) X dd_Reader_nameNode_15 (by decide) (fun q5 => ?_) (fun q5 => ?_)
  · rw [if_neg q5] at h
    refine z_aload_n X dd_Reader_nameNode_39 rfl 0 rfl ?_
    obtain ⟨v6, ev6, h⟩ := zb h
    refine z_get (j := 12) X dd_Reader_nameNode_40 kc_5 ki_5 (by decide) km_486 (zgi_v ev6) ?_
    refine z_aload_n X dd_Reader_nameNode_43 rfl 0 rfl ?_
    obtain ⟨v7, ev7, h⟩ := zb h
    refine z_get (j := 16) X dd_Reader_nameNode_44 kc_5 ki_5 (by decide) km_490 (zgi_v ev7) ?_
    refine z_ishr X dd_Reader_nameNode_47 ?_
    refine z_iconst (v := 1) X dd_Reader_nameNode_48 (by decide) ?_
    refine z_iand X dd_Reader_nameNode_49 ?_
    refine z_if_eq (tgt := 61) X dd_Reader_nameNode_50 (by decide) (fun q8 => ?_) (fun q8 => ?_)
    · rw [if_pos q8] at h
      refine z_aload_n X dd_Reader_nameNode_61 rfl 0 rfl ?_
      obtain ⟨v9, ev9, h⟩ := zb h
      refine z_get (j := 11) X dd_Reader_nameNode_62 kc_5 ki_5 (by decide) km_485 (zgi_v ev9) ?_
      refine z_aload_n X dd_Reader_nameNode_65 rfl 0 rfl ?_
      obtain ⟨v10, ev10, h⟩ := zb h
      refine z_get (j := 16) X dd_Reader_nameNode_66 kc_5 ki_5 (by decide) km_490 (zgi_v ev10) ?_
      refine z_ishr X dd_Reader_nameNode_69 ?_
      refine z_iconst (v := 1) X dd_Reader_nameNode_70 (by decide) ?_
      refine z_iand X dd_Reader_nameNode_71 ?_
      refine z_if_ne (tgt := 79) X dd_Reader_nameNode_72 (by decide) (fun q11 => ?_) (fun q11 => ?_)
      · rw [if_neg q11] at h
        refine z_sub [] rfl ?_
        exact t_Reader_nameNode_79 X H h
      · rw [if_pos q11] at h
        refine z_aload_n X dd_Reader_nameNode_75 rfl 0 rfl ?_
        obtain ⟨w13, ew13, h⟩ := zb h
        obtain ⟨q12, eq12, h⟩ := zb h
        refine z_callVv X [] rfl dd_Reader_nameNode_76 (c_Reader_makeKnown l eq12) (cwV 0 X.1.2.2.2.2 (zg_V km_1026 km_1028 km_18 km_130 km_1029) rfl rfl rfl (by decide +kernel) ⟨Nat.le_of_ble_eq_true rfl, Nat.le_of_ble_eq_true rfl⟩) (zob_s ew13) kc_5 rfl (Nat.le_of_ble_eq_true rfl) ⟨Nat.le_of_ble_eq_true rfl, Nat.le_of_ble_eq_true rfl⟩ ?_
        refine z_sub [] rfl ?_
        exact t_Reader_nameNode_79 X H h
    · rw [if_neg q8] at h
      refine z_aload_n X dd_Reader_nameNode_53 rfl 0 rfl ?_
      refine z_iconst (v := 4) X dd_Reader_nameNode_54 (by decide) ?_
      obtain ⟨w15, ew15, h⟩ := zb h
      obtain ⟨q14, eq14, h⟩ := zb h
      refine z_callVv X [.int 4] rfl dd_Reader_nameNode_55 (c_Reader_fail l eq14) (cwV 1 X.1.2.2.2.2 (zg_V km_998 km_1000 km_11 km_130 km_1001) rfl rfl rfl (by decide +kernel) ⟨Nat.le_of_ble_eq_true rfl, Nat.le_of_ble_eq_true rfl⟩) (zob_s ew15) kc_5 rfl (Nat.le_of_ble_eq_true rfl) ⟨Nat.le_of_ble_eq_true rfl, Nat.le_of_ble_eq_true rfl⟩ ?_
      refine z_goto (tgt := 79) X dd_Reader_nameNode_58 (by decide) ?_
      refine z_sub [] rfl ?_
      exact t_Reader_nameNode_79 X H h
  · rw [if_pos q5] at h
    refine z_aload_n X dd_Reader_nameNode_18 rfl 0 rfl ?_
    refine z_aload_n X dd_Reader_nameNode_19 rfl 0 rfl ?_
    obtain ⟨v16, ev16, h⟩ := zb h
    refine z_get (j := 7) X dd_Reader_nameNode_20 kc_5 ki_5 (by decide) km_481 (zgi_v ev16) ?_
    obtain ⟨w18, ew18, h⟩ := zb h
    obtain ⟨q17, eq17, h⟩ := zb h
    refine z_callVv X [.int v16] rfl dd_Reader_nameNode_23 (c_Reader_tellNode l eq17) (cwV 1 X.1.2.2.2.2 (zg_V km_1018 km_1020 km_16 km_130 km_1021) rfl rfl rfl (by decide +kernel) ⟨Nat.le_of_ble_eq_true rfl, Nat.le_of_ble_eq_true rfl⟩) (zob_s ew18) kc_5 rfl (Nat.le_of_ble_eq_true rfl) ⟨Nat.le_of_ble_eq_true rfl, Nat.le_of_ble_eq_true rfl⟩ ?_
    refine z_aload_n X dd_Reader_nameNode_26 rfl 0 rfl ?_
    obtain ⟨v19, ev19, h⟩ := zb h
    refine z_get (j := 3) X dd_Reader_nameNode_27 kc_5 ki_5 (by decide) km_477 (zgr_v ev19) ?_
    refine z_iload_n X dd_Reader_nameNode_30 rfl 1 rfl ?_
    refine z_aload_n X dd_Reader_nameNode_31 rfl 0 rfl ?_
    obtain ⟨v20, ev20, h⟩ := zb h
    refine z_get (j := 16) X dd_Reader_nameNode_32 kc_5 ki_5 (by decide) km_490 (zgi_v ev20) ?_
    obtain ⟨c21, ec21, h⟩ := zb h
    refine z_iastore X dd_Reader_nameNode_35 rfl ec21 ?_
    refine z_goto (tgt := 79) X dd_Reader_nameNode_36 (by decide) ?_
    refine z_sub [] rfl ?_
    exact t_Reader_nameNode_79 X H h
theorem dd_Reader_closeNode_0 : decode bb_Reader_closeNode 0 = .ok (.aload_n 0, 1) := by decide +kernel
theorem dd_Reader_closeNode_1 : decode bb_Reader_closeNode 1 = .ok (.getfield 36, 3) := by decide +kernel
theorem dd_Reader_closeNode_4 : decode bb_Reader_closeNode 4 = .ok (.ifCond .eq 4, 3) := by decide +kernel
theorem dd_Reader_closeNode_7 : decode bb_Reader_closeNode 7 = .ok (.return_, 1) := by decide +kernel
theorem dd_Reader_closeNode_8 : decode bb_Reader_closeNode 8 = .ok (.aload_n 0, 1) := by decide +kernel
theorem dd_Reader_closeNode_9 : decode bb_Reader_closeNode 9 = .ok (.getfield 60, 3) := by decide +kernel
theorem dd_Reader_closeNode_12 : decode bb_Reader_closeNode 12 = .ok (.ifCond .eq 18, 3) := by decide +kernel
theorem dd_Reader_closeNode_15 : decode bb_Reader_closeNode 15 = .ok (.aload_n 0, 1) := by decide +kernel
theorem dd_Reader_closeNode_16 : decode bb_Reader_closeNode 16 = .ok (.getfield 69, 3) := by decide +kernel
theorem dd_Reader_closeNode_19 : decode bb_Reader_closeNode 19 = .ok (.aload_n 0, 1) := by decide +kernel
theorem dd_Reader_closeNode_20 : decode bb_Reader_closeNode 20 = .ok (.getfield 57, 3) := by decide +kernel
theorem dd_Reader_closeNode_23 : decode bb_Reader_closeNode 23 = .ok (.aload_n 0, 1) := by decide +kernel
theorem dd_Reader_closeNode_24 : decode bb_Reader_closeNode 24 = .ok (.getfield 60, 3) := by decide +kernel
theorem dd_Reader_closeNode_27 : decode bb_Reader_closeNode 27 = .ok (.invokevirtual 208, 3) := by decide +kernel
theorem dd_Reader_closeNode_30 : decode bb_Reader_closeNode 30 = .ok (.aload_n 0, 1) := by decide +kernel
theorem dd_Reader_closeNode_31 : decode bb_Reader_closeNode 31 = .ok (.getfield 54, 3) := by decide +kernel
theorem dd_Reader_closeNode_34 : decode bb_Reader_closeNode 34 = .ok (.iconst (-1), 1) := by decide +kernel
theorem dd_Reader_closeNode_35 : decode bb_Reader_closeNode 35 = .ok (.if_icmp .eq 18, 3) := by decide +kernel
theorem dd_Reader_closeNode_38 : decode bb_Reader_closeNode 38 = .ok (.aload_n 0, 1) := by decide +kernel
theorem dd_Reader_closeNode_39 : decode bb_Reader_closeNode 39 = .ok (.getfield 79, 3) := by decide +kernel
theorem dd_Reader_closeNode_42 : decode bb_Reader_closeNode 42 = .ok (.aload_n 0, 1) := by decide +kernel
theorem dd_Reader_closeNode_43 : decode bb_Reader_closeNode 43 = .ok (.getfield 54, 3) := by decide +kernel
theorem dd_Reader_closeNode_46 : decode bb_Reader_closeNode 46 = .ok (.aload_n 0, 1) := by decide +kernel
theorem dd_Reader_closeNode_47 : decode bb_Reader_closeNode 47 = .ok (.getfield 57, 3) := by decide +kernel
theorem dd_Reader_closeNode_50 : decode bb_Reader_closeNode 50 = .ok (.invokevirtual 211, 3) := by decide +kernel
theorem dd_Reader_closeNode_53 : decode bb_Reader_closeNode 53 = .ok (.aload_n 0, 1) := by decide +kernel
theorem dd_Reader_closeNode_54 : decode bb_Reader_closeNode 54 = .ok (.getfield 69, 3) := by decide +kernel
theorem dd_Reader_closeNode_57 : decode bb_Reader_closeNode 57 = .ok (.invokevirtual 216, 3) := by decide +kernel
theorem dd_Reader_closeNode_60 : decode bb_Reader_closeNode 60 = .ok (.aload_n 0, 1) := by decide +kernel
theorem dd_Reader_closeNode_61 : decode bb_Reader_closeNode 61 = .ok (.bipush 7, 2) := by decide +kernel
theorem dd_Reader_closeNode_63 : decode bb_Reader_closeNode 63 = .ok (.putfield 33, 3) := by decide +kernel
theorem dd_Reader_closeNode_66 : decode bb_Reader_closeNode 66 = .ok (.return_, 1) := by decide +kernel
set_option maxRecDepth 100000 in
set_option maxHeartbeats 4000000 in
theorem t_Reader_closeNode_53  (X : zX p s m args cd D cid B bb_Reader_closeNode 1 rr_Reader zT) (H : zH s meth B n0 none "closeNode") {nf : Nat} {x0 : Nat} {c : Zc} {res : Zc} (h : f_Reader_closeNode_53 nf x0 c = some res) : Zz p l e (zRm 1 22 0 0) s m args below meth cd (MQ below (zQv D cid B res n0 0) args s 0 0 (fun q => B ≤ q)) D cid B 1 0 0 c 53 [(0, .ref x0)] [] := by
  unfold f_Reader_closeNode_53 at h
  refine z_aload_n X dd_Reader_closeNode_53 rfl 0 rfl ?_
  obtain ⟨v7, ev7, h⟩ := zb h
  refine z_get (j := 4) X dd_Reader_closeNode_54 kc_5 ki_5 (by decide) km_478 (zgr_v ev7) ?_
  obtain ⟨w9, ew9, h⟩ := zb h
  obtain ⟨q8, eq8, h⟩ := zb h
  refine z_callVv X [] rfl dd_Reader_closeNode_57 (c_Text_endGroup l eq8) (cwV 0 X.1.2.2.2.2 (zg_V km_1042 km_829 km_830 km_128 km_831) rfl rfl rfl (by decide +kernel) ⟨Nat.le_of_ble_eq_true rfl, Nat.le_of_ble_eq_true rfl⟩) (zob_s ew9) kc_2 rfl (Nat.le_of_ble_eq_true rfl) ⟨Nat.le_of_ble_eq_true rfl, Nat.le_of_ble_eq_true rfl⟩ ?_
  refine z_aload_n X dd_Reader_closeNode_60 rfl 0 rfl ?_
  refine z_bipush (v := 7) X dd_Reader_closeNode_61 (by decide) ?_
  obtain ⟨c10, ec10, h⟩ := zb h
  refine z_put (j := 8) X dd_Reader_closeNode_63 kc_5 ki_5 tt_Reader tk_Reader nn_Reader (by decide) km_482 rfl (tk_Reader 8 (by decide)) rfl rfl ec10 ?_
  obtain rfl := Option.some.inj h
  exact z_vret X H.1 H.2.1 H.2.2.1 dd_Reader_closeNode_66
set_option maxRecDepth 100000 in
set_option maxHeartbeats 4000000 in
theorem t_Reader_closeNode_30  (X : zX p s m args cd D cid B bb_Reader_closeNode 1 rr_Reader zT) (H : zH s meth B n0 none "closeNode") {nf : Nat} {x0 : Nat} {c : Zc} {res : Zc} (h : f_Reader_closeNode_30 nf x0 c = some res) : Zz p l e (zRm 1 22 0 0) s m args below meth cd (MQ below (zQv D cid B res n0 0) args s 0 0 (fun q => B ≤ q)) D cid B 1 0 0 c 30 [(0, .ref x0)] [] := by
  unfold f_Reader_closeNode_30 at h
  refine z_aload_n X dd_Reader_closeNode_30 rfl 0 rfl ?_
  obtain ⟨v5, ev5, h⟩ := zb h
  refine z_get (j := 15) X dd_Reader_closeNode_31 kc_5 ki_5 (by decide) km_489 (zgi_v ev5) ?_
  refine z_iconst (v := (-1)) X dd_Reader_closeNode_34 (by decide) ?_
  refine z_icmp_eq (tgt := 53) X dd_Reader_closeNode_35 (by decide) (fun q6 => ?_) (fun q6 => ?_)
  · rw [if_pos q6] at h
    exact t_Reader_closeNode_53 X H h
  · rw [if_neg q6] at h
    refine z_aload_n X dd_Reader_closeNode_38 rfl 0 rfl ?_
    obtain ⟨v11, ev11, h⟩ := zb h
    refine z_get (j := 5) X dd_Reader_closeNode_39 kc_5 ki_5 (by decide) km_479 (zgr_v ev11) ?_
    refine z_aload_n X dd_Reader_closeNode_42 rfl 0 rfl ?_
    obtain ⟨v12, ev12, h⟩ := zb h
    refine z_get (j := 15) X dd_Reader_closeNode_43 kc_5 ki_5 (by decide) km_489 (zgi_v ev12) ?_
    refine z_aload_n X dd_Reader_closeNode_46 rfl 0 rfl ?_
    obtain ⟨v13, ev13, h⟩ := zb h
    refine z_get (j := 16) X dd_Reader_closeNode_47 kc_5 ki_5 (by decide) km_490 (zgi_v ev13) ?_
    obtain ⟨w15, ew15, h⟩ := zb h
    obtain ⟨q14, eq14, h⟩ := zb h
    refine z_callVv X [.int v12, .int v13] rfl dd_Reader_closeNode_50 (c_Way_join l eq14) (cwV 2 X.1.2.2.2.2 (zg_V km_1038 km_1039 km_1040 km_129 km_1041) rfl rfl rfl (by decide +kernel) ⟨Nat.le_of_ble_eq_true rfl, Nat.le_of_ble_eq_true rfl⟩) (zob_s ew15) kc_1 rfl (Nat.le_of_ble_eq_true rfl) ⟨Nat.le_of_ble_eq_true rfl, Nat.le_of_ble_eq_true rfl⟩ ?_
    exact t_Reader_closeNode_53 X H h
set_option maxRecDepth 100000 in
set_option maxHeartbeats 4000000 in
theorem c_Reader_closeNode (l : Launch) {nf : Nat} {a0 : Nat} {c : Zc} {res : Zc} (h : f_Reader_closeNode nf a0 c = some res) : zM l yy_Reader_closeNode ww_Reader_closeNode 1 22 0 0 [.ref a0] c (fun D cid B => zQv D cid B res c.length 0) := by
  refine z_met (cc := bb_Reader_closeNode) (maxL := 1) (ret := none) (by decide +kernel) rfl (Nat.le_of_ble_eq_true rfl) ?_
  intro p e s m args below meth cd D cid B X h1 h2 h3 h4
  have X : zX p s m args cd D cid B bb_Reader_closeNode 1 rr_Reader zT := X
  have H : zH s meth B c.length none "closeNode" := ⟨h1, h2, h4, h3⟩
  unfold f_Reader_closeNode at h
  show Zz p l e (zRm 1 22 0 0) s m args below meth cd _ D cid B 1 0 0 c 0 [(0, .ref a0)] []
  refine z_aload_n X dd_Reader_closeNode_0 rfl 0 rfl ?_
  obtain ⟨v1, ev1, h⟩ := zb h
  refine z_get (j := 9) X dd_Reader_closeNode_1 kc_5 ki_5 (by decide) km_483 (zgi_v ev1) ?_
  refine z_if_eq (tgt := 8) X dd_Reader_closeNode_4 (by decide) (fun q2 => ?_) (fun q2 => ?_)
  · rw [if_pos q2] at h
    refine z_aload_n X dd_Reader_closeNode_8 rfl 0 rfl ?_
    obtain ⟨v3, ev3, h⟩ := zb h
    refine z_get (j := 17) X dd_Reader_closeNode_9 kc_5 ki_5 (by decide) km_491 (zgi_v ev3) ?_
    refine z_if_eq (tgt := 30) X dd_Reader_closeNode_12 (by decide) (fun q4 => ?_) (fun q4 => ?_)
    · rw [if_pos q4] at h
      exact t_Reader_closeNode_30 X H h
    · rw [if_neg q4] at h
      refine z_aload_n X dd_Reader_closeNode_15 rfl 0 rfl ?_
      obtain ⟨v16, ev16, h⟩ := zb h
      refine z_get (j := 4) X dd_Reader_closeNode_16 kc_5 ki_5 (by decide) km_478 (zgr_v ev16) ?_
      refine z_aload_n X dd_Reader_closeNode_19 rfl 0 rfl ?_
      obtain ⟨v17, ev17, h⟩ := zb h
      refine z_get (j := 16) X dd_Reader_closeNode_20 kc_5 ki_5 (by decide) km_490 (zgi_v ev17) ?_
      refine z_aload_n X dd_Reader_closeNode_23 rfl 0 rfl ?_
      obtain ⟨v18, ev18, h⟩ := zb h
      refine z_get (j := 17) X dd_Reader_closeNode_24 kc_5 ki_5 (by decide) km_491 (zgi_v ev18) ?_
      obtain ⟨w20, ew20, h⟩ := zb h
      obtain ⟨q19, eq19, h⟩ := zb h
      refine z_callVv X [.int v17, .int v18] rfl dd_Reader_closeNode_27 (c_Text_addDemand l eq19) (cwV 2 X.1.2.2.2.2 (zg_V km_1034 km_1035 km_1036 km_128 km_1037) rfl rfl rfl (by decide +kernel) ⟨Nat.le_of_ble_eq_true rfl, Nat.le_of_ble_eq_true rfl⟩) (zob_s ew20) kc_2 rfl (Nat.le_of_ble_eq_true rfl) ⟨Nat.le_of_ble_eq_true rfl, Nat.le_of_ble_eq_true rfl⟩ ?_
      exact t_Reader_closeNode_30 X H h
  · rw [if_neg q2] at h
    obtain rfl := Option.some.inj h
    exact z_vret X H.1 H.2.1 H.2.2.1 dd_Reader_closeNode_7
theorem dd_Reader_takeInNode_0 : decode bb_Reader_takeInNode 0 = .ok (.aload_n 0, 1) := by decide +kernel
theorem dd_Reader_takeInNode_1 : decode bb_Reader_takeInNode 1 = .ok (.getfield 33, 3) := by decide +kernel
theorem dd_Reader_takeInNode_4 : decode bb_Reader_takeInNode 4 = .ok (.iconst 3, 1) := by decide +kernel
theorem dd_Reader_takeInNode_5 : decode bb_Reader_takeInNode 5 = .ok (.if_icmp .ne 30, 3) := by decide +kernel
theorem dd_Reader_takeInNode_8 : decode bb_Reader_takeInNode 8 = .ok (.iload_n 1, 1) := by decide +kernel
theorem dd_Reader_takeInNode_9 : decode bb_Reader_takeInNode 9 = .ok (.bipush 40, 2) := by decide +kernel
theorem dd_Reader_takeInNode_11 : decode bb_Reader_takeInNode 11 = .ok (.if_icmp .ne 24, 3) := by decide +kernel
theorem dd_Reader_takeInNode_14 : decode bb_Reader_takeInNode 14 = .ok (.aload_n 0, 1) := by decide +kernel
theorem dd_Reader_takeInNode_15 : decode bb_Reader_takeInNode 15 = .ok (.aload_n 0, 1) := by decide +kernel
theorem dd_Reader_takeInNode_16 : decode bb_Reader_takeInNode 16 = .ok (.getfield 30, 3) := by decide +kernel
theorem dd_Reader_takeInNode_19 : decode bb_Reader_takeInNode 19 = .ok (.putfield 51, 3) := by decide +kernel
theorem dd_Reader_takeInNode_22 : decode bb_Reader_takeInNode 22 = .ok (.aload_n 0, 1) := by decide +kernel
theorem dd_Reader_takeInNode_23 : decode bb_Reader_takeInNode 23 = .ok (.iconst 0, 1) := by decide +kernel
theorem dd_Reader_takeInNode_24 : decode bb_Reader_takeInNode 24 = .ok (.putfield 60, 3) := by decide +kernel
theorem dd_Reader_takeInNode_27 : decode bb_Reader_takeInNode 27 = .ok (.aload_n 0, 1) := by decide +kernel
theorem dd_Reader_takeInNode_28 : decode bb_Reader_takeInNode 28 = .ok (.iconst 4, 1) := by decide +kernel
theorem dd_Reader_takeInNode_29 : decode bb_Reader_takeInNode 29 = .ok (.putfield 33, 3) := by decide +kernel
theorem dd_Reader_takeInNode_32 : decode bb_Reader_takeInNode 32 = .ok (.goto 153, 3) := by decide +kernel
theorem dd_Reader_takeInNode_35 : decode bb_Reader_takeInNode 35 = .ok (.aload_n 0, 1) := by decide +kernel
theorem dd_Reader_takeInNode_36 : decode bb_Reader_takeInNode 36 = .ok (.getfield 33, 3) := by decide +kernel
theorem dd_Reader_takeInNode_39 : decode bb_Reader_takeInNode 39 = .ok (.iconst 4, 1) := by decide +kernel
theorem dd_Reader_takeInNode_40 : decode bb_Reader_takeInNode 40 = .ok (.if_icmp .ne 32, 3) := by decide +kernel
theorem dd_Reader_takeInNode_43 : decode bb_Reader_takeInNode 43 = .ok (.iload_n 1, 1) := by decide +kernel
theorem dd_Reader_takeInNode_44 : decode bb_Reader_takeInNode 44 = .ok (.iconst 2, 1) := by decide +kernel
theorem dd_Reader_takeInNode_45 : decode bb_Reader_takeInNode 45 = .ok (.if_icmp .ne 27, 3) := by decide +kernel
theorem dd_Reader_takeInNode_48 : decode bb_Reader_takeInNode 48 = .ok (.aload_n 0, 1) := by decide +kernel
theorem dd_Reader_takeInNode_49 : decode bb_Reader_takeInNode 49 = .ok (.aload_n 0, 1) := by decide +kernel
theorem dd_Reader_takeInNode_50 : decode bb_Reader_takeInNode 50 = .ok (.getfield 18, 3) := by decide +kernel
theorem dd_Reader_takeInNode_53 : decode bb_Reader_takeInNode 53 = .ok (.getfield 178, 3) := by decide +kernel
theorem dd_Reader_takeInNode_56 : decode bb_Reader_takeInNode 56 = .ok (.aload_n 0, 1) := by decide +kernel
theorem dd_Reader_takeInNode_57 : decode bb_Reader_takeInNode 57 = .ok (.getfield 30, 3) := by decide +kernel
theorem dd_Reader_takeInNode_60 : decode bb_Reader_takeInNode 60 = .ok (.iaload, 1) := by decide +kernel
theorem dd_Reader_takeInNode_61 : decode bb_Reader_takeInNode 61 = .ok (.invokevirtual 184, 3) := by decide +kernel
theorem dd_Reader_takeInNode_64 : decode bb_Reader_takeInNode 64 = .ok (.aload_n 0, 1) := by decide +kernel
theorem dd_Reader_takeInNode_65 : decode bb_Reader_takeInNode 65 = .ok (.iconst 5, 1) := by decide +kernel
theorem dd_Reader_takeInNode_66 : decode bb_Reader_takeInNode 66 = .ok (.putfield 33, 3) := by decide +kernel
theorem dd_Reader_takeInNode_69 : decode bb_Reader_takeInNode 69 = .ok (.goto 116, 3) := by decide +kernel
theorem dd_Reader_takeInNode_72 : decode bb_Reader_takeInNode 72 = .ok (.aload_n 0, 1) := by decide +kernel
theorem dd_Reader_takeInNode_73 : decode bb_Reader_takeInNode 73 = .ok (.getfield 33, 3) := by decide +kernel
theorem dd_Reader_takeInNode_76 : decode bb_Reader_takeInNode 76 = .ok (.bipush 6, 2) := by decide +kernel
theorem dd_Reader_takeInNode_78 : decode bb_Reader_takeInNode 78 = .ok (.if_icmp .ne 39, 3) := by decide +kernel
theorem dd_Reader_takeInNode_81 : decode bb_Reader_takeInNode 81 = .ok (.iload_n 1, 1) := by decide +kernel
theorem dd_Reader_takeInNode_82 : decode bb_Reader_takeInNode 82 = .ok (.iconst 3, 1) := by decide +kernel
theorem dd_Reader_takeInNode_83 : decode bb_Reader_takeInNode 83 = .ok (.if_icmp .ne 34, 3) := by decide +kernel
theorem dd_Reader_takeInNode_86 : decode bb_Reader_takeInNode 86 = .ok (.aload_n 0, 1) := by decide +kernel
theorem dd_Reader_takeInNode_87 : decode bb_Reader_takeInNode 87 = .ok (.dup, 1) := by decide +kernel
theorem dd_Reader_takeInNode_88 : decode bb_Reader_takeInNode 88 = .ok (.getfield 60, 3) := by decide +kernel
theorem dd_Reader_takeInNode_91 : decode bb_Reader_takeInNode 91 = .ok (.iconst 1, 1) := by decide +kernel
theorem dd_Reader_takeInNode_92 : decode bb_Reader_takeInNode 92 = .ok (.aload_n 0, 1) := by decide +kernel
theorem dd_Reader_takeInNode_93 : decode bb_Reader_takeInNode 93 = .ok (.getfield 18, 3) := by decide +kernel
theorem dd_Reader_takeInNode_96 : decode bb_Reader_takeInNode 96 = .ok (.getfield 178, 3) := by decide +kernel
theorem dd_Reader_takeInNode_99 : decode bb_Reader_takeInNode 99 = .ok (.aload_n 0, 1) := by decide +kernel
theorem dd_Reader_takeInNode_100 : decode bb_Reader_takeInNode 100 = .ok (.getfield 30, 3) := by decide +kernel
theorem dd_Reader_takeInNode_103 : decode bb_Reader_takeInNode 103 = .ok (.iaload, 1) := by decide +kernel
theorem dd_Reader_takeInNode_104 : decode bb_Reader_takeInNode 104 = .ok (.ishl, 1) := by decide +kernel
theorem dd_Reader_takeInNode_105 : decode bb_Reader_takeInNode 105 = .ok (.ior, 1) := by decide +kernel
theorem dd_Reader_takeInNode_106 : decode bb_Reader_takeInNode 106 = .ok (.putfield 60, 3) := by decide +kernel
theorem dd_Reader_takeInNode_109 : decode bb_Reader_takeInNode 109 = .ok (.aload_n 0, 1) := by decide +kernel
theorem dd_Reader_takeInNode_110 : decode bb_Reader_takeInNode 110 = .ok (.iconst 5, 1) := by decide +kernel
theorem dd_Reader_takeInNode_111 : decode bb_Reader_takeInNode 111 = .ok (.putfield 33, 3) := by decide +kernel
theorem dd_Reader_takeInNode_114 : decode bb_Reader_takeInNode 114 = .ok (.goto 71, 3) := by decide +kernel
theorem dd_Reader_takeInNode_117 : decode bb_Reader_takeInNode 117 = .ok (.aload_n 0, 1) := by decide +kernel
theorem dd_Reader_takeInNode_118 : decode bb_Reader_takeInNode 118 = .ok (.getfield 33, 3) := by decide +kernel
theorem dd_Reader_takeInNode_121 : decode bb_Reader_takeInNode 121 = .ok (.iconst 4, 1) := by decide +kernel
theorem dd_Reader_takeInNode_122 : decode bb_Reader_takeInNode 122 = .ok (.if_icmp .eq 11, 3) := by decide +kernel
theorem dd_Reader_takeInNode_125 : decode bb_Reader_takeInNode 125 = .ok (.aload_n 0, 1) := by decide +kernel
theorem dd_Reader_takeInNode_126 : decode bb_Reader_takeInNode 126 = .ok (.getfield 33, 3) := by decide +kernel
theorem dd_Reader_takeInNode_129 : decode bb_Reader_takeInNode 129 = .ok (.iconst 5, 1) := by decide +kernel
theorem dd_Reader_takeInNode_130 : decode bb_Reader_takeInNode 130 = .ok (.if_icmp .ne 50, 3) := by decide +kernel
theorem dd_Reader_takeInNode_133 : decode bb_Reader_takeInNode 133 = .ok (.iload_n 1, 1) := by decide +kernel
theorem dd_Reader_takeInNode_134 : decode bb_Reader_takeInNode 134 = .ok (.bipush 58, 2) := by decide +kernel
theorem dd_Reader_takeInNode_136 : decode bb_Reader_takeInNode 136 = .ok (.if_icmp .eq 9, 3) := by decide +kernel
theorem dd_Reader_takeInNode_139 : decode bb_Reader_takeInNode 139 = .ok (.iload_n 1, 1) := by decide +kernel
theorem dd_Reader_takeInNode_140 : decode bb_Reader_takeInNode 140 = .ok (.bipush 41, 2) := by decide +kernel
theorem dd_Reader_takeInNode_142 : decode bb_Reader_takeInNode 142 = .ok (.if_icmp .ne 38, 3) := by decide +kernel
theorem dd_Reader_takeInNode_145 : decode bb_Reader_takeInNode 145 = .ok (.aload_n 0, 1) := by decide +kernel
theorem dd_Reader_takeInNode_146 : decode bb_Reader_takeInNode 146 = .ok (.getfield 33, 3) := by decide +kernel
theorem dd_Reader_takeInNode_149 : decode bb_Reader_takeInNode 149 = .ok (.iconst 4, 1) := by decide +kernel
theorem dd_Reader_takeInNode_150 : decode bb_Reader_takeInNode 150 = .ok (.if_icmp .ne 11, 3) := by decide +kernel
theorem dd_Reader_takeInNode_153 : decode bb_Reader_takeInNode 153 = .ok (.aload_n 0, 1) := by decide +kernel
theorem dd_Reader_takeInNode_154 : decode bb_Reader_takeInNode 154 = .ok (.aload_n 0, 1) := by decide +kernel
theorem dd_Reader_takeInNode_155 : decode bb_Reader_takeInNode 155 = .ok (.getfield 51, 3) := by decide +kernel
theorem dd_Reader_takeInNode_158 : decode bb_Reader_takeInNode 158 = .ok (.invokevirtual 187, 3) := by decide +kernel
theorem dd_Reader_takeInNode_161 : decode bb_Reader_takeInNode 161 = .ok (.aload_n 0, 1) := by decide +kernel
theorem dd_Reader_takeInNode_162 : decode bb_Reader_takeInNode 162 = .ok (.bipush 6, 2) := by decide +kernel
theorem dd_Reader_takeInNode_164 : decode bb_Reader_takeInNode 164 = .ok (.putfield 33, 3) := by decide +kernel
theorem dd_Reader_takeInNode_167 : decode bb_Reader_takeInNode 167 = .ok (.iload_n 1, 1) := by decide +kernel
theorem dd_Reader_takeInNode_168 : decode bb_Reader_takeInNode 168 = .ok (.bipush 41, 2) := by decide +kernel
theorem dd_Reader_takeInNode_170 : decode bb_Reader_takeInNode 170 = .ok (.if_icmp .ne 15, 3) := by decide +kernel
theorem dd_Reader_takeInNode_173 : decode bb_Reader_takeInNode 173 = .ok (.aload_n 0, 1) := by decide +kernel
theorem dd_Reader_takeInNode_174 : decode bb_Reader_takeInNode 174 = .ok (.invokevirtual 190, 3) := by decide +kernel
theorem dd_Reader_takeInNode_177 : decode bb_Reader_takeInNode 177 = .ok (.goto 8, 3) := by decide +kernel
theorem dd_Reader_takeInNode_180 : decode bb_Reader_takeInNode 180 = .ok (.aload_n 0, 1) := by decide +kernel
theorem dd_Reader_takeInNode_181 : decode bb_Reader_takeInNode 181 = .ok (.iconst 2, 1) := by decide +kernel
theorem dd_Reader_takeInNode_182 : decode bb_Reader_takeInNode 182 = .ok (.invokevirtual 133, 3) := by decide +kernel
theorem dd_Reader_takeInNode_185 : decode bb_Reader_takeInNode 185 = .ok (.return_, 1) := by decide +kernel
set_option maxRecDepth 100000 in
set_option maxHeartbeats 4000000 in
theorem t_Reader_takeInNode_185  (X : zX p s m args cd D cid B bb_Reader_takeInNode 2 rr_Reader zT) (H : zH s meth B n0 none "takeInNode") {nf : Nat}  {c : Zc} {res : Zc} (h : f_Reader_takeInNode_185 nf  c = some res) : Zz p l e (zRm 4 85 0 0) s m args below meth cd (MQ below (zQv D cid B res n0 0) args s 0 0 (fun q => B ≤ q)) D cid B 2 0 0 c 185 [] [] := by
  unfold f_Reader_takeInNode_185 at h
  obtain rfl := Option.some.inj h
  exact z_vret X H.1 H.2.1 H.2.2.1 dd_Reader_takeInNode_185
set_option maxRecDepth 100000 in
set_option maxHeartbeats 4000000 in
theorem t_Reader_takeInNode_161  (X : zX p s m args cd D cid B bb_Reader_takeInNode 2 rr_Reader zT) (H : zH s meth B n0 none "takeInNode") {nf : Nat} {x0 : Nat} {x1 : Int32} {c : Zc} {res : Zc} (h : f_Reader_takeInNode_161 nf x0 x1 c = some res) : Zz p l e (zRm 4 85 0 0) s m args below meth cd (MQ below (zQv D cid B res n0 0) args s 0 0 (fun q => B ≤ q)) D cid B 2 0 0 c 161 [(0, .ref x0), (1, .int x1)] [] := by
  unfold f_Reader_takeInNode_161 at h
  refine z_aload_n X dd_Reader_takeInNode_161 rfl 0 rfl ?_
  refine z_bipush (v := 6) X dd_Reader_takeInNode_162 (by decide) ?_
  obtain ⟨c12, ec12, h⟩ := zb h
  refine z_put (j := 8) X dd_Reader_takeInNode_164 kc_5 ki_5 tt_Reader tk_Reader nn_Reader (by decide) km_482 rfl (tk_Reader 8 (by decide)) rfl rfl ec12 ?_
  refine z_iload_n X dd_Reader_takeInNode_167 rfl 1 rfl ?_
  refine z_bipush (v := 41) X dd_Reader_takeInNode_168 (by decide) ?_
  refine z_icmp_ne (tgt := 185) X dd_Reader_takeInNode_170 (by decide) (fun q13 => ?_) (fun q13 => ?_)
  · rw [if_neg q13] at h
    refine z_sub [] rfl ?_
    exact t_Reader_takeInNode_185 X H h
  · rw [if_pos q13] at h
    refine z_aload_n X dd_Reader_takeInNode_173 rfl 0 rfl ?_
    obtain ⟨w15, ew15, h⟩ := zb h
    obtain ⟨q14, eq14, h⟩ := zb h
    refine z_callVv X [] rfl dd_Reader_takeInNode_174 (c_Reader_closeNode l eq14) (cwV 0 X.1.2.2.2.2 (zg_V km_1030 km_1032 km_19 km_130 km_1033) rfl rfl rfl (by decide +kernel) ⟨Nat.le_of_ble_eq_true rfl, Nat.le_of_ble_eq_true rfl⟩) (zob_s ew15) kc_5 rfl (Nat.le_of_ble_eq_true rfl) ⟨Nat.le_of_ble_eq_true rfl, Nat.le_of_ble_eq_true rfl⟩ ?_
    refine z_goto (tgt := 185) X dd_Reader_takeInNode_177 (by decide) ?_
    refine z_sub [] rfl ?_
    exact t_Reader_takeInNode_185 X H h
set_option maxRecDepth 100000 in
set_option maxHeartbeats 4000000 in
theorem t_Reader_takeInNode_145  (X : zX p s m args cd D cid B bb_Reader_takeInNode 2 rr_Reader zT) (H : zH s meth B n0 none "takeInNode") {nf : Nat} {x0 : Nat} {x1 : Int32} {c : Zc} {res : Zc} (h : f_Reader_takeInNode_145 nf x0 x1 c = some res) : Zz p l e (zRm 4 85 0 0) s m args below meth cd (MQ below (zQv D cid B res n0 0) args s 0 0 (fun q => B ≤ q)) D cid B 2 0 0 c 145 [(0, .ref x0), (1, .int x1)] [] := by
  unfold f_Reader_takeInNode_145 at h
  refine z_aload_n X dd_Reader_takeInNode_145 rfl 0 rfl ?_
  obtain ⟨v10, ev10, h⟩ := zb h
  refine z_get (j := 8) X dd_Reader_takeInNode_146 kc_5 ki_5 (by decide) km_482 (zgi_v ev10) ?_
  refine z_iconst (v := 4) X dd_Reader_takeInNode_149 (by decide) ?_
  refine z_icmp_ne (tgt := 161) X dd_Reader_takeInNode_150 (by decide) (fun q11 => ?_) (fun q11 => ?_)
  · rw [if_neg q11] at h
    exact t_Reader_takeInNode_161 X H h
  · rw [if_pos q11] at h
    refine z_aload_n X dd_Reader_takeInNode_153 rfl 0 rfl ?_
    refine z_aload_n X dd_Reader_takeInNode_154 rfl 0 rfl ?_
    obtain ⟨v16, ev16, h⟩ := zb h
    refine z_get (j := 14) X dd_Reader_takeInNode_155 kc_5 ki_5 (by decide) km_488 (zgi_v ev16) ?_
    obtain ⟨w18, ew18, h⟩ := zb h
    obtain ⟨q17, eq17, h⟩ := zb h
    refine z_callVv X [.int v16] rfl dd_Reader_takeInNode_158 (c_Reader_tellNode l eq17) (cwV 1 X.1.2.2.2.2 (zg_V km_1018 km_1020 km_16 km_130 km_1021) rfl rfl rfl (by decide +kernel) ⟨Nat.le_of_ble_eq_true rfl, Nat.le_of_ble_eq_true rfl⟩) (zob_s ew18) kc_5 rfl (Nat.le_of_ble_eq_true rfl) ⟨Nat.le_of_ble_eq_true rfl, Nat.le_of_ble_eq_true rfl⟩ ?_
    exact t_Reader_takeInNode_161 X H h
set_option maxRecDepth 100000 in
set_option maxHeartbeats 4000000 in
theorem t_Reader_takeInNode_180  (X : zX p s m args cd D cid B bb_Reader_takeInNode 2 rr_Reader zT) (H : zH s meth B n0 none "takeInNode") {nf : Nat} {x0 : Nat} {c : Zc} {res : Zc} (h : f_Reader_takeInNode_180 nf x0 c = some res) : Zz p l e (zRm 4 85 0 0) s m args below meth cd (MQ below (zQv D cid B res n0 0) args s 0 0 (fun q => B ≤ q)) D cid B 2 0 0 c 180 [(0, .ref x0)] [] := by
  unfold f_Reader_takeInNode_180 at h
  refine z_aload_n X dd_Reader_takeInNode_180 rfl 0 rfl ?_
  refine z_iconst (v := 2) X dd_Reader_takeInNode_181 (by decide) ?_
  obtain ⟨w21, ew21, h⟩ := zb h
  obtain ⟨q20, eq20, h⟩ := zb h
  refine z_callVv X [.int 2] rfl dd_Reader_takeInNode_182 (c_Reader_fail l eq20) (cwV 1 X.1.2.2.2.2 (zg_V km_998 km_1000 km_11 km_130 km_1001) rfl rfl rfl (by decide +kernel) ⟨Nat.le_of_ble_eq_true rfl, Nat.le_of_ble_eq_true rfl⟩) (zob_s ew21) kc_5 rfl (Nat.le_of_ble_eq_true rfl) ⟨Nat.le_of_ble_eq_true rfl, Nat.le_of_ble_eq_true rfl⟩ ?_
  refine z_sub [] rfl ?_
  exact t_Reader_takeInNode_185 X H h
set_option maxRecDepth 100000 in
set_option maxHeartbeats 4000000 in
theorem t_Reader_takeInNode_133  (X : zX p s m args cd D cid B bb_Reader_takeInNode 2 rr_Reader zT) (H : zH s meth B n0 none "takeInNode") {nf : Nat} {x0 : Nat} {x1 : Int32} {c : Zc} {res : Zc} (h : f_Reader_takeInNode_133 nf x0 x1 c = some res) : Zz p l e (zRm 4 85 0 0) s m args below meth cd (MQ below (zQv D cid B res n0 0) args s 0 0 (fun q => B ≤ q)) D cid B 2 0 0 c 133 [(0, .ref x0), (1, .int x1)] [] := by
  unfold f_Reader_takeInNode_133 at h
  refine z_iload_n X dd_Reader_takeInNode_133 rfl 1 rfl ?_
  refine z_bipush (v := 58) X dd_Reader_takeInNode_134 (by decide) ?_
  refine z_icmp_eq (tgt := 145) X dd_Reader_takeInNode_136 (by decide) (fun q9 => ?_) (fun q9 => ?_)
  · rw [if_pos q9] at h
    exact t_Reader_takeInNode_145 X H h
  · rw [if_neg q9] at h
    refine z_iload_n X dd_Reader_takeInNode_139 rfl 1 rfl ?_
    refine z_bipush (v := 41) X dd_Reader_takeInNode_140 (by decide) ?_
    refine z_icmp_ne (tgt := 180) X dd_Reader_takeInNode_142 (by decide) (fun q19 => ?_) (fun q19 => ?_)
    · rw [if_neg q19] at h
      refine z_sub [0] rfl ?_
      exact t_Reader_takeInNode_180 X H h
    · rw [if_pos q19] at h
      exact t_Reader_takeInNode_145 X H h
set_option maxRecDepth 100000 in
set_option maxHeartbeats 4000000 in
theorem t_Reader_takeInNode_117  (X : zX p s m args cd D cid B bb_Reader_takeInNode 2 rr_Reader zT) (H : zH s meth B n0 none "takeInNode") {nf : Nat} {x0 : Nat} {x1 : Int32} {c : Zc} {res : Zc} (h : f_Reader_takeInNode_117 nf x0 x1 c = some res) : Zz p l e (zRm 4 85 0 0) s m args below meth cd (MQ below (zQv D cid B res n0 0) args s 0 0 (fun q => B ≤ q)) D cid B 2 0 0 c 117 [(0, .ref x0), (1, .int x1)] [] := by
  unfold f_Reader_takeInNode_117 at h
  refine z_aload_n X dd_Reader_takeInNode_117 rfl 0 rfl ?_
  obtain ⟨v7, ev7, h⟩ := zb h
  refine z_get (j := 8) X dd_Reader_takeInNode_118 kc_5 ki_5 (by decide) km_482 (zgi_v ev7) ?_
  refine z_iconst (v := 4) X dd_Reader_takeInNode_121 (by decide) ?_
  refine z_icmp_eq (tgt := 133) X dd_Reader_takeInNode_122 (by decide) (fun q8 => ?_) (fun q8 => ?_)
  · rw [if_pos q8] at h
    exact t_Reader_takeInNode_133 X H h
  · rw [if_neg q8] at h
    refine z_aload_n X dd_Reader_takeInNode_125 rfl 0 rfl ?_
    obtain ⟨v22, ev22, h⟩ := zb h
    refine z_get (j := 8) X dd_Reader_takeInNode_126 kc_5 ki_5 (by decide) km_482 (zgi_v ev22) ?_
    refine z_iconst (v := 5) X dd_Reader_takeInNode_129 (by decide) ?_
    refine z_icmp_ne (tgt := 180) X dd_Reader_takeInNode_130 (by decide) (fun q23 => ?_) (fun q23 => ?_)
    · rw [if_neg q23] at h
      refine z_sub [0] rfl ?_
      exact t_Reader_takeInNode_180 X H h
    · rw [if_pos q23] at h
      exact t_Reader_takeInNode_133 X H h
set_option maxRecDepth 100000 in
set_option maxHeartbeats 4000000 in
theorem t_Reader_takeInNode_72  (X : zX p s m args cd D cid B bb_Reader_takeInNode 2 rr_Reader zT) (H : zH s meth B n0 none "takeInNode") {nf : Nat} {x0 : Nat} {x1 : Int32} {c : Zc} {res : Zc} (h : f_Reader_takeInNode_72 nf x0 x1 c = some res) : Zz p l e (zRm 4 85 0 0) s m args below meth cd (MQ below (zQv D cid B res n0 0) args s 0 0 (fun q => B ≤ q)) D cid B 2 0 0 c 72 [(0, .ref x0), (1, .int x1)] [] := by
  unfold f_Reader_takeInNode_72 at h
  refine z_aload_n X dd_Reader_takeInNode_72 rfl 0 rfl ?_
  obtain ⟨v5, ev5, h⟩ := zb h
  refine z_get (j := 8) X dd_Reader_takeInNode_73 kc_5 ki_5 (by decide) km_482 (zgi_v ev5) ?_
  refine z_bipush (v := 6) X dd_Reader_takeInNode_76 (by decide) ?_
  refine z_icmp_ne (tgt := 117) X dd_Reader_takeInNode_78 (by decide) (fun q6 => ?_) (fun q6 => ?_)
  · rw [if_neg q6] at h
    exact t_Reader_takeInNode_117 X H h
  · rw [if_pos q6] at h
    refine z_iload_n X dd_Reader_takeInNode_81 rfl 1 rfl ?_
    refine z_iconst (v := 3) X dd_Reader_takeInNode_82 (by decide) ?_
    refine z_icmp_ne (tgt := 117) X dd_Reader_takeInNode_83 (by decide) (fun q24 => ?_) (fun q24 => ?_)
    · rw [if_neg q24] at h
      exact t_Reader_takeInNode_117 X H h
    · rw [if_pos q24] at h
      refine z_aload_n X dd_Reader_takeInNode_86 rfl 0 rfl ?_
      refine z_dup X dd_Reader_takeInNode_87 rfl ?_
      obtain ⟨v25, ev25, h⟩ := zb h
      refine z_get (j := 17) X dd_Reader_takeInNode_88 kc_5 ki_5 (by decide) km_491 (zgi_v ev25) ?_
      refine z_iconst (v := 1) X dd_Reader_takeInNode_91 (by decide) ?_
      refine z_aload_n X dd_Reader_takeInNode_92 rfl 0 rfl ?_
      obtain ⟨v26, ev26, h⟩ := zb h
      refine z_get (j := 1) X dd_Reader_takeInNode_93 kc_5 ki_5 (by decide) km_475 (zgr_v ev26) ?_
      obtain ⟨v27, ev27, h⟩ := zb h
      refine z_get (j := 1) X dd_Reader_takeInNode_96 kc_3 ki_3 (by decide) km_419 (zgr_v ev27) ?_
      refine z_aload_n X dd_Reader_takeInNode_99 rfl 0 rfl ?_
      obtain ⟨v28, ev28, h⟩ := zb h
      refine z_get (j := 7) X dd_Reader_takeInNode_100 kc_5 ki_5 (by decide) km_481 (zgi_v ev28) ?_
      obtain ⟨v29, ev29, h⟩ := zb h
      refine z_iaload X dd_Reader_takeInNode_103 rfl ev29 ?_
      refine z_ishl X dd_Reader_takeInNode_104 ?_
      refine z_ior X dd_Reader_takeInNode_105 ?_
      obtain ⟨c30, ec30, h⟩ := zb h
      refine z_put (j := 17) X dd_Reader_takeInNode_106 kc_5 ki_5 tt_Reader tk_Reader nn_Reader (by decide) km_491 rfl (tk_Reader 17 (by decide)) rfl rfl ec30 ?_
      refine z_aload_n X dd_Reader_takeInNode_109 rfl 0 rfl ?_
      refine z_iconst (v := 5) X dd_Reader_takeInNode_110 (by decide) ?_
      obtain ⟨c31, ec31, h⟩ := zb h
      refine z_put (j := 8) X dd_Reader_takeInNode_111 kc_5 ki_5 tt_Reader tk_Reader nn_Reader (by decide) km_482 rfl (tk_Reader 8 (by decide)) rfl rfl ec31 ?_
      refine z_goto (tgt := 185) X dd_Reader_takeInNode_114 (by decide) ?_
      refine z_sub [] rfl ?_
      exact t_Reader_takeInNode_185 X H h
set_option maxRecDepth 100000 in
set_option maxHeartbeats 4000000 in
theorem t_Reader_takeInNode_35  (X : zX p s m args cd D cid B bb_Reader_takeInNode 2 rr_Reader zT) (H : zH s meth B n0 none "takeInNode") {nf : Nat} {x0 : Nat} {x1 : Int32} {c : Zc} {res : Zc} (h : f_Reader_takeInNode_35 nf x0 x1 c = some res) : Zz p l e (zRm 4 85 0 0) s m args below meth cd (MQ below (zQv D cid B res n0 0) args s 0 0 (fun q => B ≤ q)) D cid B 2 0 0 c 35 [(0, .ref x0), (1, .int x1)] [] := by
  unfold f_Reader_takeInNode_35 at h
  refine z_aload_n X dd_Reader_takeInNode_35 rfl 0 rfl ?_
  obtain ⟨v3, ev3, h⟩ := zb h
  refine z_get (j := 8) X dd_Reader_takeInNode_36 kc_5 ki_5 (by decide) km_482 (zgi_v ev3) ?_
  refine z_iconst (v := 4) X dd_Reader_takeInNode_39 (by decide) ?_
  refine z_icmp_ne (tgt := 72) X dd_Reader_takeInNode_40 (by decide) (fun q4 => ?_) (fun q4 => ?_)
  · rw [if_neg q4] at h
    exact t_Reader_takeInNode_72 X H h
  · rw [if_pos q4] at h
    refine z_iload_n X dd_Reader_takeInNode_43 rfl 1 rfl ?_
    refine z_iconst (v := 2) X dd_Reader_takeInNode_44 (by decide) ?_
    refine z_icmp_ne (tgt := 72) X dd_Reader_takeInNode_45 (by decide) (fun q32 => ?_) (fun q32 => ?_)
    · rw [if_neg q32] at h
      exact t_Reader_takeInNode_72 X H h
    · rw [if_pos q32] at h
      refine z_aload_n X dd_Reader_takeInNode_48 rfl 0 rfl ?_
      refine z_aload_n X dd_Reader_takeInNode_49 rfl 0 rfl ?_
      obtain ⟨v33, ev33, h⟩ := zb h
      refine z_get (j := 1) X dd_Reader_takeInNode_50 kc_5 ki_5 (by decide) km_475 (zgr_v ev33) ?_
      obtain ⟨v34, ev34, h⟩ := zb h
      refine z_get (j := 1) X dd_Reader_takeInNode_53 kc_3 ki_3 (by decide) km_419 (zgr_v ev34) ?_
      refine z_aload_n X dd_Reader_takeInNode_56 rfl 0 rfl ?_
      obtain ⟨v35, ev35, h⟩ := zb h
      refine z_get (j := 7) X dd_Reader_takeInNode_57 kc_5 ki_5 (by decide) km_481 (zgi_v ev35) ?_
      obtain ⟨v36, ev36, h⟩ := zb h
      refine z_iaload X dd_Reader_takeInNode_60 rfl ev36 ?_
      obtain ⟨w38, ew38, h⟩ := zb h
      obtain ⟨q37, eq37, h⟩ := zb h
      refine z_callVv X [.int v36] rfl dd_Reader_takeInNode_61 (c_Reader_nameNode l eq37) (cwV 1 X.1.2.2.2.2 (zg_V km_1014 km_1016 km_15 km_130 km_1017) rfl rfl rfl (by decide +kernel) ⟨Nat.le_of_ble_eq_true rfl, Nat.le_of_ble_eq_true rfl⟩) (zob_s ew38) kc_5 rfl (Nat.le_of_ble_eq_true rfl) ⟨Nat.le_of_ble_eq_true rfl, Nat.le_of_ble_eq_true rfl⟩ ?_
      refine z_aload_n X dd_Reader_takeInNode_64 rfl 0 rfl ?_
      refine z_iconst (v := 5) X dd_Reader_takeInNode_65 (by decide) ?_
      obtain ⟨c39, ec39, h⟩ := zb h
      refine z_put (j := 8) X dd_Reader_takeInNode_66 kc_5 ki_5 tt_Reader tk_Reader nn_Reader (by decide) km_482 rfl (tk_Reader 8 (by decide)) rfl rfl ec39 ?_
      refine z_goto (tgt := 185) X dd_Reader_takeInNode_69 (by decide) ?_
      refine z_sub [] rfl ?_
      exact t_Reader_takeInNode_185 X H h
set_option maxRecDepth 100000 in
set_option maxHeartbeats 4000000 in
theorem c_Reader_takeInNode (l : Launch) {nf : Nat} {a0 : Nat} {a1 : Int32} {c : Zc} {res : Zc} (h : f_Reader_takeInNode nf a0 a1 c = some res) : zM l yy_Reader_takeInNode ww_Reader_takeInNode 4 85 0 0 [.ref a0, .int a1] c (fun D cid B => zQv D cid B res c.length 0) := by
  refine z_met (cc := bb_Reader_takeInNode) (maxL := 2) (ret := none) (by decide +kernel) rfl (Nat.le_of_ble_eq_true rfl) ?_
  intro p e s m args below meth cd D cid B X h1 h2 h3 h4
  have X : zX p s m args cd D cid B bb_Reader_takeInNode 2 rr_Reader zT := X
  have H : zH s meth B c.length none "takeInNode" := ⟨h1, h2, h4, h3⟩
  unfold f_Reader_takeInNode at h
  show Zz p l e (zRm 4 85 0 0) s m args below meth cd _ D cid B 2 0 0 c 0 [(0, .ref a0), (1, .int a1)] []
  refine z_aload_n X dd_Reader_takeInNode_0 rfl 0 rfl ?_
  obtain ⟨v1, ev1, h⟩ := zb h
  refine z_get (j := 8) X dd_Reader_takeInNode_1 kc_5 ki_5 (by decide) km_482 (zgi_v ev1) ?_
  refine z_iconst (v := 3) X dd_Reader_takeInNode_4 (by decide) ?_
  refine z_icmp_ne (tgt := 35) X dd_Reader_takeInNode_5 (by decide) (fun q2 => ?_) (fun q2 => ?_)
  · rw [if_neg q2] at h
    exact t_Reader_takeInNode_35 X H h
  · rw [if_pos q2] at h
    refine z_iload_n X dd_Reader_takeInNode_8 rfl 1 rfl ?_
    refine z_bipush (v := 40) X dd_Reader_takeInNode_9 (by decide) ?_
    refine z_icmp_ne (tgt := 35) X dd_Reader_takeInNode_11 (by decide) (fun q40 => ?_) (fun q40 => ?_)
    · rw [if_neg q40] at h
      exact t_Reader_takeInNode_35 X H h
    · rw [if_pos q40] at h
      refine z_aload_n X dd_Reader_takeInNode_14 rfl 0 rfl ?_
      refine z_aload_n X dd_Reader_takeInNode_15 rfl 0 rfl ?_
      obtain ⟨v41, ev41, h⟩ := zb h
      refine z_get (j := 7) X dd_Reader_takeInNode_16 kc_5 ki_5 (by decide) km_481 (zgi_v ev41) ?_
      obtain ⟨c42, ec42, h⟩ := zb h
      refine z_put (j := 14) X dd_Reader_takeInNode_19 kc_5 ki_5 tt_Reader tk_Reader nn_Reader (by decide) km_488 rfl (tk_Reader 14 (by decide)) rfl rfl ec42 ?_
      refine z_aload_n X dd_Reader_takeInNode_22 rfl 0 rfl ?_
      refine z_iconst (v := 0) X dd_Reader_takeInNode_23 (by decide) ?_
      obtain ⟨c43, ec43, h⟩ := zb h
      refine z_put (j := 17) X dd_Reader_takeInNode_24 kc_5 ki_5 tt_Reader tk_Reader nn_Reader (by decide) km_491 rfl (tk_Reader 17 (by decide)) rfl rfl ec43 ?_
      refine z_aload_n X dd_Reader_takeInNode_27 rfl 0 rfl ?_
      refine z_iconst (v := 4) X dd_Reader_takeInNode_28 (by decide) ?_
      obtain ⟨c44, ec44, h⟩ := zb h
      refine z_put (j := 8) X dd_Reader_takeInNode_29 kc_5 ki_5 tt_Reader tk_Reader nn_Reader (by decide) km_482 rfl (tk_Reader 8 (by decide)) rfl rfl ec44 ?_
      refine z_goto (tgt := 185) X dd_Reader_takeInNode_32 (by decide) ?_
      refine z_sub [] rfl ?_
      exact t_Reader_takeInNode_185 X H h
theorem dd_Reader_openWay_0 : decode bb_Reader_openWay 0 = .ok (.aload_n 0, 1) := by decide +kernel
theorem dd_Reader_openWay_1 : decode bb_Reader_openWay 1 = .ok (.getfield 69, 3) := by decide +kernel
theorem dd_Reader_openWay_4 : decode bb_Reader_openWay 4 = .ok (.getfield 236, 3) := by decide +kernel
theorem dd_Reader_openWay_7 : decode bb_Reader_openWay 7 = .ok (.bipush 10, 2) := by decide +kernel
theorem dd_Reader_openWay_9 : decode bb_Reader_openWay 9 = .ok (.if_icmp .lt 11, 3) := by decide +kernel
theorem dd_Reader_openWay_12 : decode bb_Reader_openWay 12 = .ok (.aload_n 0, 1) := by decide +kernel
theorem dd_Reader_openWay_13 : decode bb_Reader_openWay 13 = .ok (.iconst 3, 1) := by decide +kernel
theorem dd_Reader_openWay_14 : decode bb_Reader_openWay 14 = .ok (.invokevirtual 133, 3) := by decide +kernel
theorem dd_Reader_openWay_17 : decode bb_Reader_openWay 17 = .ok (.goto 57, 3) := by decide +kernel
theorem dd_Reader_openWay_20 : decode bb_Reader_openWay 20 = .ok (.aload_n 0, 1) := by decide +kernel
theorem dd_Reader_openWay_21 : decode bb_Reader_openWay 21 = .ok (.aload_n 0, 1) := by decide +kernel
theorem dd_Reader_openWay_22 : decode bb_Reader_openWay 22 = .ok (.getfield 69, 3) := by decide +kernel
theorem dd_Reader_openWay_25 : decode bb_Reader_openWay 25 = .ok (.getfield 73, 3) := by decide +kernel
theorem dd_Reader_openWay_28 : decode bb_Reader_openWay 28 = .ok (.aload_n 0, 1) := by decide +kernel
theorem dd_Reader_openWay_29 : decode bb_Reader_openWay 29 = .ok (.getfield 69, 3) := by decide +kernel
theorem dd_Reader_openWay_32 : decode bb_Reader_openWay 32 = .ok (.getfield 236, 3) := by decide +kernel
theorem dd_Reader_openWay_35 : decode bb_Reader_openWay 35 = .ok (.aaload, 1) := by decide +kernel
theorem dd_Reader_openWay_36 : decode bb_Reader_openWay 36 = .ok (.putfield 79, 3) := by decide +kernel
theorem dd_Reader_openWay_39 : decode bb_Reader_openWay 39 = .ok (.aload_n 0, 1) := by decide +kernel
theorem dd_Reader_openWay_40 : decode bb_Reader_openWay 40 = .ok (.getfield 79, 3) := by decide +kernel
theorem dd_Reader_openWay_43 : decode bb_Reader_openWay 43 = .ok (.iload_n 1, 1) := by decide +kernel
theorem dd_Reader_openWay_44 : decode bb_Reader_openWay 44 = .ok (.invokevirtual 239, 3) := by decide +kernel
theorem dd_Reader_openWay_47 : decode bb_Reader_openWay 47 = .ok (.aload_n 0, 1) := by decide +kernel
theorem dd_Reader_openWay_48 : decode bb_Reader_openWay 48 = .ok (.getfield 69, 3) := by decide +kernel
theorem dd_Reader_openWay_51 : decode bb_Reader_openWay 51 = .ok (.dup, 1) := by decide +kernel
theorem dd_Reader_openWay_52 : decode bb_Reader_openWay 52 = .ok (.getfield 236, 3) := by decide +kernel
theorem dd_Reader_openWay_55 : decode bb_Reader_openWay 55 = .ok (.iconst 1, 1) := by decide +kernel
theorem dd_Reader_openWay_56 : decode bb_Reader_openWay 56 = .ok (.iadd, 1) := by decide +kernel
theorem dd_Reader_openWay_57 : decode bb_Reader_openWay 57 = .ok (.putfield 236, 3) := by decide +kernel
theorem dd_Reader_openWay_60 : decode bb_Reader_openWay 60 = .ok (.aload_n 0, 1) := by decide +kernel
theorem dd_Reader_openWay_61 : decode bb_Reader_openWay 61 = .ok (.aload_n 0, 1) := by decide +kernel
theorem dd_Reader_openWay_62 : decode bb_Reader_openWay 62 = .ok (.getfield 57, 3) := by decide +kernel
theorem dd_Reader_openWay_65 : decode bb_Reader_openWay 65 = .ok (.putfield 54, 3) := by decide +kernel
theorem dd_Reader_openWay_68 : decode bb_Reader_openWay 68 = .ok (.aload_n 0, 1) := by decide +kernel
theorem dd_Reader_openWay_69 : decode bb_Reader_openWay 69 = .ok (.bipush 8, 2) := by decide +kernel
theorem dd_Reader_openWay_71 : decode bb_Reader_openWay 71 = .ok (.putfield 33, 3) := by decide +kernel
theorem dd_Reader_openWay_74 : decode bb_Reader_openWay 74 = .ok (.return_, 1) := by decide +kernel
set_option maxRecDepth 100000 in
set_option maxHeartbeats 4000000 in
theorem t_Reader_openWay_74  (X : zX p s m args cd D cid B bb_Reader_openWay 2 rr_Reader zT) (H : zH s meth B n0 none "openWay") {nf : Nat}  {c : Zc} {res : Zc} (h : f_Reader_openWay_74 nf  c = some res) : Zz p l e (zRm 2 43 0 0) s m args below meth cd (MQ below (zQv D cid B res n0 0) args s 0 0 (fun q => B ≤ q)) D cid B 2 0 0 c 74 [] [] := by
  unfold f_Reader_openWay_74 at h
  obtain rfl := Option.some.inj h
  exact z_vret X H.1 H.2.1 H.2.2.1 dd_Reader_openWay_74
set_option maxRecDepth 100000 in
set_option maxHeartbeats 4000000 in
theorem c_Reader_openWay (l : Launch) {nf : Nat} {a0 : Nat} {a1 : Int32} {c : Zc} {res : Zc} (h : f_Reader_openWay nf a0 a1 c = some res) : zM l yy_Reader_openWay ww_Reader_openWay 2 43 0 0 [.ref a0, .int a1] c (fun D cid B => zQv D cid B res c.length 0) := by
  refine z_met (cc := bb_Reader_openWay) (maxL := 2) (ret := none) (by decide +kernel) rfl (Nat.le_of_ble_eq_true rfl) ?_
  intro p e s m args below meth cd D cid B X h1 h2 h3 h4
  have X : zX p s m args cd D cid B bb_Reader_openWay 2 rr_Reader zT := X
  have H : zH s meth B c.length none "openWay" := ⟨h1, h2, h4, h3⟩
  unfold f_Reader_openWay at h
  show Zz p l e (zRm 2 43 0 0) s m args below meth cd _ D cid B 2 0 0 c 0 [(0, .ref a0), (1, .int a1)] []
  refine z_aload_n X dd_Reader_openWay_0 rfl 0 rfl ?_
  obtain ⟨v1, ev1, h⟩ := zb h
  refine z_get (j := 4) X dd_Reader_openWay_1 kc_5 ki_5 (by decide) km_478 (zgr_v ev1) ?_
  obtain ⟨v2, ev2, h⟩ := zb h
  refine z_get (j := 3) X dd_Reader_openWay_4 kc_2 ki_2 (by decide) km_311 (zgi_v ev2) ?_
  refine z_bipush (v := 10) X dd_Reader_openWay_7 (by decide) ?_
  refine z_icmp_lt (tgt := 20) X dd_Reader_openWay_9 (by decide) (fun q3 => ?_) (fun q3 => ?_)
  · rw [if_pos q3] at h
    refine z_aload_n X dd_Reader_openWay_20 rfl 0 rfl ?_
    refine z_aload_n X dd_Reader_openWay_21 rfl 0 rfl ?_
    obtain ⟨v4, ev4, h⟩ := zb h
    refine z_get (j := 4) X dd_Reader_openWay_22 kc_5 ki_5 (by decide) km_478 (zgr_v ev4) ?_
    obtain ⟨v5, ev5, h⟩ := zb h
    refine z_get (j := 4) X dd_Reader_openWay_25 kc_2 ki_2 (by decide) km_314 (zgr_v ev5) ?_
    refine z_aload_n X dd_Reader_openWay_28 rfl 0 rfl ?_
    obtain ⟨v6, ev6, h⟩ := zb h
    refine z_get (j := 4) X dd_Reader_openWay_29 kc_5 ki_5 (by decide) km_478 (zgr_v ev6) ?_
    obtain ⟨v7, ev7, h⟩ := zb h
    refine z_get (j := 3) X dd_Reader_openWay_32 kc_2 ki_2 (by decide) km_311 (zgi_v ev7) ?_
    obtain ⟨v8, ev8, h⟩ := zb h
    refine z_aaload X dd_Reader_openWay_35 rfl ev8 ?_
    obtain ⟨c9, ec9, h⟩ := zb h
    refine z_put (j := 5) X dd_Reader_openWay_36 kc_5 ki_5 tt_Reader tk_Reader nn_Reader (by decide) km_479 rfl (tk_Reader 5 (by decide)) rfl rfl ec9 ?_
    refine z_aload_n X dd_Reader_openWay_39 rfl 0 rfl ?_
    obtain ⟨v10, ev10, h⟩ := zb h
    refine z_get (j := 5) X dd_Reader_openWay_40 kc_5 ki_5 (by decide) km_479 (zgr_v ev10) ?_
    refine z_iload_n X dd_Reader_openWay_43 rfl 1 rfl ?_
    obtain ⟨w12, ew12, h⟩ := zb h
    obtain ⟨q11, eq11, h⟩ := zb h
    refine z_callVv X [.int a1] rfl dd_Reader_openWay_44 (c_Way_open l eq11) (cwV 1 X.1.2.2.2.2 (zg_V km_1051 km_1052 km_1053 km_129 km_1054) rfl rfl rfl (by decide +kernel) ⟨Nat.le_of_ble_eq_true rfl, Nat.le_of_ble_eq_true rfl⟩) (zob_s ew12) kc_1 rfl (Nat.le_of_ble_eq_true rfl) ⟨Nat.le_of_ble_eq_true rfl, Nat.le_of_ble_eq_true rfl⟩ ?_
    refine z_aload_n X dd_Reader_openWay_47 rfl 0 rfl ?_
    obtain ⟨v13, ev13, h⟩ := zb h
    refine z_get (j := 4) X dd_Reader_openWay_48 kc_5 ki_5 (by decide) km_478 (zgr_v ev13) ?_
    refine z_dup X dd_Reader_openWay_51 rfl ?_
    obtain ⟨v14, ev14, h⟩ := zb h
    refine z_get (j := 3) X dd_Reader_openWay_52 kc_2 ki_2 (by decide) km_311 (zgi_v ev14) ?_
    refine z_iconst (v := 1) X dd_Reader_openWay_55 (by decide) ?_
    refine z_iadd X dd_Reader_openWay_56 ?_
    obtain ⟨c15, ec15, h⟩ := zb h
    refine z_put (j := 3) X dd_Reader_openWay_57 kc_2 ki_2 tt_Text tk_Text nn_Text (by decide) km_311 rfl (tk_Text 3 (by decide)) rfl rfl ec15 ?_
    refine z_aload_n X dd_Reader_openWay_60 rfl 0 rfl ?_
    refine z_aload_n X dd_Reader_openWay_61 rfl 0 rfl ?_
    obtain ⟨v16, ev16, h⟩ := zb h
    refine z_get (j := 16) X dd_Reader_openWay_62 kc_5 ki_5 (by decide) km_490 (zgi_v ev16) ?_
    obtain ⟨c17, ec17, h⟩ := zb h
    refine z_put (j := 15) X dd_Reader_openWay_65 kc_5 ki_5 tt_Reader tk_Reader nn_Reader (by decide) km_489 rfl (tk_Reader 15 (by decide)) rfl rfl ec17 ?_
    refine z_aload_n X dd_Reader_openWay_68 rfl 0 rfl ?_
    refine z_bipush (v := 8) X dd_Reader_openWay_69 (by decide) ?_
    obtain ⟨c18, ec18, h⟩ := zb h
    refine z_put (j := 8) X dd_Reader_openWay_71 kc_5 ki_5 tt_Reader tk_Reader nn_Reader (by decide) km_482 rfl (tk_Reader 8 (by decide)) rfl rfl ec18 ?_
    refine z_sub [] rfl ?_
    exact t_Reader_openWay_74 X H h
  · rw [if_neg q3] at h
    refine z_aload_n X dd_Reader_openWay_12 rfl 0 rfl ?_
    refine z_iconst (v := 3) X dd_Reader_openWay_13 (by decide) ?_
    obtain ⟨w20, ew20, h⟩ := zb h
    obtain ⟨q19, eq19, h⟩ := zb h
    refine z_callVv X [.int 3] rfl dd_Reader_openWay_14 (c_Reader_fail l eq19) (cwV 1 X.1.2.2.2.2 (zg_V km_998 km_1000 km_11 km_130 km_1001) rfl rfl rfl (by decide +kernel) ⟨Nat.le_of_ble_eq_true rfl, Nat.le_of_ble_eq_true rfl⟩) (zob_s ew20) kc_5 rfl (Nat.le_of_ble_eq_true rfl) ⟨Nat.le_of_ble_eq_true rfl, Nat.le_of_ble_eq_true rfl⟩ ?_
    refine z_goto (tgt := 74) X dd_Reader_openWay_17 (by decide) ?_
    refine z_sub [] rfl ?_
    exact t_Reader_openWay_74 X H h
theorem dd_Reader_passOn_0 : decode bb_Reader_passOn 0 = .ok (.aload_n 0, 1) := by decide +kernel
theorem dd_Reader_passOn_1 : decode bb_Reader_passOn 1 = .ok (.iload_n 1, 1) := by decide +kernel
theorem dd_Reader_passOn_2 : decode bb_Reader_passOn 2 = .ok (.putfield 33, 3) := by decide +kernel
theorem dd_Reader_passOn_5 : decode bb_Reader_passOn 5 = .ok (.aload_n 0, 1) := by decide +kernel
theorem dd_Reader_passOn_6 : decode bb_Reader_passOn 6 = .ok (.iconst 0, 1) := by decide +kernel
theorem dd_Reader_passOn_7 : decode bb_Reader_passOn 7 = .ok (.putfield 66, 3) := by decide +kernel
theorem dd_Reader_passOn_10 : decode bb_Reader_passOn 10 = .ok (.return_, 1) := by decide +kernel
set_option maxRecDepth 100000 in
set_option maxHeartbeats 4000000 in
theorem c_Reader_passOn (l : Launch) {nf : Nat} {a0 : Nat} {a1 : Int32} {c : Zc} {res : Zc} (h : f_Reader_passOn nf a0 a1 c = some res) : zM l yy_Reader_passOn ww_Reader_passOn 0 0 0 0 [.ref a0, .int a1] c (fun D cid B => zQv D cid B res c.length 0) := by
  refine z_met (cc := bb_Reader_passOn) (maxL := 2) (ret := none) (by decide +kernel) rfl (Nat.le_of_ble_eq_true rfl) ?_
  intro p e s m args below meth cd D cid B X h1 h2 h3 h4
  have X : zX p s m args cd D cid B bb_Reader_passOn 2 rr_Reader zT := X
  have H : zH s meth B c.length none "passOn" := ⟨h1, h2, h4, h3⟩
  unfold f_Reader_passOn at h
  show Zz p l e (zRm 0 0 0 0) s m args below meth cd _ D cid B 2 0 0 c 0 [(0, .ref a0), (1, .int a1)] []
  refine z_aload_n X dd_Reader_passOn_0 rfl 0 rfl ?_
  refine z_iload_n X dd_Reader_passOn_1 rfl 1 rfl ?_
  obtain ⟨c1, ec1, h⟩ := zb h
  refine z_put (j := 8) X dd_Reader_passOn_2 kc_5 ki_5 tt_Reader tk_Reader nn_Reader (by decide) km_482 rfl (tk_Reader 8 (by decide)) rfl rfl ec1 ?_
  refine z_aload_n X dd_Reader_passOn_5 rfl 0 rfl ?_
  refine z_iconst (v := 0) X dd_Reader_passOn_6 (by decide) ?_
  obtain ⟨c2, ec2, h⟩ := zb h
  refine z_put (j := 19) X dd_Reader_passOn_7 kc_5 ki_5 tt_Reader tk_Reader nn_Reader (by decide) km_493 rfl (tk_Reader 19 (by decide)) rfl rfl ec2 ?_
  obtain rfl := Option.some.inj h
  exact z_vret X H.1 H.2.1 H.2.2.1 dd_Reader_passOn_10
theorem dd_Reader_openGive_0 : decode bb_Reader_openGive 0 = .ok (.aload_n 0, 1) := by decide +kernel
theorem dd_Reader_openGive_1 : decode bb_Reader_openGive 1 = .ok (.getfield 69, 3) := by decide +kernel
theorem dd_Reader_openGive_4 : decode bb_Reader_openGive 4 = .ok (.aload_n 0, 1) := by decide +kernel
theorem dd_Reader_openGive_5 : decode bb_Reader_openGive 5 = .ok (.getfield 69, 3) := by decide +kernel
theorem dd_Reader_openGive_8 : decode bb_Reader_openGive 8 = .ok (.getfield 295, 3) := by decide +kernel
theorem dd_Reader_openGive_11 : decode bb_Reader_openGive 11 = .ok (.putfield 298, 3) := by decide +kernel
theorem dd_Reader_openGive_14 : decode bb_Reader_openGive 14 = .ok (.aload_n 0, 1) := by decide +kernel
theorem dd_Reader_openGive_15 : decode bb_Reader_openGive 15 = .ok (.aload_n 0, 1) := by decide +kernel
theorem dd_Reader_openGive_16 : decode bb_Reader_openGive 16 = .ok (.getfield 26, 3) := by decide +kernel
theorem dd_Reader_openGive_19 : decode bb_Reader_openGive 19 = .ok (.ifCond .eq 8, 3) := by decide +kernel
theorem dd_Reader_openGive_22 : decode bb_Reader_openGive 22 = .ok (.bipush 25, 2) := by decide +kernel
theorem dd_Reader_openGive_24 : decode bb_Reader_openGive 24 = .ok (.goto 5, 3) := by decide +kernel
theorem dd_Reader_openGive_27 : decode bb_Reader_openGive 27 = .ok (.bipush 22, 2) := by decide +kernel
theorem dd_Reader_openGive_29 : decode bb_Reader_openGive 29 = .ok (.putfield 33, 3) := by decide +kernel
theorem dd_Reader_openGive_32 : decode bb_Reader_openGive 32 = .ok (.return_, 1) := by decide +kernel
set_option maxRecDepth 100000 in
set_option maxHeartbeats 4000000 in
theorem t_Reader_openGive_29  (X : zX p s m args cd D cid B bb_Reader_openGive 1 rr_Reader zT) (H : zH s meth B n0 none "openGive") {nf : Nat} {s0 : Nat} {s1 : Int32} {c : Zc} {res : Zc} (h : f_Reader_openGive_29 nf s0 s1 c = some res) : Zz p l e (zRm 0 0 0 0) s m args below meth cd (MQ below (zQv D cid B res n0 0) args s 0 0 (fun q => B ≤ q)) D cid B 1 0 0 c 29 [] [.int s1, .ref s0] := by
  unfold f_Reader_openGive_29 at h
  obtain ⟨c7, ec7, h⟩ := zb h
  refine z_put (j := 8) X dd_Reader_openGive_29 kc_5 ki_5 tt_Reader tk_Reader nn_Reader (by decide) km_482 rfl (tk_Reader 8 (by decide)) rfl rfl ec7 ?_
  obtain rfl := Option.some.inj h
  exact z_vret X H.1 H.2.1 H.2.2.1 dd_Reader_openGive_32
set_option maxRecDepth 100000 in
set_option maxHeartbeats 4000000 in
theorem c_Reader_openGive (l : Launch) {nf : Nat} {a0 : Nat} {c : Zc} {res : Zc} (h : f_Reader_openGive nf a0 c = some res) : zM l yy_Reader_openGive ww_Reader_openGive 0 0 0 0 [.ref a0] c (fun D cid B => zQv D cid B res c.length 0) := by
  refine z_met (cc := bb_Reader_openGive) (maxL := 1) (ret := none) (by decide +kernel) rfl (Nat.le_of_ble_eq_true rfl) ?_
  intro p e s m args below meth cd D cid B X h1 h2 h3 h4
  have X : zX p s m args cd D cid B bb_Reader_openGive 1 rr_Reader zT := X
  have H : zH s meth B c.length none "openGive" := ⟨h1, h2, h4, h3⟩
  unfold f_Reader_openGive at h
  show Zz p l e (zRm 0 0 0 0) s m args below meth cd _ D cid B 1 0 0 c 0 [(0, .ref a0)] []
  refine z_aload_n X dd_Reader_openGive_0 rfl 0 rfl ?_
  obtain ⟨v1, ev1, h⟩ := zb h
  refine z_get (j := 4) X dd_Reader_openGive_1 kc_5 ki_5 (by decide) km_478 (zgr_v ev1) ?_
  refine z_aload_n X dd_Reader_openGive_4 rfl 0 rfl ?_
  obtain ⟨v2, ev2, h⟩ := zb h
  refine z_get (j := 4) X dd_Reader_openGive_5 kc_5 ki_5 (by decide) km_478 (zgr_v ev2) ?_
  obtain ⟨v3, ev3, h⟩ := zb h
  refine z_get (j := 12) X dd_Reader_openGive_8 kc_2 ki_2 (by decide) km_338 (zgi_v ev3) ?_
  obtain ⟨c4, ec4, h⟩ := zb h
  refine z_put (j := 14) X dd_Reader_openGive_11 kc_2 ki_2 tt_Text tk_Text nn_Text (by decide) km_343 rfl (tk_Text 14 (by decide)) rfl rfl ec4 ?_
  refine z_aload_n X dd_Reader_openGive_14 rfl 0 rfl ?_
  refine z_aload_n X dd_Reader_openGive_15 rfl 0 rfl ?_
  obtain ⟨v5, ev5, h⟩ := zb h
  refine z_get (j := 6) X dd_Reader_openGive_16 kc_5 ki_5 (by decide) km_480 (zgi_v ev5) ?_
  refine z_if_eq (tgt := 27) X dd_Reader_openGive_19 (by decide) (fun q6 => ?_) (fun q6 => ?_)
  · rw [if_pos q6] at h
    refine z_bipush (v := 22) X dd_Reader_openGive_27 (by decide) ?_
    refine z_sub [] rfl ?_
    exact t_Reader_openGive_29 X H h
  · rw [if_neg q6] at h
    refine z_bipush (v := 25) X dd_Reader_openGive_22 (by decide) ?_
    refine z_goto (tgt := 29) X dd_Reader_openGive_24 (by decide) ?_
    refine z_sub [] rfl ?_
    exact t_Reader_openGive_29 X H h
theorem dd_Reader_takeAfterNode_0 : decode bb_Reader_takeAfterNode 0 = .ok (.iload_n 1, 1) := by decide +kernel
theorem dd_Reader_takeAfterNode_1 : decode bb_Reader_takeAfterNode 1 = .ok (.bipush 45, 2) := by decide +kernel
theorem dd_Reader_takeAfterNode_3 : decode bb_Reader_takeAfterNode 3 = .ok (.if_icmp .eq 10, 3) := by decide +kernel
theorem dd_Reader_takeAfterNode_6 : decode bb_Reader_takeAfterNode 6 = .ok (.iload_n 1, 1) := by decide +kernel
theorem dd_Reader_takeAfterNode_7 : decode bb_Reader_takeAfterNode 7 = .ok (.sipush 257, 3) := by decide +kernel
theorem dd_Reader_takeAfterNode_10 : decode bb_Reader_takeAfterNode 10 = .ok (.if_icmp .ne 20, 3) := by decide +kernel
theorem dd_Reader_takeAfterNode_13 : decode bb_Reader_takeAfterNode 13 = .ok (.aload_n 0, 1) := by decide +kernel
theorem dd_Reader_takeAfterNode_14 : decode bb_Reader_takeAfterNode 14 = .ok (.iload_n 1, 1) := by decide +kernel
theorem dd_Reader_takeAfterNode_15 : decode bb_Reader_takeAfterNode 15 = .ok (.sipush 257, 3) := by decide +kernel
theorem dd_Reader_takeAfterNode_18 : decode bb_Reader_takeAfterNode 18 = .ok (.if_icmp .ne 7, 3) := by decide +kernel
theorem dd_Reader_takeAfterNode_21 : decode bb_Reader_takeAfterNode 21 = .ok (.iconst 1, 1) := by decide +kernel
theorem dd_Reader_takeAfterNode_22 : decode bb_Reader_takeAfterNode 22 = .ok (.goto 4, 3) := by decide +kernel
theorem dd_Reader_takeAfterNode_25 : decode bb_Reader_takeAfterNode 25 = .ok (.iconst 0, 1) := by decide +kernel
theorem dd_Reader_takeAfterNode_26 : decode bb_Reader_takeAfterNode 26 = .ok (.invokevirtual 219, 3) := by decide +kernel
theorem dd_Reader_takeAfterNode_29 : decode bb_Reader_takeAfterNode 29 = .ok (.return_, 1) := by decide +kernel
theorem dd_Reader_takeAfterNode_30 : decode bb_Reader_takeAfterNode 30 = .ok (.aload_n 0, 1) := by decide +kernel
theorem dd_Reader_takeAfterNode_31 : decode bb_Reader_takeAfterNode 31 = .ok (.iconst (-1), 1) := by decide +kernel
theorem dd_Reader_takeAfterNode_32 : decode bb_Reader_takeAfterNode 32 = .ok (.putfield 54, 3) := by decide +kernel
theorem dd_Reader_takeAfterNode_35 : decode bb_Reader_takeAfterNode 35 = .ok (.aload_n 0, 1) := by decide +kernel
theorem dd_Reader_takeAfterNode_36 : decode bb_Reader_takeAfterNode 36 = .ok (.getfield 48, 3) := by decide +kernel
theorem dd_Reader_takeAfterNode_39 : decode bb_Reader_takeAfterNode 39 = .ok (.iconst (-1), 1) := by decide +kernel
theorem dd_Reader_takeAfterNode_40 : decode bb_Reader_takeAfterNode 40 = .ok (.if_icmp .eq 51, 3) := by decide +kernel
theorem dd_Reader_takeAfterNode_43 : decode bb_Reader_takeAfterNode 43 = .ok (.aload_n 0, 1) := by decide +kernel
theorem dd_Reader_takeAfterNode_44 : decode bb_Reader_takeAfterNode 44 = .ok (.getfield 69, 3) := by decide +kernel
theorem dd_Reader_takeAfterNode_47 : decode bb_Reader_takeAfterNode 47 = .ok (.iconst 4, 1) := by decide +kernel
theorem dd_Reader_takeAfterNode_48 : decode bb_Reader_takeAfterNode 48 = .ok (.aload_n 0, 1) := by decide +kernel
theorem dd_Reader_takeAfterNode_49 : decode bb_Reader_takeAfterNode 49 = .ok (.getfield 69, 3) := by decide +kernel
theorem dd_Reader_takeAfterNode_52 : decode bb_Reader_takeAfterNode 52 = .ok (.getfield 205, 3) := by decide +kernel
theorem dd_Reader_takeAfterNode_55 : decode bb_Reader_takeAfterNode 55 = .ok (.iconst 1, 1) := by decide +kernel
theorem dd_Reader_takeAfterNode_56 : decode bb_Reader_takeAfterNode 56 = .ok (.isub, 1) := by decide +kernel
theorem dd_Reader_takeAfterNode_57 : decode bb_Reader_takeAfterNode 57 = .ok (.invokevirtual 223, 3) := by decide +kernel
theorem dd_Reader_takeAfterNode_60 : decode bb_Reader_takeAfterNode 60 = .ok (.pop, 1) := by decide +kernel
theorem dd_Reader_takeAfterNode_61 : decode bb_Reader_takeAfterNode 61 = .ok (.aload_n 0, 1) := by decide +kernel
theorem dd_Reader_takeAfterNode_62 : decode bb_Reader_takeAfterNode 62 = .ok (.aload_n 0, 1) := by decide +kernel
theorem dd_Reader_takeAfterNode_63 : decode bb_Reader_takeAfterNode 63 = .ok (.getfield 48, 3) := by decide +kernel
theorem dd_Reader_takeAfterNode_66 : decode bb_Reader_takeAfterNode 66 = .ok (.putfield 42, 3) := by decide +kernel
theorem dd_Reader_takeAfterNode_69 : decode bb_Reader_takeAfterNode 69 = .ok (.aload_n 0, 1) := by decide +kernel
theorem dd_Reader_takeAfterNode_70 : decode bb_Reader_takeAfterNode 70 = .ok (.iconst (-1), 1) := by decide +kernel
theorem dd_Reader_takeAfterNode_71 : decode bb_Reader_takeAfterNode 71 = .ok (.putfield 48, 3) := by decide +kernel
theorem dd_Reader_takeAfterNode_74 : decode bb_Reader_takeAfterNode 74 = .ok (.aload_n 0, 1) := by decide +kernel
theorem dd_Reader_takeAfterNode_75 : decode bb_Reader_takeAfterNode 75 = .ok (.getfield 87, 3) := by decide +kernel
theorem dd_Reader_takeAfterNode_78 : decode bb_Reader_takeAfterNode 78 = .ok (.iconst 3, 1) := by decide +kernel
theorem dd_Reader_takeAfterNode_79 : decode bb_Reader_takeAfterNode 79 = .ok (.invokevirtual 227, 3) := by decide +kernel
theorem dd_Reader_takeAfterNode_82 : decode bb_Reader_takeAfterNode 82 = .ok (.aload_n 0, 1) := by decide +kernel
theorem dd_Reader_takeAfterNode_83 : decode bb_Reader_takeAfterNode 83 = .ok (.bipush 17, 2) := by decide +kernel
theorem dd_Reader_takeAfterNode_85 : decode bb_Reader_takeAfterNode 85 = .ok (.invokevirtual 230, 3) := by decide +kernel
theorem dd_Reader_takeAfterNode_88 : decode bb_Reader_takeAfterNode 88 = .ok (.goto 50, 3) := by decide +kernel
theorem dd_Reader_takeAfterNode_91 : decode bb_Reader_takeAfterNode 91 = .ok (.iload_n 1, 1) := by decide +kernel
theorem dd_Reader_takeAfterNode_92 : decode bb_Reader_takeAfterNode 92 = .ok (.bipush 44, 2) := by decide +kernel
theorem dd_Reader_takeAfterNode_94 : decode bb_Reader_takeAfterNode 94 = .ok (.if_icmp .ne 11, 3) := by decide +kernel
theorem dd_Reader_takeAfterNode_97 : decode bb_Reader_takeAfterNode 97 = .ok (.aload_n 0, 1) := by decide +kernel
theorem dd_Reader_takeAfterNode_98 : decode bb_Reader_takeAfterNode 98 = .ok (.iconst 3, 1) := by decide +kernel
theorem dd_Reader_takeAfterNode_99 : decode bb_Reader_takeAfterNode 99 = .ok (.putfield 33, 3) := by decide +kernel
theorem dd_Reader_takeAfterNode_102 : decode bb_Reader_takeAfterNode 102 = .ok (.goto 36, 3) := by decide +kernel
theorem dd_Reader_takeAfterNode_105 : decode bb_Reader_takeAfterNode 105 = .ok (.iload_n 1, 1) := by decide +kernel
theorem dd_Reader_takeAfterNode_106 : decode bb_Reader_takeAfterNode 106 = .ok (.bipush 11, 2) := by decide +kernel
theorem dd_Reader_takeAfterNode_108 : decode bb_Reader_takeAfterNode 108 = .ok (.if_icmp .ne 12, 3) := by decide +kernel
theorem dd_Reader_takeAfterNode_111 : decode bb_Reader_takeAfterNode 111 = .ok (.aload_n 0, 1) := by decide +kernel
theorem dd_Reader_takeAfterNode_112 : decode bb_Reader_takeAfterNode 112 = .ok (.bipush 16, 2) := by decide +kernel
theorem dd_Reader_takeAfterNode_114 : decode bb_Reader_takeAfterNode 114 = .ok (.putfield 33, 3) := by decide +kernel
theorem dd_Reader_takeAfterNode_117 : decode bb_Reader_takeAfterNode 117 = .ok (.goto 21, 3) := by decide +kernel
theorem dd_Reader_takeAfterNode_120 : decode bb_Reader_takeAfterNode 120 = .ok (.iload_n 1, 1) := by decide +kernel
theorem dd_Reader_takeAfterNode_121 : decode bb_Reader_takeAfterNode 121 = .ok (.bipush 12, 2) := by decide +kernel
theorem dd_Reader_takeAfterNode_123 : decode bb_Reader_takeAfterNode 123 = .ok (.if_icmp .ne 10, 3) := by decide +kernel
theorem dd_Reader_takeAfterNode_126 : decode bb_Reader_takeAfterNode 126 = .ok (.aload_n 0, 1) := by decide +kernel
theorem dd_Reader_takeAfterNode_127 : decode bb_Reader_takeAfterNode 127 = .ok (.invokevirtual 233, 3) := by decide +kernel
theorem dd_Reader_takeAfterNode_130 : decode bb_Reader_takeAfterNode 130 = .ok (.goto 8, 3) := by decide +kernel
theorem dd_Reader_takeAfterNode_133 : decode bb_Reader_takeAfterNode 133 = .ok (.aload_n 0, 1) := by decide +kernel
theorem dd_Reader_takeAfterNode_134 : decode bb_Reader_takeAfterNode 134 = .ok (.iconst 2, 1) := by decide +kernel
theorem dd_Reader_takeAfterNode_135 : decode bb_Reader_takeAfterNode 135 = .ok (.invokevirtual 133, 3) := by decide +kernel
theorem dd_Reader_takeAfterNode_138 : decode bb_Reader_takeAfterNode 138 = .ok (.return_, 1) := by decide +kernel
set_option maxRecDepth 100000 in
set_option maxHeartbeats 4000000 in
theorem t_Reader_takeAfterNode_26  (X : zX p s m args cd D cid B bb_Reader_takeAfterNode 2 rr_Reader zT) (H : zH s meth B n0 none "takeAfterNode") {nf : Nat} {s0 : Nat} {s1 : Int32} {c : Zc} {res : Zc} (h : f_Reader_takeAfterNode_26 nf s0 s1 c = some res) : Zz p l e (zRm 3 64 0 0) s m args below meth cd (MQ below (zQv D cid B res n0 0) args s 0 0 (fun q => B ≤ q)) D cid B 2 0 0 c 26 [] [.int s1, .ref s0] := by
  unfold f_Reader_takeAfterNode_26 at h
  obtain ⟨w4, ew4, h⟩ := zb h
  obtain ⟨q3, eq3, h⟩ := zb h
  refine z_callVv X [.int s1] rfl dd_Reader_takeAfterNode_26 (c_Reader_openWay l eq3) (cwV 1 X.1.2.2.2.2 (zg_V km_1047 km_1049 km_21 km_130 km_1050) rfl rfl rfl (by decide +kernel) ⟨Nat.le_of_ble_eq_true rfl, Nat.le_of_ble_eq_true rfl⟩) (zob_s ew4) kc_5 rfl (Nat.le_of_ble_eq_true rfl) ⟨Nat.le_of_ble_eq_true rfl, Nat.le_of_ble_eq_true rfl⟩ ?_
  obtain rfl := Option.some.inj h
  exact z_vret X H.1 H.2.1 H.2.2.1 dd_Reader_takeAfterNode_29
set_option maxRecDepth 100000 in
set_option maxHeartbeats 4000000 in
theorem t_Reader_takeAfterNode_13  (X : zX p s m args cd D cid B bb_Reader_takeAfterNode 2 rr_Reader zT) (H : zH s meth B n0 none "takeAfterNode") {nf : Nat} {x0 : Nat} {x1 : Int32} {c : Zc} {res : Zc} (h : f_Reader_takeAfterNode_13 nf x0 x1 c = some res) : Zz p l e (zRm 3 64 0 0) s m args below meth cd (MQ below (zQv D cid B res n0 0) args s 0 0 (fun q => B ≤ q)) D cid B 2 0 0 c 13 [(0, .ref x0), (1, .int x1)] [] := by
  unfold f_Reader_takeAfterNode_13 at h
  refine z_aload_n X dd_Reader_takeAfterNode_13 rfl 0 rfl ?_
  refine z_iload_n X dd_Reader_takeAfterNode_14 rfl 1 rfl ?_
  refine z_sipush (v := 257) X dd_Reader_takeAfterNode_15 (by decide) ?_
  refine z_icmp_ne (tgt := 25) X dd_Reader_takeAfterNode_18 (by decide) (fun q2 => ?_) (fun q2 => ?_)
  · rw [if_neg q2] at h
    refine z_iconst (v := 0) X dd_Reader_takeAfterNode_25 (by decide) ?_
    refine z_sub [] rfl ?_
    exact t_Reader_takeAfterNode_26 X H h
  · rw [if_pos q2] at h
    refine z_iconst (v := 1) X dd_Reader_takeAfterNode_21 (by decide) ?_
    refine z_goto (tgt := 26) X dd_Reader_takeAfterNode_22 (by decide) ?_
    refine z_sub [] rfl ?_
    exact t_Reader_takeAfterNode_26 X H h
set_option maxRecDepth 100000 in
set_option maxHeartbeats 4000000 in
theorem t_Reader_takeAfterNode_138  (X : zX p s m args cd D cid B bb_Reader_takeAfterNode 2 rr_Reader zT) (H : zH s meth B n0 none "takeAfterNode") {nf : Nat}  {c : Zc} {res : Zc} (h : f_Reader_takeAfterNode_138 nf  c = some res) : Zz p l e (zRm 3 64 0 0) s m args below meth cd (MQ below (zQv D cid B res n0 0) args s 0 0 (fun q => B ≤ q)) D cid B 2 0 0 c 138 [] [] := by
  unfold f_Reader_takeAfterNode_138 at h
  obtain rfl := Option.some.inj h
  exact z_vret X H.1 H.2.1 H.2.2.1 dd_Reader_takeAfterNode_138
set_option maxRecDepth 100000 in
set_option maxHeartbeats 4000000 in
theorem c_Reader_takeAfterNode (l : Launch) {nf : Nat} {a0 : Nat} {a1 : Int32} {c : Zc} {res : Zc} (h : f_Reader_takeAfterNode nf a0 a1 c = some res) : zM l yy_Reader_takeAfterNode ww_Reader_takeAfterNode 3 64 0 0 [.ref a0, .int a1] c (fun D cid B => zQv D cid B res c.length 0) := by
  refine z_met (cc := bb_Reader_takeAfterNode) (maxL := 2) (ret := none) (by decide +kernel) rfl (Nat.le_of_ble_eq_true rfl) ?_
  intro p e s m args below meth cd D cid B X h1 h2 h3 h4
  have X : zX p s m args cd D cid B bb_Reader_takeAfterNode 2 rr_Reader zT := X
  have H : zH s meth B c.length none "takeAfterNode" := ⟨h1, h2, h4, h3⟩
  unfold f_Reader_takeAfterNode at h
  show Zz p l e (zRm 3 64 0 0) s m args below meth cd _ D cid B 2 0 0 c 0 [(0, .ref a0), (1, .int a1)] []
  refine z_iload_n X dd_Reader_takeAfterNode_0 rfl 1 rfl ?_
  refine z_bipush (v := 45) X dd_Reader_takeAfterNode_1 (by decide) ?_
  refine z_icmp_eq (tgt := 13) X dd_Reader_takeAfterNode_3 (by decide) (fun q1 => ?_) (fun q1 => ?_)
  · rw [if_pos q1] at h
    exact t_Reader_takeAfterNode_13 X H h
  · rw [if_neg q1] at h
    refine z_iload_n X dd_Reader_takeAfterNode_6 rfl 1 rfl ?_
    refine z_sipush (v := 257) X dd_Reader_takeAfterNode_7 (by decide) ?_
    refine z_icmp_ne (tgt := 30) X dd_Reader_takeAfterNode_10 (by decide) (fun q5 => ?_) (fun q5 => ?_)
    · rw [if_neg q5] at h
      refine z_aload_n X dd_Reader_takeAfterNode_30 rfl 0 rfl ?_
      refine z_iconst (v := (-1)) X dd_Reader_takeAfterNode_31 (by decide) ?_
      obtain ⟨c6, ec6, h⟩ := zb h
      refine z_put (j := 15) X dd_Reader_takeAfterNode_32 kc_5 ki_5 tt_Reader tk_Reader nn_Reader (by decide) km_489 rfl (tk_Reader 15 (by decide)) rfl rfl ec6 ?_
      refine z_aload_n X dd_Reader_takeAfterNode_35 rfl 0 rfl ?_
      obtain ⟨v7, ev7, h⟩ := zb h
      refine z_get (j := 13) X dd_Reader_takeAfterNode_36 kc_5 ki_5 (by decide) km_487 (zgi_v ev7) ?_
      refine z_iconst (v := (-1)) X dd_Reader_takeAfterNode_39 (by decide) ?_
      refine z_icmp_eq (tgt := 91) X dd_Reader_takeAfterNode_40 (by decide) (fun q8 => ?_) (fun q8 => ?_)
      · rw [if_pos q8] at h
        refine z_iload_n X dd_Reader_takeAfterNode_91 rfl 1 rfl ?_
        refine z_bipush (v := 44) X dd_Reader_takeAfterNode_92 (by decide) ?_
        refine z_icmp_ne (tgt := 105) X dd_Reader_takeAfterNode_94 (by decide) (fun q9 => ?_) (fun q9 => ?_)
        · rw [if_neg q9] at h
          refine z_iload_n X dd_Reader_takeAfterNode_105 rfl 1 rfl ?_
          refine z_bipush (v := 11) X dd_Reader_takeAfterNode_106 (by decide) ?_
          refine z_icmp_ne (tgt := 120) X dd_Reader_takeAfterNode_108 (by decide) (fun q10 => ?_) (fun q10 => ?_)
          · rw [if_neg q10] at h
            refine z_iload_n X dd_Reader_takeAfterNode_120 rfl 1 rfl ?_
            refine z_bipush (v := 12) X dd_Reader_takeAfterNode_121 (by decide) ?_
            refine z_icmp_ne (tgt := 133) X dd_Reader_takeAfterNode_123 (by decide) (fun q11 => ?_) (fun q11 => ?_)
            · rw [if_neg q11] at h
              refine z_aload_n X dd_Reader_takeAfterNode_133 rfl 0 rfl ?_
              refine z_iconst (v := 2) X dd_Reader_takeAfterNode_134 (by decide) ?_
              obtain ⟨w13, ew13, h⟩ := zb h
              obtain ⟨q12, eq12, h⟩ := zb h
              refine z_callVv X [.int 2] rfl dd_Reader_takeAfterNode_135 (c_Reader_fail l eq12) (cwV 1 X.1.2.2.2.2 (zg_V km_998 km_1000 km_11 km_130 km_1001) rfl rfl rfl (by decide +kernel) ⟨Nat.le_of_ble_eq_true rfl, Nat.le_of_ble_eq_true rfl⟩) (zob_s ew13) kc_5 rfl (Nat.le_of_ble_eq_true rfl) ⟨Nat.le_of_ble_eq_true rfl, Nat.le_of_ble_eq_true rfl⟩ ?_
              refine z_sub [] rfl ?_
              exact t_Reader_takeAfterNode_138 X H h
            · rw [if_pos q11] at h
              refine z_aload_n X dd_Reader_takeAfterNode_126 rfl 0 rfl ?_
              obtain ⟨w15, ew15, h⟩ := zb h
              obtain ⟨q14, eq14, h⟩ := zb h
              refine z_callVv X [] rfl dd_Reader_takeAfterNode_127 (c_Reader_openGive l eq14) (cwV 0 X.1.2.2.2.2 (zg_V km_1072 km_1074 km_23 km_130 km_1075) rfl rfl rfl (by decide +kernel) ⟨Nat.le_of_ble_eq_true rfl, Nat.le_of_ble_eq_true rfl⟩) (zob_s ew15) kc_5 rfl (Nat.le_of_ble_eq_true rfl) ⟨Nat.le_of_ble_eq_true rfl, Nat.le_of_ble_eq_true rfl⟩ ?_
              refine z_goto (tgt := 138) X dd_Reader_takeAfterNode_130 (by decide) ?_
              refine z_sub [] rfl ?_
              exact t_Reader_takeAfterNode_138 X H h
          · rw [if_pos q10] at h
            refine z_aload_n X dd_Reader_takeAfterNode_111 rfl 0 rfl ?_
            refine z_bipush (v := 16) X dd_Reader_takeAfterNode_112 (by decide) ?_
            obtain ⟨c16, ec16, h⟩ := zb h
            refine z_put (j := 8) X dd_Reader_takeAfterNode_114 kc_5 ki_5 tt_Reader tk_Reader nn_Reader (by decide) km_482 rfl (tk_Reader 8 (by decide)) rfl rfl ec16 ?_
            refine z_goto (tgt := 138) X dd_Reader_takeAfterNode_117 (by decide) ?_
            refine z_sub [] rfl ?_
            exact t_Reader_takeAfterNode_138 X H h
        · rw [if_pos q9] at h
          refine z_aload_n X dd_Reader_takeAfterNode_97 rfl 0 rfl ?_
          refine z_iconst (v := 3) X dd_Reader_takeAfterNode_98 (by decide) ?_
          obtain ⟨c17, ec17, h⟩ := zb h
          refine z_put (j := 8) X dd_Reader_takeAfterNode_99 kc_5 ki_5 tt_Reader tk_Reader nn_Reader (by decide) km_482 rfl (tk_Reader 8 (by decide)) rfl rfl ec17 ?_
          refine z_goto (tgt := 138) X dd_Reader_takeAfterNode_102 (by decide) ?_
          refine z_sub [] rfl ?_
          exact t_Reader_takeAfterNode_138 X H h
      · rw [if_neg q8] at h
        refine z_aload_n X dd_Reader_takeAfterNode_43 rfl 0 rfl ?_
        obtain ⟨v18, ev18, h⟩ := zb h
        refine z_get (j := 4) X dd_Reader_takeAfterNode_44 kc_5 ki_5 (by decide) km_478 (zgr_v ev18) ?_
        refine z_iconst (v := 4) X dd_Reader_takeAfterNode_47 (by decide) ?_
        refine z_aload_n X dd_Reader_takeAfterNode_48 rfl 0 rfl ?_
        obtain ⟨v19, ev19, h⟩ := zb h
        refine z_get (j := 4) X dd_Reader_takeAfterNode_49 kc_5 ki_5 (by decide) km_478 (zgr_v ev19) ?_
        obtain ⟨v20, ev20, h⟩ := zb h
        refine z_get (j := 8) X dd_Reader_takeAfterNode_52 kc_2 ki_2 (by decide) km_328 (zgi_v ev20) ?_
        refine z_iconst (v := 1) X dd_Reader_takeAfterNode_55 (by decide) ?_
        refine z_isub X dd_Reader_takeAfterNode_56 ?_
        obtain ⟨w22, ew22, h⟩ := zb h
        obtain ⟨q21, eq21, h⟩ := zb h
        refine z_callVi X [.int 4, .int (v20 - 1)] rfl dd_Reader_takeAfterNode_57 (c_Text_emit l eq21) (cwV 2 X.1.2.2.2.2 (zg_V km_1055 km_1056 km_1057 km_128 km_1058) rfl rfl rfl (by decide +kernel) ⟨Nat.le_of_ble_eq_true rfl, Nat.le_of_ble_eq_true rfl⟩) (zob_s ew22) kc_2 rfl (Nat.le_of_ble_eq_true rfl) ⟨Nat.le_of_ble_eq_true rfl, Nat.le_of_ble_eq_true rfl⟩ ?_
        refine z_pop X dd_Reader_takeAfterNode_60 rfl ?_
        refine z_aload_n X dd_Reader_takeAfterNode_61 rfl 0 rfl ?_
        refine z_aload_n X dd_Reader_takeAfterNode_62 rfl 0 rfl ?_
        obtain ⟨v23, ev23, h⟩ := zb h
        refine z_get (j := 13) X dd_Reader_takeAfterNode_63 kc_5 ki_5 (by decide) km_487 (zgi_v ev23) ?_
        obtain ⟨c24, ec24, h⟩ := zb h
        refine z_put (j := 11) X dd_Reader_takeAfterNode_66 kc_5 ki_5 tt_Reader tk_Reader nn_Reader (by decide) km_485 rfl (tk_Reader 11 (by decide)) rfl rfl ec24 ?_
        refine z_aload_n X dd_Reader_takeAfterNode_69 rfl 0 rfl ?_
        refine z_iconst (v := (-1)) X dd_Reader_takeAfterNode_70 (by decide) ?_
        obtain ⟨c25, ec25, h⟩ := zb h
        refine z_put (j := 13) X dd_Reader_takeAfterNode_71 kc_5 ki_5 tt_Reader tk_Reader nn_Reader (by decide) km_487 rfl (tk_Reader 13 (by decide)) rfl rfl ec25 ?_
        refine z_aload_n X dd_Reader_takeAfterNode_74 rfl 0 rfl ?_
        obtain ⟨v26, ev26, h⟩ := zb h
        refine z_get (j := 2) X dd_Reader_takeAfterNode_75 kc_5 ki_5 (by decide) km_476 (zgr_v ev26) ?_
        refine z_iconst (v := 3) X dd_Reader_takeAfterNode_78 (by decide) ?_
        obtain ⟨w28, ew28, h⟩ := zb h
        obtain ⟨q27, eq27, h⟩ := zb h
        refine z_callVv X [.int 3] rfl dd_Reader_takeAfterNode_79 (c_Operators_unwind l eq27) (cwV 1 X.1.2.2.2.2 (zg_V km_1059 km_1060 km_1061 km_132 km_1062) rfl rfl rfl (by decide +kernel) ⟨Nat.le_of_ble_eq_true rfl, Nat.le_of_ble_eq_true rfl⟩) (zob_s ew28) kc_4 rfl (Nat.le_of_ble_eq_true rfl) ⟨Nat.le_of_ble_eq_true rfl, Nat.le_of_ble_eq_true rfl⟩ ?_
        refine z_aload_n X dd_Reader_takeAfterNode_82 rfl 0 rfl ?_
        refine z_bipush (v := 17) X dd_Reader_takeAfterNode_83 (by decide) ?_
        obtain ⟨w30, ew30, h⟩ := zb h
        obtain ⟨q29, eq29, h⟩ := zb h
        refine z_callVv X [.int 17] rfl dd_Reader_takeAfterNode_85 (c_Reader_passOn l eq29) (cwV 1 X.1.2.2.2.2 (zg_V km_1068 km_1070 km_22 km_130 km_1071) rfl rfl rfl (by decide +kernel) ⟨Nat.le_of_ble_eq_true rfl, Nat.le_of_ble_eq_true rfl⟩) (zob_s ew30) kc_5 rfl (Nat.le_of_ble_eq_true rfl) ⟨Nat.le_of_ble_eq_true rfl, Nat.le_of_ble_eq_true rfl⟩ ?_
        refine z_goto (tgt := 138) X dd_Reader_takeAfterNode_88 (by decide) ?_
        refine z_sub [] rfl ?_
        exact t_Reader_takeAfterNode_138 X H h
    · rw [if_pos q5] at h
      exact t_Reader_takeAfterNode_13 X H h
end ZzM
