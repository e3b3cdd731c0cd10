section ZzM
variable {p : Program} {l : Launch} {e : Env} {s : State} {m : MethodId} {args : Array Value} {below : List Frame} {meth : Method} {cd : Code} {Q : State → Prop} {D : va_G} {cid : Nat → ClassId} {B n0 : Nat}
theorem dd_Reader_nameLeast_0 : decode bb_Reader_nameLeast 0 = .ok (.aload_n 0, 1) := by decide +kernel
theorem dd_Reader_nameLeast_1 : decode bb_Reader_nameLeast 1 = .ok (.getfield 22, 3) := by decide +kernel
theorem dd_Reader_nameLeast_4 : decode bb_Reader_nameLeast 4 = .ok (.iload_n 1, 1) := by decide +kernel
theorem dd_Reader_nameLeast_5 : decode bb_Reader_nameLeast 5 = .ok (.iaload, 1) := by decide +kernel
theorem dd_Reader_nameLeast_6 : decode bb_Reader_nameLeast 6 = .ok (.iconst (-1), 1) := by decide +kernel
theorem dd_Reader_nameLeast_7 : decode bb_Reader_nameLeast 7 = .ok (.if_icmp .eq 9, 3) := by decide +kernel
theorem dd_Reader_nameLeast_10 : decode bb_Reader_nameLeast 10 = .ok (.aload_n 0, 1) := by decide +kernel
theorem dd_Reader_nameLeast_11 : decode bb_Reader_nameLeast 11 = .ok (.iconst 4, 1) := by decide +kernel
theorem dd_Reader_nameLeast_12 : decode bb_Reader_nameLeast 12 = .ok (.invokevirtual 133, 3) := by decide +kernel
theorem dd_Reader_nameLeast_15 : decode bb_Reader_nameLeast 15 = .ok (.return_, 1) := by decide +kernel
theorem dd_Reader_nameLeast_16 : decode bb_Reader_nameLeast 16 = .ok (.aload_n 0, 1) := by decide +kernel
theorem dd_Reader_nameLeast_17 : decode bb_Reader_nameLeast 17 = .ok (.aload_n 0, 1) := by decide +kernel
theorem dd_Reader_nameLeast_18 : decode bb_Reader_nameLeast 18 = .ok (.getfield 30, 3) := by decide +kernel
theorem dd_Reader_nameLeast_21 : decode bb_Reader_nameLeast 21 = .ok (.invokevirtual 196, 3) := by decide +kernel
theorem dd_Reader_nameLeast_24 : decode bb_Reader_nameLeast 24 = .ok (.aload_n 0, 1) := by decide +kernel
theorem dd_Reader_nameLeast_25 : decode bb_Reader_nameLeast 25 = .ok (.getfield 36, 3) := by decide +kernel
theorem dd_Reader_nameLeast_28 : decode bb_Reader_nameLeast 28 = .ok (.ifCond .ne 54, 3) := by decide +kernel
theorem dd_Reader_nameLeast_31 : decode bb_Reader_nameLeast 31 = .ok (.aload_n 0, 1) := by decide +kernel
theorem dd_Reader_nameLeast_32 : decode bb_Reader_nameLeast 32 = .ok (.getfield 22, 3) := by decide +kernel
theorem dd_Reader_nameLeast_35 : decode bb_Reader_nameLeast 35 = .ok (.iload_n 1, 1) := by decide +kernel
theorem dd_Reader_nameLeast_36 : decode bb_Reader_nameLeast 36 = .ok (.aload_n 0, 1) := by decide +kernel
theorem dd_Reader_nameLeast_37 : decode bb_Reader_nameLeast 37 = .ok (.getfield 57, 3) := by decide +kernel
theorem dd_Reader_nameLeast_40 : decode bb_Reader_nameLeast 40 = .ok (.iastore, 1) := by decide +kernel
theorem dd_Reader_nameLeast_41 : decode bb_Reader_nameLeast 41 = .ok (.aload_n 0, 1) := by decide +kernel
theorem dd_Reader_nameLeast_42 : decode bb_Reader_nameLeast 42 = .ok (.getfield 79, 3) := by decide +kernel
theorem dd_Reader_nameLeast_45 : decode bb_Reader_nameLeast 45 = .ok (.aload_n 0, 1) := by decide +kernel
theorem dd_Reader_nameLeast_46 : decode bb_Reader_nameLeast 46 = .ok (.getfield 57, 3) := by decide +kernel
theorem dd_Reader_nameLeast_49 : decode bb_Reader_nameLeast 49 = .ok (.putfield 247, 3) := by decide +kernel
theorem dd_Reader_nameLeast_52 : decode bb_Reader_nameLeast 52 = .ok (.aload_n 0, 1) := by decide +kernel
theorem dd_Reader_nameLeast_53 : decode bb_Reader_nameLeast 53 = .ok (.dup, 1) := by decide +kernel
theorem dd_Reader_nameLeast_54 : decode bb_Reader_nameLeast 54 = .ok (.getfield 45, 3) := by decide +kernel
theorem dd_Reader_nameLeast_57 : decode bb_Reader_nameLeast 57 = .ok (.iconst 1, 1) := by decide +kernel
theorem dd_Reader_nameLeast_58 : decode bb_Reader_nameLeast 58 = .ok (.aload_n 0, 1) := by decide +kernel
theorem dd_Reader_nameLeast_59 : decode bb_Reader_nameLeast 59 = .ok (.getfield 57, 3) := by decide +kernel
theorem dd_Reader_nameLeast_62 : decode bb_Reader_nameLeast 62 = .ok (.ishl, 1) := by decide +kernel
theorem dd_Reader_nameLeast_63 : decode bb_Reader_nameLeast 63 = .ok (.ior, 1) := by decide +kernel
theorem dd_Reader_nameLeast_64 : decode bb_Reader_nameLeast 64 = .ok (.putfield 45, 3) := by decide +kernel
theorem dd_Reader_nameLeast_67 : decode bb_Reader_nameLeast 67 = .ok (.aload_n 0, 1) := by decide +kernel
theorem dd_Reader_nameLeast_68 : decode bb_Reader_nameLeast 68 = .ok (.dup, 1) := by decide +kernel
theorem dd_Reader_nameLeast_69 : decode bb_Reader_nameLeast 69 = .ok (.getfield 42, 3) := by decide +kernel
theorem dd_Reader_nameLeast_72 : decode bb_Reader_nameLeast 72 = .ok (.iconst 1, 1) := by decide +kernel
theorem dd_Reader_nameLeast_73 : decode bb_Reader_nameLeast 73 = .ok (.aload_n 0, 1) := by decide +kernel
theorem dd_Reader_nameLeast_74 : decode bb_Reader_nameLeast 74 = .ok (.getfield 57, 3) := by decide +kernel
theorem dd_Reader_nameLeast_77 : decode bb_Reader_nameLeast 77 = .ok (.ishl, 1) := by decide +kernel
theorem dd_Reader_nameLeast_78 : decode bb_Reader_nameLeast 78 = .ok (.ior, 1) := by decide +kernel
theorem dd_Reader_nameLeast_79 : decode bb_Reader_nameLeast 79 = .ok (.putfield 42, 3) := by decide +kernel
theorem dd_Reader_nameLeast_82 : decode bb_Reader_nameLeast 82 = .ok (.return_, 1) := by decide +kernel
set_option maxRecDepth 100000 in
set_option maxHeartbeats 4000000 in
theorem t_Reader_nameLeast_82  (X : zX p s m args cd D cid B bb_Reader_nameLeast 2 rr_Reader zT) (H : zH s meth B n0 none "nameLeast") {nf : Nat}  {c : Zc} {res : Zc} (h : f_Reader_nameLeast_82 nf  c = some res) : Zz p l e (zRm 2 43 0 0) s m args below meth cd (MQ below (zQv D cid B res n0 0) args s 0 0 (fun q => B ≤ q)) D cid B 2 0 0 c 82 [] [] := by
  unfold f_Reader_nameLeast_82 at h
  obtain rfl := Option.some.inj h
  exact z_vret X H.1 H.2.1 H.2.2.1 dd_Reader_nameLeast_82
set_option maxRecDepth 100000 in
set_option maxHeartbeats 4000000 in
theorem c_Reader_nameLeast (l : Launch) {nf : Nat} {a0 : Nat} {a1 : Int32} {c : Zc} {res : Zc} (h : f_Reader_nameLeast nf a0 a1 c = some res) : zM l yy_Reader_nameLeast ww_Reader_nameLeast 2 43 0 0 [.ref a0, .int a1] c (fun D cid B => zQv D cid B res c.length 0) := by
  refine z_met (cc := bb_Reader_nameLeast) (maxL := 2) (ret := none) (by decide +kernel) rfl (Nat.le_of_ble_eq_true rfl) ?_
  intro p e s m args below meth cd D cid B X h1 h2 h3 h4
  have X : zX p s m args cd D cid B bb_Reader_nameLeast 2 rr_Reader zT := X
  have H : zH s meth B c.length none "nameLeast" := ⟨h1, h2, h4, h3⟩
  unfold f_Reader_nameLeast at h
  show Zz p l e (zRm 2 43 0 0) s m args below meth cd _ D cid B 2 0 0 c 0 [(0, .ref a0), (1, .int a1)] []
  refine z_aload_n X dd_Reader_nameLeast_0 rfl 0 rfl ?_
  obtain ⟨v1, ev1, h⟩ := zb h
  refine z_get (j := 3) X dd_Reader_nameLeast_1 kc_5 ki_5 (by decide) km_477 (zgr_v ev1) ?_
  refine z_iload_n X dd_Reader_nameLeast_4 rfl 1 rfl ?_
  obtain ⟨v2, ev2, h⟩ := zb h
  refine z_iaload X dd_Reader_nameLeast_5 rfl ev2 ?_
  refine z_iconst (v := (-1)) X dd_Reader_nameLeast_6 (by decide) ?_
  refine z_icmp_eq (tgt := 16) X dd_Reader_nameLeast_7 (by decide) (fun q3 => ?_) (fun q3 => ?_)
  · rw [if_pos q3] at h
    refine z_aload_n X dd_Reader_nameLeast_16 rfl 0 rfl ?_
    refine z_aload_n X dd_Reader_nameLeast_17 rfl 0 rfl ?_
    obtain ⟨v4, ev4, h⟩ := zb h
    refine z_get (j := 7) X dd_Reader_nameLeast_18 kc_5 ki_5 (by decide) km_481 (zgi_v ev4) ?_
    obtain ⟨w6, ew6, h⟩ := zb h
    obtain ⟨q5, eq5, h⟩ := zb h
    refine z_callVv X [.int v4] rfl dd_Reader_nameLeast_21 (c_Reader_takeSlot l eq5) (cwV 1 X.1.2.2.2.2 (zg_V km_1022 km_1024 km_17 km_130 km_1025) rfl rfl rfl (by decide +kernel) ⟨Nat.le_of_ble_eq_true rfl, Nat.le_of_ble_eq_true rfl⟩) (zob_s ew6) kc_5 rfl (Nat.le_of_ble_eq_true rfl) ⟨Nat.le_of_ble_eq_true rfl, Nat.le_of_ble_eq_true rfl⟩ ?_
    refine z_aload_n X dd_Reader_nameLeast_24 rfl 0 rfl ?_
    obtain ⟨v7, ev7, h⟩ := zb h
    refine z_get (j := 9) X dd_Reader_nameLeast_25 kc_5 ki_5 (by decide) km_483 (zgi_v ev7) ?_
    refine z_if_ne (tgt := 82) X dd_Reader_nameLeast_28 (by decide) (fun q8 => ?_) (fun q8 => ?_)
    · rw [if_neg q8] at h
      refine z_sub [] rfl ?_
      exact t_Reader_nameLeast_82 X H h
    · rw [if_pos q8] at h
      refine z_aload_n X dd_Reader_nameLeast_31 rfl 0 rfl ?_
      obtain ⟨v9, ev9, h⟩ := zb h
      refine z_get (j := 3) X dd_Reader_nameLeast_32 kc_5 ki_5 (by decide) km_477 (zgr_v ev9) ?_
      refine z_iload_n X dd_Reader_nameLeast_35 rfl 1 rfl ?_
      refine z_aload_n X dd_Reader_nameLeast_36 rfl 0 rfl ?_
      obtain ⟨v10, ev10, h⟩ := zb h
      refine z_get (j := 16) X dd_Reader_nameLeast_37 kc_5 ki_5 (by decide) km_490 (zgi_v ev10) ?_
      obtain ⟨c11, ec11, h⟩ := zb h
      refine z_iastore X dd_Reader_nameLeast_40 rfl ec11 ?_
      refine z_aload_n X dd_Reader_nameLeast_41 rfl 0 rfl ?_
      obtain ⟨v12, ev12, h⟩ := zb h
      refine z_get (j := 5) X dd_Reader_nameLeast_42 kc_5 ki_5 (by decide) km_479 (zgr_v ev12) ?_
      refine z_aload_n X dd_Reader_nameLeast_45 rfl 0 rfl ?_
      obtain ⟨v13, ev13, h⟩ := zb h
      refine z_get (j := 16) X dd_Reader_nameLeast_46 kc_5 ki_5 (by decide) km_490 (zgi_v ev13) ?_
      obtain ⟨c14, ec14, h⟩ := zb h
      refine z_put (j := 2) X dd_Reader_nameLeast_49 kc_1 ki_1 tt_Way tk_Way nn_Way (by decide) km_229 rfl (tk_Way 2 (by decide)) rfl rfl ec14 ?_
      refine z_aload_n X dd_Reader_nameLeast_52 rfl 0 rfl ?_
      refine z_dup X dd_Reader_nameLeast_53 rfl ?_
      obtain ⟨v15, ev15, h⟩ := zb h
      refine z_get (j := 12) X dd_Reader_nameLeast_54 kc_5 ki_5 (by decide) km_486 (zgi_v ev15) ?_
      refine z_iconst (v := 1) X dd_Reader_nameLeast_57 (by decide) ?_
      refine z_aload_n X dd_Reader_nameLeast_58 rfl 0 rfl ?_
      obtain ⟨v16, ev16, h⟩ := zb h
      refine z_get (j := 16) X dd_Reader_nameLeast_59 kc_5 ki_5 (by decide) km_490 (zgi_v ev16) ?_
      refine z_ishl X dd_Reader_nameLeast_62 ?_
      refine z_ior X dd_Reader_nameLeast_63 ?_
      obtain ⟨c17, ec17, h⟩ := zb h
      refine z_put (j := 12) X dd_Reader_nameLeast_64 kc_5 ki_5 tt_Reader tk_Reader nn_Reader (by decide) km_486 rfl (tk_Reader 12 (by decide)) rfl rfl ec17 ?_
      refine z_aload_n X dd_Reader_nameLeast_67 rfl 0 rfl ?_
      refine z_dup X dd_Reader_nameLeast_68 rfl ?_
      obtain ⟨v18, ev18, h⟩ := zb h
      refine z_get (j := 11) X dd_Reader_nameLeast_69 kc_5 ki_5 (by decide) km_485 (zgi_v ev18) ?_
      refine z_iconst (v := 1) X dd_Reader_nameLeast_72 (by decide) ?_
      refine z_aload_n X dd_Reader_nameLeast_73 rfl 0 rfl ?_
      obtain ⟨v19, ev19, h⟩ := zb h
      refine z_get (j := 16) X dd_Reader_nameLeast_74 kc_5 ki_5 (by decide) km_490 (zgi_v ev19) ?_
      refine z_ishl X dd_Reader_nameLeast_77 ?_
      refine z_ior X dd_Reader_nameLeast_78 ?_
      obtain ⟨c20, ec20, h⟩ := zb h
      refine z_put (j := 11) X dd_Reader_nameLeast_79 kc_5 ki_5 tt_Reader tk_Reader nn_Reader (by decide) km_485 rfl (tk_Reader 11 (by decide)) rfl rfl ec20 ?_
      refine z_sub [] rfl ?_
      exact t_Reader_nameLeast_82 X H h
  · rw [if_neg q3] at h
    refine z_aload_n X dd_Reader_nameLeast_10 rfl 0 rfl ?_
    refine z_iconst (v := 4) X dd_Reader_nameLeast_11 (by decide) ?_
    obtain ⟨w22, ew22, h⟩ := zb h
    obtain ⟨q21, eq21, h⟩ := zb h
    refine z_callVv X [.int 4] rfl dd_Reader_nameLeast_12 (c_Reader_fail l eq21) (cwV 1 X.1.2.2.2.2 (zg_V km_998 km_1000 km_11 km_130 km_1001) rfl rfl rfl (by decide +kernel) ⟨Nat.le_of_ble_eq_true rfl, Nat.le_of_ble_eq_true rfl⟩) (zob_s ew22) kc_5 rfl (Nat.le_of_ble_eq_true rfl) ⟨Nat.le_of_ble_eq_true rfl, Nat.le_of_ble_eq_true rfl⟩ ?_
    obtain rfl := Option.some.inj h
    exact z_vret X H.1 H.2.1 H.2.2.1 dd_Reader_nameLeast_15
theorem dd_Reader_takeInWay_0 : decode bb_Reader_takeInWay 0 = .ok (.aload_n 0, 1) := by decide +kernel
theorem dd_Reader_takeInWay_1 : decode bb_Reader_takeInWay 1 = .ok (.getfield 33, 3) := by decide +kernel
theorem dd_Reader_takeInWay_4 : decode bb_Reader_takeInWay 4 = .ok (.bipush 8, 2) := by decide +kernel
theorem dd_Reader_takeInWay_6 : decode bb_Reader_takeInWay 6 = .ok (.if_icmp .ne 18, 3) := by decide +kernel
theorem dd_Reader_takeInWay_9 : decode bb_Reader_takeInWay 9 = .ok (.iload_n 1, 1) := by decide +kernel
theorem dd_Reader_takeInWay_10 : decode bb_Reader_takeInWay 10 = .ok (.bipush 18, 2) := by decide +kernel
theorem dd_Reader_takeInWay_12 : decode bb_Reader_takeInWay 12 = .ok (.if_icmp .ne 12, 3) := by decide +kernel
theorem dd_Reader_takeInWay_15 : decode bb_Reader_takeInWay 15 = .ok (.aload_n 0, 1) := by decide +kernel
theorem dd_Reader_takeInWay_16 : decode bb_Reader_takeInWay 16 = .ok (.bipush 9, 2) := by decide +kernel
theorem dd_Reader_takeInWay_18 : decode bb_Reader_takeInWay 18 = .ok (.putfield 33, 3) := by decide +kernel
theorem dd_Reader_takeInWay_21 : decode bb_Reader_takeInWay 21 = .ok (.goto 119, 3) := by decide +kernel
theorem dd_Reader_takeInWay_24 : decode bb_Reader_takeInWay 24 = .ok (.aload_n 0, 1) := by decide +kernel
theorem dd_Reader_takeInWay_25 : decode bb_Reader_takeInWay 25 = .ok (.getfield 33, 3) := by decide +kernel
theorem dd_Reader_takeInWay_28 : decode bb_Reader_takeInWay 28 = .ok (.bipush 9, 2) := by decide +kernel
theorem dd_Reader_takeInWay_30 : decode bb_Reader_takeInWay 30 = .ok (.if_icmp .ne 33, 3) := by decide +kernel
theorem dd_Reader_takeInWay_33 : decode bb_Reader_takeInWay 33 = .ok (.iload_n 1, 1) := by decide +kernel
theorem dd_Reader_takeInWay_34 : decode bb_Reader_takeInWay 34 = .ok (.iconst 2, 1) := by decide +kernel
theorem dd_Reader_takeInWay_35 : decode bb_Reader_takeInWay 35 = .ok (.if_icmp .ne 28, 3) := by decide +kernel
theorem dd_Reader_takeInWay_38 : decode bb_Reader_takeInWay 38 = .ok (.aload_n 0, 1) := by decide +kernel
theorem dd_Reader_takeInWay_39 : decode bb_Reader_takeInWay 39 = .ok (.aload_n 0, 1) := by decide +kernel
theorem dd_Reader_takeInWay_40 : decode bb_Reader_takeInWay 40 = .ok (.getfield 18, 3) := by decide +kernel
theorem dd_Reader_takeInWay_43 : decode bb_Reader_takeInWay 43 = .ok (.getfield 178, 3) := by decide +kernel
theorem dd_Reader_takeInWay_46 : decode bb_Reader_takeInWay 46 = .ok (.aload_n 0, 1) := by decide +kernel
theorem dd_Reader_takeInWay_47 : decode bb_Reader_takeInWay 47 = .ok (.getfield 30, 3) := by decide +kernel
theorem dd_Reader_takeInWay_50 : decode bb_Reader_takeInWay 50 = .ok (.iaload, 1) := by decide +kernel
theorem dd_Reader_takeInWay_51 : decode bb_Reader_takeInWay 51 = .ok (.invokevirtual 241, 3) := by decide +kernel
theorem dd_Reader_takeInWay_54 : decode bb_Reader_takeInWay 54 = .ok (.aload_n 0, 1) := by decide +kernel
theorem dd_Reader_takeInWay_55 : decode bb_Reader_takeInWay 55 = .ok (.bipush 10, 2) := by decide +kernel
theorem dd_Reader_takeInWay_57 : decode bb_Reader_takeInWay 57 = .ok (.putfield 33, 3) := by decide +kernel
theorem dd_Reader_takeInWay_60 : decode bb_Reader_takeInWay 60 = .ok (.goto 80, 3) := by decide +kernel
theorem dd_Reader_takeInWay_63 : decode bb_Reader_takeInWay 63 = .ok (.aload_n 0, 1) := by decide +kernel
theorem dd_Reader_takeInWay_64 : decode bb_Reader_takeInWay 64 = .ok (.getfield 33, 3) := by decide +kernel
theorem dd_Reader_takeInWay_67 : decode bb_Reader_takeInWay 67 = .ok (.bipush 8, 2) := by decide +kernel
theorem dd_Reader_takeInWay_69 : decode bb_Reader_takeInWay 69 = .ok (.if_icmp .eq 12, 3) := by decide +kernel
theorem dd_Reader_takeInWay_72 : decode bb_Reader_takeInWay 72 = .ok (.aload_n 0, 1) := by decide +kernel
theorem dd_Reader_takeInWay_73 : decode bb_Reader_takeInWay 73 = .ok (.getfield 33, 3) := by decide +kernel
theorem dd_Reader_takeInWay_76 : decode bb_Reader_takeInWay 76 = .ok (.bipush 10, 2) := by decide +kernel
theorem dd_Reader_takeInWay_78 : decode bb_Reader_takeInWay 78 = .ok (.if_icmp .ne 18, 3) := by decide +kernel
theorem dd_Reader_takeInWay_81 : decode bb_Reader_takeInWay 81 = .ok (.iload_n 1, 1) := by decide +kernel
theorem dd_Reader_takeInWay_82 : decode bb_Reader_takeInWay 82 = .ok (.bipush 91, 2) := by decide +kernel
theorem dd_Reader_takeInWay_84 : decode bb_Reader_takeInWay 84 = .ok (.if_icmp .ne 12, 3) := by decide +kernel
theorem dd_Reader_takeInWay_87 : decode bb_Reader_takeInWay 87 = .ok (.aload_n 0, 1) := by decide +kernel
theorem dd_Reader_takeInWay_88 : decode bb_Reader_takeInWay 88 = .ok (.bipush 12, 2) := by decide +kernel
theorem dd_Reader_takeInWay_90 : decode bb_Reader_takeInWay 90 = .ok (.putfield 33, 3) := by decide +kernel
theorem dd_Reader_takeInWay_93 : decode bb_Reader_takeInWay 93 = .ok (.goto 47, 3) := by decide +kernel
theorem dd_Reader_takeInWay_96 : decode bb_Reader_takeInWay 96 = .ok (.aload_n 0, 1) := by decide +kernel
theorem dd_Reader_takeInWay_97 : decode bb_Reader_takeInWay 97 = .ok (.getfield 33, 3) := by decide +kernel
theorem dd_Reader_takeInWay_100 : decode bb_Reader_takeInWay 100 = .ok (.bipush 11, 2) := by decide +kernel
theorem dd_Reader_takeInWay_102 : decode bb_Reader_takeInWay 102 = .ok (.if_icmp .ne 33, 3) := by decide +kernel
theorem dd_Reader_takeInWay_105 : decode bb_Reader_takeInWay 105 = .ok (.iload_n 1, 1) := by decide +kernel
theorem dd_Reader_takeInWay_106 : decode bb_Reader_takeInWay 106 = .ok (.aload_n 0, 1) := by decide +kernel
theorem dd_Reader_takeInWay_107 : decode bb_Reader_takeInWay 107 = .ok (.getfield 79, 3) := by decide +kernel
theorem dd_Reader_takeInWay_110 : decode bb_Reader_takeInWay 110 = .ok (.getfield 244, 3) := by decide +kernel
theorem dd_Reader_takeInWay_113 : decode bb_Reader_takeInWay 113 = .ok (.ifCond .eq 8, 3) := by decide +kernel
theorem dd_Reader_takeInWay_116 : decode bb_Reader_takeInWay 116 = .ok (.bipush 45, 2) := by decide +kernel
theorem dd_Reader_takeInWay_118 : decode bb_Reader_takeInWay 118 = .ok (.goto 6, 3) := by decide +kernel
theorem dd_Reader_takeInWay_121 : decode bb_Reader_takeInWay 121 = .ok (.sipush 256, 3) := by decide +kernel
theorem dd_Reader_takeInWay_124 : decode bb_Reader_takeInWay 124 = .ok (.if_icmp .ne 11, 3) := by decide +kernel
theorem dd_Reader_takeInWay_127 : decode bb_Reader_takeInWay 127 = .ok (.aload_n 0, 1) := by decide +kernel
theorem dd_Reader_takeInWay_128 : decode bb_Reader_takeInWay 128 = .ok (.iconst 3, 1) := by decide +kernel
theorem dd_Reader_takeInWay_129 : decode bb_Reader_takeInWay 129 = .ok (.putfield 33, 3) := by decide +kernel
theorem dd_Reader_takeInWay_132 : decode bb_Reader_takeInWay 132 = .ok (.goto 8, 3) := by decide +kernel
theorem dd_Reader_takeInWay_135 : decode bb_Reader_takeInWay 135 = .ok (.aload_n 0, 1) := by decide +kernel
theorem dd_Reader_takeInWay_136 : decode bb_Reader_takeInWay 136 = .ok (.iconst 2, 1) := by decide +kernel
theorem dd_Reader_takeInWay_137 : decode bb_Reader_takeInWay 137 = .ok (.invokevirtual 133, 3) := by decide +kernel
theorem dd_Reader_takeInWay_140 : decode bb_Reader_takeInWay 140 = .ok (.return_, 1) := by decide +kernel
set_option maxRecDepth 100000 in
set_option maxHeartbeats 4000000 in
theorem t_Reader_takeInWay_140  (X : zX p s m args cd D cid B bb_Reader_takeInWay 2 rr_Reader zT) (H : zH s meth B n0 none "takeInWay") {nf : Nat}  {c : Zc} {res : Zc} (h : f_Reader_takeInWay_140 nf  c = some res) : Zz p l e (zRm 3 64 0 0) s m args below meth cd (MQ below (zQv D cid B res n0 0) args s 0 0 (fun q => B ≤ q)) D cid B 2 0 0 c 140 [] [] := by
  unfold f_Reader_takeInWay_140 at h
  obtain rfl := Option.some.inj h
  exact z_vret X H.1 H.2.1 H.2.2.1 dd_Reader_takeInWay_140
set_option maxRecDepth 100000 in
set_option maxHeartbeats 4000000 in
theorem t_Reader_takeInWay_135  (X : zX p s m args cd D cid B bb_Reader_takeInWay 2 rr_Reader zT) (H : zH s meth B n0 none "takeInWay") {nf : Nat} {x0 : Nat} {c : Zc} {res : Zc} (h : f_Reader_takeInWay_135 nf x0 c = some res) : Zz p l e (zRm 3 64 0 0) s m args below meth cd (MQ below (zQv D cid B res n0 0) args s 0 0 (fun q => B ≤ q)) D cid B 2 0 0 c 135 [(0, .ref x0)] [] := by
  unfold f_Reader_takeInWay_135 at h
  refine z_aload_n X dd_Reader_takeInWay_135 rfl 0 rfl ?_
  refine z_iconst (v := 2) X dd_Reader_takeInWay_136 (by decide) ?_
  obtain ⟨w11, ew11, h⟩ := zb h
  obtain ⟨q10, eq10, h⟩ := zb h
  refine z_callVv X [.int 2] rfl dd_Reader_takeInWay_137 (c_Reader_fail l eq10) (cwV 1 X.1.2.2.2.2 (zg_V km_998 km_1000 km_11 km_130 km_1001) rfl rfl rfl (by decide +kernel) ⟨Nat.le_of_ble_eq_true rfl, Nat.le_of_ble_eq_true rfl⟩) (zob_s ew11) kc_5 rfl (Nat.le_of_ble_eq_true rfl) ⟨Nat.le_of_ble_eq_true rfl, Nat.le_of_ble_eq_true rfl⟩ ?_
  refine z_sub [] rfl ?_
  exact t_Reader_takeInWay_140 X H h
set_option maxRecDepth 100000 in
set_option maxHeartbeats 4000000 in
theorem t_Reader_takeInWay_124  (X : zX p s m args cd D cid B bb_Reader_takeInWay 2 rr_Reader zT) (H : zH s meth B n0 none "takeInWay") {nf : Nat} {x0 : Nat} {s0 : Int32} {s1 : Int32} {c : Zc} {res : Zc} (h : f_Reader_takeInWay_124 nf x0 s0 s1 c = some res) : Zz p l e (zRm 3 64 0 0) s m args below meth cd (MQ below (zQv D cid B res n0 0) args s 0 0 (fun q => B ≤ q)) D cid B 2 0 0 c 124 [(0, .ref x0)] [.int s1, .int s0] := by
  unfold f_Reader_takeInWay_124 at h
  refine z_icmp_ne (tgt := 135) X dd_Reader_takeInWay_124 (by decide) (fun q15 => ?_) (fun q15 => ?_)
  · rw [if_neg q15] at h
    exact t_Reader_takeInWay_135 X H h
  · rw [if_pos q15] at h
    refine z_aload_n X dd_Reader_takeInWay_127 rfl 0 rfl ?_
    refine z_iconst (v := 3) X dd_Reader_takeInWay_128 (by decide) ?_
    obtain ⟨c16, ec16, h⟩ := zb h
    refine z_put (j := 8) X dd_Reader_takeInWay_129 kc_5 ki_5 tt_Reader tk_Reader nn_Reader (by decide) km_482 rfl (tk_Reader 8 (by decide)) rfl rfl ec16 ?_
    refine z_goto (tgt := 140) X dd_Reader_takeInWay_132 (by decide) ?_
    refine z_sub [] rfl ?_
    exact t_Reader_takeInWay_140 X H h
set_option maxRecDepth 100000 in
set_option maxHeartbeats 4000000 in
theorem t_Reader_takeInWay_96  (X : zX p s m args cd D cid B bb_Reader_takeInWay 2 rr_Reader zT) (H : zH s meth B n0 none "takeInWay") {nf : Nat} {x0 : Nat} {x1 : Int32} {c : Zc} {res : Zc} (h : f_Reader_takeInWay_96 nf x0 x1 c = some res) : Zz p l e (zRm 3 64 0 0) s m args below meth cd (MQ below (zQv D cid B res n0 0) args s 0 0 (fun q => B ≤ q)) D cid B 2 0 0 c 96 [(0, .ref x0), (1, .int x1)] [] := by
  unfold f_Reader_takeInWay_96 at h
  refine z_aload_n X dd_Reader_takeInWay_96 rfl 0 rfl ?_
  obtain ⟨v8, ev8, h⟩ := zb h
  refine z_get (j := 8) X dd_Reader_takeInWay_97 kc_5 ki_5 (by decide) km_482 (zgi_v ev8) ?_
  refine z_bipush (v := 11) X dd_Reader_takeInWay_100 (by decide) ?_
  refine z_icmp_ne (tgt := 135) X dd_Reader_takeInWay_102 (by decide) (fun q9 => ?_) (fun q9 => ?_)
  · rw [if_neg q9] at h
    refine z_sub [0] rfl ?_
    exact t_Reader_takeInWay_135 X H h
  · rw [if_pos q9] at h
    refine z_iload_n X dd_Reader_takeInWay_105 rfl 1 rfl ?_
    refine z_aload_n X dd_Reader_takeInWay_106 rfl 0 rfl ?_
    obtain ⟨v12, ev12, h⟩ := zb h
    refine z_get (j := 5) X dd_Reader_takeInWay_107 kc_5 ki_5 (by decide) km_479 (zgr_v ev12) ?_
    obtain ⟨v13, ev13, h⟩ := zb h
    refine z_get (j := 3) X dd_Reader_takeInWay_110 kc_1 ki_1 (by decide) km_231 (zgi_v ev13) ?_
    refine z_if_eq (tgt := 121) X dd_Reader_takeInWay_113 (by decide) (fun q14 => ?_) (fun q14 => ?_)
    · rw [if_pos q14] at h
      refine z_sipush (v := 256) X dd_Reader_takeInWay_121 (by decide) ?_
      refine z_sub [0] rfl ?_
      exact t_Reader_takeInWay_124 X H h
    · rw [if_neg q14] at h
      refine z_bipush (v := 45) X dd_Reader_takeInWay_116 (by decide) ?_
      refine z_goto (tgt := 124) X dd_Reader_takeInWay_118 (by decide) ?_
      refine z_sub [0] rfl ?_
      exact t_Reader_takeInWay_124 X H h
set_option maxRecDepth 100000 in
set_option maxHeartbeats 4000000 in
theorem t_Reader_takeInWay_81  (X : zX p s m args cd D cid B bb_Reader_takeInWay 2 rr_Reader zT) (H : zH s meth B n0 none "takeInWay") {nf : Nat} {x0 : Nat} {x1 : Int32} {c : Zc} {res : Zc} (h : f_Reader_takeInWay_81 nf x0 x1 c = some res) : Zz p l e (zRm 3 64 0 0) s m args below meth cd (MQ below (zQv D cid B res n0 0) args s 0 0 (fun q => B ≤ q)) D cid B 2 0 0 c 81 [(0, .ref x0), (1, .int x1)] [] := by
  unfold f_Reader_takeInWay_81 at h
  refine z_iload_n X dd_Reader_takeInWay_81 rfl 1 rfl ?_
  refine z_bipush (v := 91) X dd_Reader_takeInWay_82 (by decide) ?_
  refine z_icmp_ne (tgt := 96) X dd_Reader_takeInWay_84 (by decide) (fun q7 => ?_) (fun q7 => ?_)
  · rw [if_neg q7] at h
    exact t_Reader_takeInWay_96 X H h
  · rw [if_pos q7] at h
    refine z_aload_n X dd_Reader_takeInWay_87 rfl 0 rfl ?_
    refine z_bipush (v := 12) X dd_Reader_takeInWay_88 (by decide) ?_
    obtain ⟨c17, ec17, h⟩ := zb h
    refine z_put (j := 8) X dd_Reader_takeInWay_90 kc_5 ki_5 tt_Reader tk_Reader nn_Reader (by decide) km_482 rfl (tk_Reader 8 (by decide)) rfl rfl ec17 ?_
    refine z_goto (tgt := 140) X dd_Reader_takeInWay_93 (by decide) ?_
    refine z_sub [] rfl ?_
    exact t_Reader_takeInWay_140 X H h
set_option maxRecDepth 100000 in
set_option maxHeartbeats 4000000 in
theorem t_Reader_takeInWay_63  (X : zX p s m args cd D cid B bb_Reader_takeInWay 2 rr_Reader zT) (H : zH s meth B n0 none "takeInWay") {nf : Nat} {x0 : Nat} {x1 : Int32} {c : Zc} {res : Zc} (h : f_Reader_takeInWay_63 nf x0 x1 c = some res) : Zz p l e (zRm 3 64 0 0) s m args below meth cd (MQ below (zQv D cid B res n0 0) args s 0 0 (fun q => B ≤ q)) D cid B 2 0 0 c 63 [(0, .ref x0), (1, .int x1)] [] := by
  unfold f_Reader_takeInWay_63 at h
  refine z_aload_n X dd_Reader_takeInWay_63 rfl 0 rfl ?_
  obtain ⟨v5, ev5, h⟩ := zb h
  refine z_get (j := 8) X dd_Reader_takeInWay_64 kc_5 ki_5 (by decide) km_482 (zgi_v ev5) ?_
  refine z_bipush (v := 8) X dd_Reader_takeInWay_67 (by decide) ?_
  refine z_icmp_eq (tgt := 81) X dd_Reader_takeInWay_69 (by decide) (fun q6 => ?_) (fun q6 => ?_)
  · rw [if_pos q6] at h
    exact t_Reader_takeInWay_81 X H h
  · rw [if_neg q6] at h
    refine z_aload_n X dd_Reader_takeInWay_72 rfl 0 rfl ?_
    obtain ⟨v18, ev18, h⟩ := zb h
    refine z_get (j := 8) X dd_Reader_takeInWay_73 kc_5 ki_5 (by decide) km_482 (zgi_v ev18) ?_
    refine z_bipush (v := 10) X dd_Reader_takeInWay_76 (by decide) ?_
    refine z_icmp_ne (tgt := 96) X dd_Reader_takeInWay_78 (by decide) (fun q19 => ?_) (fun q19 => ?_)
    · rw [if_neg q19] at h
      exact t_Reader_takeInWay_96 X H h
    · rw [if_pos q19] at h
      exact t_Reader_takeInWay_81 X H h
set_option maxRecDepth 100000 in
set_option maxHeartbeats 4000000 in
theorem t_Reader_takeInWay_24  (X : zX p s m args cd D cid B bb_Reader_takeInWay 2 rr_Reader zT) (H : zH s meth B n0 none "takeInWay") {nf : Nat} {x0 : Nat} {x1 : Int32} {c : Zc} {res : Zc} (h : f_Reader_takeInWay_24 nf x0 x1 c = some res) : Zz p l e (zRm 3 64 0 0) s m args below meth cd (MQ below (zQv D cid B res n0 0) args s 0 0 (fun q => B ≤ q)) D cid B 2 0 0 c 24 [(0, .ref x0), (1, .int x1)] [] := by
  unfold f_Reader_takeInWay_24 at h
  refine z_aload_n X dd_Reader_takeInWay_24 rfl 0 rfl ?_
  obtain ⟨v3, ev3, h⟩ := zb h
  refine z_get (j := 8) X dd_Reader_takeInWay_25 kc_5 ki_5 (by decide) km_482 (zgi_v ev3) ?_
  refine z_bipush (v := 9) X dd_Reader_takeInWay_28 (by decide) ?_
  refine z_icmp_ne (tgt := 63) X dd_Reader_takeInWay_30 (by decide) (fun q4 => ?_) (fun q4 => ?_)
  · rw [if_neg q4] at h
    exact t_Reader_takeInWay_63 X H h
  · rw [if_pos q4] at h
    refine z_iload_n X dd_Reader_takeInWay_33 rfl 1 rfl ?_
    refine z_iconst (v := 2) X dd_Reader_takeInWay_34 (by decide) ?_
    refine z_icmp_ne (tgt := 63) X dd_Reader_takeInWay_35 (by decide) (fun q20 => ?_) (fun q20 => ?_)
    · rw [if_neg q20] at h
      exact t_Reader_takeInWay_63 X H h
    · rw [if_pos q20] at h
      refine z_aload_n X dd_Reader_takeInWay_38 rfl 0 rfl ?_
      refine z_aload_n X dd_Reader_takeInWay_39 rfl 0 rfl ?_
      obtain ⟨v21, ev21, h⟩ := zb h
      refine z_get (j := 1) X dd_Reader_takeInWay_40 kc_5 ki_5 (by decide) km_475 (zgr_v ev21) ?_
      obtain ⟨v22, ev22, h⟩ := zb h
      refine z_get (j := 1) X dd_Reader_takeInWay_43 kc_3 ki_3 (by decide) km_419 (zgr_v ev22) ?_
      refine z_aload_n X dd_Reader_takeInWay_46 rfl 0 rfl ?_
      obtain ⟨v23, ev23, h⟩ := zb h
      refine z_get (j := 7) X dd_Reader_takeInWay_47 kc_5 ki_5 (by decide) km_481 (zgi_v ev23) ?_
      obtain ⟨v24, ev24, h⟩ := zb h
      refine z_iaload X dd_Reader_takeInWay_50 rfl ev24 ?_
      obtain ⟨w26, ew26, h⟩ := zb h
      obtain ⟨q25, eq25, h⟩ := zb h
      refine z_callVv X [.int v24] rfl dd_Reader_takeInWay_51 (c_Reader_nameLeast l eq25) (cwV 1 X.1.2.2.2.2 (zg_V km_1080 km_1082 km_25 km_130 km_1083) rfl rfl rfl (by decide +kernel) ⟨Nat.le_of_ble_eq_true rfl, Nat.le_of_ble_eq_true rfl⟩) (zob_s ew26) kc_5 rfl (Nat.le_of_ble_eq_true rfl) ⟨Nat.le_of_ble_eq_true rfl, Nat.le_of_ble_eq_true rfl⟩ ?_
      refine z_aload_n X dd_Reader_takeInWay_54 rfl 0 rfl ?_
      refine z_bipush (v := 10) X dd_Reader_takeInWay_55 (by decide) ?_
      obtain ⟨c27, ec27, h⟩ := zb h
      refine z_put (j := 8) X dd_Reader_takeInWay_57 kc_5 ki_5 tt_Reader tk_Reader nn_Reader (by decide) km_482 rfl (tk_Reader 8 (by decide)) rfl rfl ec27 ?_
      refine z_goto (tgt := 140) X dd_Reader_takeInWay_60 (by decide) ?_
      refine z_sub [] rfl ?_
      exact t_Reader_takeInWay_140 X H h
set_option maxRecDepth 100000 in
set_option maxHeartbeats 4000000 in
theorem c_Reader_takeInWay (l : Launch) {nf : Nat} {a0 : Nat} {a1 : Int32} {c : Zc} {res : Zc} (h : f_Reader_takeInWay nf a0 a1 c = some res) : zM l yy_Reader_takeInWay ww_Reader_takeInWay 3 64 0 0 [.ref a0, .int a1] c (fun D cid B => zQv D cid B res c.length 0) := by
  refine z_met (cc := bb_Reader_takeInWay) (maxL := 2) (ret := none) (by decide +kernel) rfl (Nat.le_of_ble_eq_true rfl) ?_
  intro p e s m args below meth cd D cid B X h1 h2 h3 h4
  have X : zX p s m args cd D cid B bb_Reader_takeInWay 2 rr_Reader zT := X
  have H : zH s meth B c.length none "takeInWay" := ⟨h1, h2, h4, h3⟩
  unfold f_Reader_takeInWay at h
  show Zz p l e (zRm 3 64 0 0) s m args below meth cd _ D cid B 2 0 0 c 0 [(0, .ref a0), (1, .int a1)] []
  refine z_aload_n X dd_Reader_takeInWay_0 rfl 0 rfl ?_
  obtain ⟨v1, ev1, h⟩ := zb h
  refine z_get (j := 8) X dd_Reader_takeInWay_1 kc_5 ki_5 (by decide) km_482 (zgi_v ev1) ?_
  refine z_bipush (v := 8) X dd_Reader_takeInWay_4 (by decide) ?_
  refine z_icmp_ne (tgt := 24) X dd_Reader_takeInWay_6 (by decide) (fun q2 => ?_) (fun q2 => ?_)
  · rw [if_neg q2] at h
    exact t_Reader_takeInWay_24 X H h
  · rw [if_pos q2] at h
    refine z_iload_n X dd_Reader_takeInWay_9 rfl 1 rfl ?_
    refine z_bipush (v := 18) X dd_Reader_takeInWay_10 (by decide) ?_
    refine z_icmp_ne (tgt := 24) X dd_Reader_takeInWay_12 (by decide) (fun q28 => ?_) (fun q28 => ?_)
    · rw [if_neg q28] at h
      exact t_Reader_takeInWay_24 X H h
    · rw [if_pos q28] at h
      refine z_aload_n X dd_Reader_takeInWay_15 rfl 0 rfl ?_
      refine z_bipush (v := 9) X dd_Reader_takeInWay_16 (by decide) ?_
      obtain ⟨c29, ec29, h⟩ := zb h
      refine z_put (j := 8) X dd_Reader_takeInWay_18 kc_5 ki_5 tt_Reader tk_Reader nn_Reader (by decide) km_482 rfl (tk_Reader 8 (by decide)) rfl rfl ec29 ?_
      refine z_goto (tgt := 140) X dd_Reader_takeInWay_21 (by decide) ?_
      refine z_sub [] rfl ?_
      exact t_Reader_takeInWay_140 X H h
theorem dd_Reader_addStep_0 : decode bb_Reader_addStep 0 = .ok (.aload_n 0, 1) := by decide +kernel
theorem dd_Reader_addStep_1 : decode bb_Reader_addStep 1 = .ok (.getfield 48, 3) := by decide +kernel
theorem dd_Reader_addStep_4 : decode bb_Reader_addStep 4 = .ok (.iconst (-1), 1) := by decide +kernel
theorem dd_Reader_addStep_5 : decode bb_Reader_addStep 5 = .ok (.if_icmp .eq 21, 3) := by decide +kernel
theorem dd_Reader_addStep_8 : decode bb_Reader_addStep 8 = .ok (.iload_n 1, 1) := by decide +kernel
theorem dd_Reader_addStep_9 : decode bb_Reader_addStep 9 = .ok (.bipush 8, 2) := by decide +kernel
theorem dd_Reader_addStep_11 : decode bb_Reader_addStep 11 = .ok (.if_icmp .lt 15, 3) := by decide +kernel
theorem dd_Reader_addStep_14 : decode bb_Reader_addStep 14 = .ok (.iload_n 1, 1) := by decide +kernel
theorem dd_Reader_addStep_15 : decode bb_Reader_addStep 15 = .ok (.bipush 12, 2) := by decide +kernel
theorem dd_Reader_addStep_17 : decode bb_Reader_addStep 17 = .ok (.if_icmp .ge 9, 3) := by decide +kernel
theorem dd_Reader_addStep_20 : decode bb_Reader_addStep 20 = .ok (.aload_n 0, 1) := by decide +kernel
theorem dd_Reader_addStep_21 : decode bb_Reader_addStep 21 = .ok (.bipush 6, 2) := by decide +kernel
theorem dd_Reader_addStep_23 : decode bb_Reader_addStep 23 = .ok (.invokevirtual 133, 3) := by decide +kernel
theorem dd_Reader_addStep_26 : decode bb_Reader_addStep 26 = .ok (.aload_n 0, 1) := by decide +kernel
theorem dd_Reader_addStep_27 : decode bb_Reader_addStep 27 = .ok (.getfield 79, 3) := by decide +kernel
theorem dd_Reader_addStep_30 : decode bb_Reader_addStep 30 = .ok (.iload_n 1, 1) := by decide +kernel
theorem dd_Reader_addStep_31 : decode bb_Reader_addStep 31 = .ok (.aload_n 0, 1) := by decide +kernel
theorem dd_Reader_addStep_32 : decode bb_Reader_addStep 32 = .ok (.getfield 33, 3) := by decide +kernel
theorem dd_Reader_addStep_35 : decode bb_Reader_addStep 35 = .ok (.bipush 13, 2) := by decide +kernel
theorem dd_Reader_addStep_37 : decode bb_Reader_addStep 37 = .ok (.if_icmp .ne 7, 3) := by decide +kernel
theorem dd_Reader_addStep_40 : decode bb_Reader_addStep 40 = .ok (.iconst 1, 1) := by decide +kernel
theorem dd_Reader_addStep_41 : decode bb_Reader_addStep 41 = .ok (.goto 4, 3) := by decide +kernel
theorem dd_Reader_addStep_44 : decode bb_Reader_addStep 44 = .ok (.iconst 0, 1) := by decide +kernel
theorem dd_Reader_addStep_45 : decode bb_Reader_addStep 45 = .ok (.invokevirtual 259, 3) := by decide +kernel
theorem dd_Reader_addStep_48 : decode bb_Reader_addStep 48 = .ok (.aload_n 0, 1) := by decide +kernel
theorem dd_Reader_addStep_49 : decode bb_Reader_addStep 49 = .ok (.bipush 14, 2) := by decide +kernel
theorem dd_Reader_addStep_51 : decode bb_Reader_addStep 51 = .ok (.putfield 33, 3) := by decide +kernel
theorem dd_Reader_addStep_54 : decode bb_Reader_addStep 54 = .ok (.return_, 1) := by decide +kernel
set_option maxRecDepth 100000 in
set_option maxHeartbeats 4000000 in
theorem t_Reader_addStep_45  (X : zX p s m args cd D cid B bb_Reader_addStep 2 rr_Reader zT) (H : zH s meth B n0 none "addStep") {nf : Nat} {x0 : Nat} {s0 : Nat} {s1 : Int32} {s2 : Int32} {c : Zc} {res : Zc} (h : f_Reader_addStep_45 nf x0 s0 s1 s2 c = some res) : Zz p l e (zRm 3 73 0 0) s m args below meth cd (MQ below (zQv D cid B res n0 0) args s 0 0 (fun q => B ≤ q)) D cid B 2 0 0 c 45 [(0, .ref x0)] [.int s2, .int s1, .ref s0] := by
  unfold f_Reader_addStep_45 at h
  obtain ⟨w7, ew7, h⟩ := zb h
  obtain ⟨q6, eq6, h⟩ := zb h
  refine z_callVv X [.int s1, .int s2] rfl dd_Reader_addStep_45 (c_Way_addStep l eq6) (cwV 2 X.1.2.2.2.2 (zg_V km_1106 km_1107 km_1108 km_129 km_1109) rfl rfl rfl (by decide +kernel) ⟨Nat.le_of_ble_eq_true rfl, Nat.le_of_ble_eq_true rfl⟩) (zob_s ew7) kc_1 rfl (Nat.le_of_ble_eq_true rfl) ⟨Nat.le_of_ble_eq_true rfl, Nat.le_of_ble_eq_true rfl⟩ ?_
  refine z_aload_n X dd_Reader_addStep_48 rfl 0 rfl ?_
  refine z_bipush (v := 14) X dd_Reader_addStep_49 (by decide) ?_
  obtain ⟨c8, ec8, h⟩ := zb h
  refine z_put (j := 8) X dd_Reader_addStep_51 kc_5 ki_5 tt_Reader tk_Reader nn_Reader (by decide) km_482 rfl (tk_Reader 8 (by decide)) rfl rfl ec8 ?_
  obtain rfl := Option.some.inj h
  exact z_vret X H.1 H.2.1 H.2.2.1 dd_Reader_addStep_54
set_option maxRecDepth 100000 in
set_option maxHeartbeats 4000000 in
theorem t_Reader_addStep_26  (X : zX p s m args cd D cid B bb_Reader_addStep 2 rr_Reader zT) (H : zH s meth B n0 none "addStep") {nf : Nat} {x0 : Nat} {x1 : Int32} {c : Zc} {res : Zc} (h : f_Reader_addStep_26 nf x0 x1 c = some res) : Zz p l e (zRm 3 73 0 0) s m args below meth cd (MQ below (zQv D cid B res n0 0) args s 0 0 (fun q => B ≤ q)) D cid B 2 0 0 c 26 [(0, .ref x0), (1, .int x1)] [] := by
  unfold f_Reader_addStep_26 at h
  refine z_aload_n X dd_Reader_addStep_26 rfl 0 rfl ?_
  obtain ⟨v3, ev3, h⟩ := zb h
  refine z_get (j := 5) X dd_Reader_addStep_27 kc_5 ki_5 (by decide) km_479 (zgr_v ev3) ?_
  refine z_iload_n X dd_Reader_addStep_30 rfl 1 rfl ?_
  refine z_aload_n X dd_Reader_addStep_31 rfl 0 rfl ?_
  obtain ⟨v4, ev4, h⟩ := zb h
  refine z_get (j := 8) X dd_Reader_addStep_32 kc_5 ki_5 (by decide) km_482 (zgi_v ev4) ?_
  refine z_bipush (v := 13) X dd_Reader_addStep_35 (by decide) ?_
  refine z_icmp_ne (tgt := 44) X dd_Reader_addStep_37 (by decide) (fun q5 => ?_) (fun q5 => ?_)
  · rw [if_neg q5] at h
    refine z_iconst (v := 0) X dd_Reader_addStep_44 (by decide) ?_
    refine z_sub [0] rfl ?_
    exact t_Reader_addStep_45 X H h
  · rw [if_pos q5] at h
    refine z_iconst (v := 1) X dd_Reader_addStep_40 (by decide) ?_
    refine z_goto (tgt := 45) X dd_Reader_addStep_41 (by decide) ?_
    refine z_sub [0] rfl ?_
    exact t_Reader_addStep_45 X H h
set_option maxRecDepth 100000 in
set_option maxHeartbeats 4000000 in
theorem c_Reader_addStep (l : Launch) {nf : Nat} {a0 : Nat} {a1 : Int32} {c : Zc} {res : Zc} (h : f_Reader_addStep nf a0 a1 c = some res) : zM l yy_Reader_addStep ww_Reader_addStep 3 73 0 0 [.ref a0, .int a1] c (fun D cid B => zQv D cid B res c.length 0) := by
  refine z_met (cc := bb_Reader_addStep) (maxL := 2) (ret := none) (by decide +kernel) rfl (Nat.le_of_ble_eq_true rfl) ?_
  intro p e s m args below meth cd D cid B X h1 h2 h3 h4
  have X : zX p s m args cd D cid B bb_Reader_addStep 2 rr_Reader zT := X
  have H : zH s meth B c.length none "addStep" := ⟨h1, h2, h4, h3⟩
  unfold f_Reader_addStep at h
  show Zz p l e (zRm 3 73 0 0) s m args below meth cd _ D cid B 2 0 0 c 0 [(0, .ref a0), (1, .int a1)] []
  refine z_aload_n X dd_Reader_addStep_0 rfl 0 rfl ?_
  obtain ⟨v1, ev1, h⟩ := zb h
  refine z_get (j := 13) X dd_Reader_addStep_1 kc_5 ki_5 (by decide) km_487 (zgi_v ev1) ?_
  refine z_iconst (v := (-1)) X dd_Reader_addStep_4 (by decide) ?_
  refine z_icmp_eq (tgt := 26) X dd_Reader_addStep_5 (by decide) (fun q2 => ?_) (fun q2 => ?_)
  · rw [if_pos q2] at h
    exact t_Reader_addStep_26 X H h
  · rw [if_neg q2] at h
    refine z_iload_n X dd_Reader_addStep_8 rfl 1 rfl ?_
    refine z_bipush (v := 8) X dd_Reader_addStep_9 (by decide) ?_
    refine z_icmp_lt (tgt := 26) X dd_Reader_addStep_11 (by decide) (fun q9 => ?_) (fun q9 => ?_)
    · rw [if_pos q9] at h
      exact t_Reader_addStep_26 X H h
    · rw [if_neg q9] at h
      refine z_iload_n X dd_Reader_addStep_14 rfl 1 rfl ?_
      refine z_bipush (v := 12) X dd_Reader_addStep_15 (by decide) ?_
      refine z_icmp_ge (tgt := 26) X dd_Reader_addStep_17 (by decide) (fun q10 => ?_) (fun q10 => ?_)
      · rw [if_pos q10] at h
        exact t_Reader_addStep_26 X H h
      · rw [if_neg q10] at h
        refine z_aload_n X dd_Reader_addStep_20 rfl 0 rfl ?_
        refine z_bipush (v := 6) X dd_Reader_addStep_21 (by decide) ?_
        obtain ⟨w12, ew12, h⟩ := zb h
        obtain ⟨q11, eq11, h⟩ := zb h
        refine z_callVv X [.int 6] rfl dd_Reader_addStep_23 (c_Reader_fail l eq11) (cwV 1 X.1.2.2.2.2 (zg_V km_998 km_1000 km_11 km_130 km_1001) rfl rfl rfl (by decide +kernel) ⟨Nat.le_of_ble_eq_true rfl, Nat.le_of_ble_eq_true rfl⟩) (zob_s ew12) kc_5 rfl (Nat.le_of_ble_eq_true rfl) ⟨Nat.le_of_ble_eq_true rfl, Nat.le_of_ble_eq_true rfl⟩ ?_
        exact t_Reader_addStep_26 X H h
theorem dd_Reader_takeStep_0 : decode bb_Reader_takeStep 0 = .ok (.aload_n 0, 1) := by decide +kernel
theorem dd_Reader_takeStep_1 : decode bb_Reader_takeStep 1 = .ok (.getfield 33, 3) := by decide +kernel
theorem dd_Reader_takeStep_4 : decode bb_Reader_takeStep 4 = .ok (.bipush 12, 2) := by decide +kernel
theorem dd_Reader_takeStep_6 : decode bb_Reader_takeStep 6 = .ok (.if_icmp .ne 7, 3) := by decide +kernel
theorem dd_Reader_takeStep_9 : decode bb_Reader_takeStep 9 = .ok (.iconst 1, 1) := by decide +kernel
theorem dd_Reader_takeStep_10 : decode bb_Reader_takeStep 10 = .ok (.goto 4, 3) := by decide +kernel
theorem dd_Reader_takeStep_13 : decode bb_Reader_takeStep 13 = .ok (.iconst 0, 1) := by decide +kernel
theorem dd_Reader_takeStep_14 : decode bb_Reader_takeStep 14 = .ok (.istore_n 2, 1) := by decide +kernel
theorem dd_Reader_takeStep_15 : decode bb_Reader_takeStep 15 = .ok (.iload_n 1, 1) := by decide +kernel
theorem dd_Reader_takeStep_16 : decode bb_Reader_takeStep 16 = .ok (.iconst 5, 1) := by decide +kernel
theorem dd_Reader_takeStep_17 : decode bb_Reader_takeStep 17 = .ok (.if_icmp .eq 9, 3) := by decide +kernel
theorem dd_Reader_takeStep_20 : decode bb_Reader_takeStep 20 = .ok (.iload_n 1, 1) := by decide +kernel
theorem dd_Reader_takeStep_21 : decode bb_Reader_takeStep 21 = .ok (.bipush 95, 2) := by decide +kernel
theorem dd_Reader_takeStep_23 : decode bb_Reader_takeStep 23 = .ok (.if_icmp .ne 7, 3) := by decide +kernel
theorem dd_Reader_takeStep_26 : decode bb_Reader_takeStep 26 = .ok (.iconst 1, 1) := by decide +kernel
theorem dd_Reader_takeStep_27 : decode bb_Reader_takeStep 27 = .ok (.goto 4, 3) := by decide +kernel
theorem dd_Reader_takeStep_30 : decode bb_Reader_takeStep 30 = .ok (.iconst 0, 1) := by decide +kernel
theorem dd_Reader_takeStep_31 : decode bb_Reader_takeStep 31 = .ok (.istore_n 3, 1) := by decide +kernel
theorem dd_Reader_takeStep_32 : decode bb_Reader_takeStep 32 = .ok (.iload_n 2, 1) := by decide +kernel
theorem dd_Reader_takeStep_33 : decode bb_Reader_takeStep 33 = .ok (.ifCond .eq 32, 3) := by decide +kernel
theorem dd_Reader_takeStep_36 : decode bb_Reader_takeStep 36 = .ok (.iload_n 1, 1) := by decide +kernel
theorem dd_Reader_takeStep_37 : decode bb_Reader_takeStep 37 = .ok (.bipush 40, 2) := by decide +kernel
theorem dd_Reader_takeStep_39 : decode bb_Reader_takeStep 39 = .ok (.if_icmp .ne 26, 3) := by decide +kernel
theorem dd_Reader_takeStep_42 : decode bb_Reader_takeStep 42 = .ok (.aload_n 0, 1) := by decide +kernel
theorem dd_Reader_takeStep_43 : decode bb_Reader_takeStep 43 = .ok (.getfield 79, 3) := by decide +kernel
theorem dd_Reader_takeStep_46 : decode bb_Reader_takeStep 46 = .ok (.invokevirtual 250, 3) := by decide +kernel
theorem dd_Reader_takeStep_49 : decode bb_Reader_takeStep 49 = .ok (.aload_n 0, 1) := by decide +kernel
theorem dd_Reader_takeStep_50 : decode bb_Reader_takeStep 50 = .ok (.getfield 87, 3) := by decide +kernel
theorem dd_Reader_takeStep_53 : decode bb_Reader_takeStep 53 = .ok (.dup, 1) := by decide +kernel
theorem dd_Reader_takeStep_54 : decode bb_Reader_takeStep 54 = .ok (.getfield 136, 3) := by decide +kernel
theorem dd_Reader_takeStep_57 : decode bb_Reader_takeStep 57 = .ok (.iconst 1, 1) := by decide +kernel
theorem dd_Reader_takeStep_58 : decode bb_Reader_takeStep 58 = .ok (.iadd, 1) := by decide +kernel
theorem dd_Reader_takeStep_59 : decode bb_Reader_takeStep 59 = .ok (.putfield 136, 3) := by decide +kernel
theorem dd_Reader_takeStep_62 : decode bb_Reader_takeStep 62 = .ok (.goto 85, 3) := by decide +kernel
theorem dd_Reader_takeStep_65 : decode bb_Reader_takeStep 65 = .ok (.iload_n 3, 1) := by decide +kernel
theorem dd_Reader_takeStep_66 : decode bb_Reader_takeStep 66 = .ok (.ifCond .ne 21, 3) := by decide +kernel
theorem dd_Reader_takeStep_69 : decode bb_Reader_takeStep 69 = .ok (.iload_n 2, 1) := by decide +kernel
theorem dd_Reader_takeStep_70 : decode bb_Reader_takeStep 70 = .ok (.ifCond .eq 9, 3) := by decide +kernel
theorem dd_Reader_takeStep_73 : decode bb_Reader_takeStep 73 = .ok (.iload_n 1, 1) := by decide +kernel
theorem dd_Reader_takeStep_74 : decode bb_Reader_takeStep 74 = .ok (.bipush 94, 2) := by decide +kernel
theorem dd_Reader_takeStep_76 : decode bb_Reader_takeStep 76 = .ok (.if_icmp .eq 11, 3) := by decide +kernel
theorem dd_Reader_takeStep_79 : decode bb_Reader_takeStep 79 = .ok (.aload_n 0, 1) := by decide +kernel
theorem dd_Reader_takeStep_80 : decode bb_Reader_takeStep 80 = .ok (.iconst 2, 1) := by decide +kernel
theorem dd_Reader_takeStep_81 : decode bb_Reader_takeStep 81 = .ok (.invokevirtual 133, 3) := by decide +kernel
theorem dd_Reader_takeStep_84 : decode bb_Reader_takeStep 84 = .ok (.goto 63, 3) := by decide +kernel
theorem dd_Reader_takeStep_87 : decode bb_Reader_takeStep 87 = .ok (.aload_n 0, 1) := by decide +kernel
theorem dd_Reader_takeStep_88 : decode bb_Reader_takeStep 88 = .ok (.getfield 79, 3) := by decide +kernel
theorem dd_Reader_takeStep_91 : decode bb_Reader_takeStep 91 = .ok (.getfield 253, 3) := by decide +kernel
theorem dd_Reader_takeStep_94 : decode bb_Reader_takeStep 94 = .ok (.bipush 16, 2) := by decide +kernel
theorem dd_Reader_takeStep_96 : decode bb_Reader_takeStep 96 = .ok (.if_icmp .lt 11, 3) := by decide +kernel
theorem dd_Reader_takeStep_99 : decode bb_Reader_takeStep 99 = .ok (.aload_n 0, 1) := by decide +kernel
theorem dd_Reader_takeStep_100 : decode bb_Reader_takeStep 100 = .ok (.iconst 3, 1) := by decide +kernel
theorem dd_Reader_takeStep_101 : decode bb_Reader_takeStep 101 = .ok (.invokevirtual 133, 3) := by decide +kernel
theorem dd_Reader_takeStep_104 : decode bb_Reader_takeStep 104 = .ok (.goto 43, 3) := by decide +kernel
theorem dd_Reader_takeStep_107 : decode bb_Reader_takeStep 107 = .ok (.iload_n 3, 1) := by decide +kernel
theorem dd_Reader_takeStep_108 : decode bb_Reader_takeStep 108 = .ok (.ifCond .ne 12, 3) := by decide +kernel
theorem dd_Reader_takeStep_111 : decode bb_Reader_takeStep 111 = .ok (.aload_n 0, 1) := by decide +kernel
theorem dd_Reader_takeStep_112 : decode bb_Reader_takeStep 112 = .ok (.bipush 13, 2) := by decide +kernel
theorem dd_Reader_takeStep_114 : decode bb_Reader_takeStep 114 = .ok (.putfield 33, 3) := by decide +kernel
theorem dd_Reader_takeStep_117 : decode bb_Reader_takeStep 117 = .ok (.goto 30, 3) := by decide +kernel
theorem dd_Reader_takeStep_120 : decode bb_Reader_takeStep 120 = .ok (.aload_n 0, 1) := by decide +kernel
theorem dd_Reader_takeStep_121 : decode bb_Reader_takeStep 121 = .ok (.iload_n 1, 1) := by decide +kernel
theorem dd_Reader_takeStep_122 : decode bb_Reader_takeStep 122 = .ok (.bipush 95, 2) := by decide +kernel
theorem dd_Reader_takeStep_124 : decode bb_Reader_takeStep 124 = .ok (.if_icmp .ne 8, 3) := by decide +kernel
theorem dd_Reader_takeStep_127 : decode bb_Reader_takeStep 127 = .ok (.bipush 12, 2) := by decide +kernel
theorem dd_Reader_takeStep_129 : decode bb_Reader_takeStep 129 = .ok (.goto 15, 3) := by decide +kernel
theorem dd_Reader_takeStep_132 : decode bb_Reader_takeStep 132 = .ok (.aload_n 0, 1) := by decide +kernel
theorem dd_Reader_takeStep_133 : decode bb_Reader_takeStep 133 = .ok (.getfield 18, 3) := by decide +kernel
theorem dd_Reader_takeStep_136 : decode bb_Reader_takeStep 136 = .ok (.getfield 178, 3) := by decide +kernel
theorem dd_Reader_takeStep_139 : decode bb_Reader_takeStep 139 = .ok (.aload_n 0, 1) := by decide +kernel
theorem dd_Reader_takeStep_140 : decode bb_Reader_takeStep 140 = .ok (.getfield 30, 3) := by decide +kernel
theorem dd_Reader_takeStep_143 : decode bb_Reader_takeStep 143 = .ok (.iaload, 1) := by decide +kernel
theorem dd_Reader_takeStep_144 : decode bb_Reader_takeStep 144 = .ok (.invokevirtual 256, 3) := by decide +kernel
theorem dd_Reader_takeStep_147 : decode bb_Reader_takeStep 147 = .ok (.return_, 1) := by decide +kernel
set_option maxRecDepth 100000 in
set_option maxHeartbeats 4000000 in
theorem t_Reader_takeStep_147  (X : zX p s m args cd D cid B bb_Reader_takeStep 4 rr_Reader zT) (H : zH s meth B n0 none "takeStep") {nf : Nat}  {c : Zc} {res : Zc} (h : f_Reader_takeStep_147 nf  c = some res) : Zz p l e (zRm 4 94 0 0) s m args below meth cd (MQ below (zQv D cid B res n0 0) args s 0 0 (fun q => B ≤ q)) D cid B 4 0 0 c 147 [] [] := by
  unfold f_Reader_takeStep_147 at h
  obtain rfl := Option.some.inj h
  exact z_vret X H.1 H.2.1 H.2.2.1 dd_Reader_takeStep_147
set_option maxRecDepth 100000 in
set_option maxHeartbeats 4000000 in
theorem t_Reader_takeStep_144  (X : zX p s m args cd D cid B bb_Reader_takeStep 4 rr_Reader zT) (H : zH s meth B n0 none "takeStep") {nf : Nat} {s0 : Nat} {s1 : Int32} {c : Zc} {res : Zc} (h : f_Reader_takeStep_144 nf s0 s1 c = some res) : Zz p l e (zRm 4 94 0 0) s m args below meth cd (MQ below (zQv D cid B res n0 0) args s 0 0 (fun q => B ≤ q)) D cid B 4 0 0 c 144 [] [.int s1, .ref s0] := by
  unfold f_Reader_takeStep_144 at h
  obtain ⟨w16, ew16, h⟩ := zb h
  obtain ⟨q15, eq15, h⟩ := zb h
  refine z_callVv X [.int s1] rfl dd_Reader_takeStep_144 (c_Reader_addStep l eq15) (cwV 1 X.1.2.2.2.2 (zg_V km_1102 km_1104 km_29 km_130 km_1105) rfl rfl rfl (by decide +kernel) ⟨Nat.le_of_ble_eq_true rfl, Nat.le_of_ble_eq_true rfl⟩) (zob_s ew16) kc_5 rfl (Nat.le_of_ble_eq_true rfl) ⟨Nat.le_of_ble_eq_true rfl, Nat.le_of_ble_eq_true rfl⟩ ?_
  exact t_Reader_takeStep_147 X H h
set_option maxRecDepth 100000 in
set_option maxHeartbeats 4000000 in
theorem t_Reader_takeStep_87  (X : zX p s m args cd D cid B bb_Reader_takeStep 4 rr_Reader zT) (H : zH s meth B n0 none "takeStep") {nf : Nat} {x0 : Nat} {x1 : Int32} {x3 : Int32} {c : Zc} {res : Zc} (h : f_Reader_takeStep_87 nf x0 x1 x3 c = some res) : Zz p l e (zRm 4 94 0 0) s m args below meth cd (MQ below (zQv D cid B res n0 0) args s 0 0 (fun q => B ≤ q)) D cid B 4 0 0 c 87 [(0, .ref x0), (1, .int x1), (3, .int x3)] [] := by
  unfold f_Reader_takeStep_87 at h
  refine z_aload_n X dd_Reader_takeStep_87 rfl 0 rfl ?_
  obtain ⟨v6, ev6, h⟩ := zb h
  refine z_get (j := 5) X dd_Reader_takeStep_88 kc_5 ki_5 (by decide) km_479 (zgr_v ev6) ?_
  obtain ⟨v7, ev7, h⟩ := zb h
  refine z_get (j := 5) X dd_Reader_takeStep_91 kc_1 ki_1 (by decide) km_237 (zgi_v ev7) ?_
  refine z_bipush (v := 16) X dd_Reader_takeStep_94 (by decide) ?_
  refine z_icmp_lt (tgt := 107) X dd_Reader_takeStep_96 (by decide) (fun q8 => ?_) (fun q8 => ?_)
  · rw [if_pos q8] at h
    refine z_iload_n X dd_Reader_takeStep_107 rfl 2 rfl ?_
    refine z_if_ne (tgt := 120) X dd_Reader_takeStep_108 (by decide) (fun q9 => ?_) (fun q9 => ?_)
    · rw [if_neg q9] at h
      refine z_aload_n X dd_Reader_takeStep_120 rfl 0 rfl ?_
      refine z_iload_n X dd_Reader_takeStep_121 rfl 1 rfl ?_
      refine z_bipush (v := 95) X dd_Reader_takeStep_122 (by decide) ?_
      refine z_icmp_ne (tgt := 132) X dd_Reader_takeStep_124 (by decide) (fun q10 => ?_) (fun q10 => ?_)
      · rw [if_neg q10] at h
        refine z_aload_n X dd_Reader_takeStep_132 rfl 0 rfl ?_
        obtain ⟨v11, ev11, h⟩ := zb h
        refine z_get (j := 1) X dd_Reader_takeStep_133 kc_5 ki_5 (by decide) km_475 (zgr_v ev11) ?_
        obtain ⟨v12, ev12, h⟩ := zb h
        refine z_get (j := 1) X dd_Reader_takeStep_136 kc_3 ki_3 (by decide) km_419 (zgr_v ev12) ?_
        refine z_aload_n X dd_Reader_takeStep_139 rfl 0 rfl ?_
        obtain ⟨v13, ev13, h⟩ := zb h
        refine z_get (j := 7) X dd_Reader_takeStep_140 kc_5 ki_5 (by decide) km_481 (zgi_v ev13) ?_
        obtain ⟨v14, ev14, h⟩ := zb h
        refine z_iaload X dd_Reader_takeStep_143 rfl ev14 ?_
        refine z_sub [] rfl ?_
        exact t_Reader_takeStep_144 X H h
      · rw [if_pos q10] at h
        refine z_bipush (v := 12) X dd_Reader_takeStep_127 (by decide) ?_
        refine z_goto (tgt := 144) X dd_Reader_takeStep_129 (by decide) ?_
        refine z_sub [] rfl ?_
        exact t_Reader_takeStep_144 X H h
    · rw [if_pos q9] at h
      refine z_aload_n X dd_Reader_takeStep_111 rfl 0 rfl ?_
      refine z_bipush (v := 13) X dd_Reader_takeStep_112 (by decide) ?_
      obtain ⟨c17, ec17, h⟩ := zb h
      refine z_put (j := 8) X dd_Reader_takeStep_114 kc_5 ki_5 tt_Reader tk_Reader nn_Reader (by decide) km_482 rfl (tk_Reader 8 (by decide)) rfl rfl ec17 ?_
      refine z_goto (tgt := 147) X dd_Reader_takeStep_117 (by decide) ?_
      refine z_sub [] rfl ?_
      exact t_Reader_takeStep_147 X H h
  · rw [if_neg q8] at h
    refine z_aload_n X dd_Reader_takeStep_99 rfl 0 rfl ?_
    refine z_iconst (v := 3) X dd_Reader_takeStep_100 (by decide) ?_
    obtain ⟨w19, ew19, h⟩ := zb h
    obtain ⟨q18, eq18, h⟩ := zb h
    refine z_callVv X [.int 3] rfl dd_Reader_takeStep_101 (c_Reader_fail l eq18) (cwV 1 X.1.2.2.2.2 (zg_V km_998 km_1000 km_11 km_130 km_1001) rfl rfl rfl (by decide +kernel) ⟨Nat.le_of_ble_eq_true rfl, Nat.le_of_ble_eq_true rfl⟩) (zob_s ew19) kc_5 rfl (Nat.le_of_ble_eq_true rfl) ⟨Nat.le_of_ble_eq_true rfl, Nat.le_of_ble_eq_true rfl⟩ ?_
    refine z_goto (tgt := 147) X dd_Reader_takeStep_104 (by decide) ?_
    refine z_sub [] rfl ?_
    exact t_Reader_takeStep_147 X H h
set_option maxRecDepth 100000 in
set_option maxHeartbeats 4000000 in
theorem t_Reader_takeStep_79  (X : zX p s m args cd D cid B bb_Reader_takeStep 4 rr_Reader zT) (H : zH s meth B n0 none "takeStep") {nf : Nat} {x0 : Nat} {c : Zc} {res : Zc} (h : f_Reader_takeStep_79 nf x0 c = some res) : Zz p l e (zRm 4 94 0 0) s m args below meth cd (MQ below (zQv D cid B res n0 0) args s 0 0 (fun q => B ≤ q)) D cid B 4 0 0 c 79 [(0, .ref x0)] [] := by
  unfold f_Reader_takeStep_79 at h
  refine z_aload_n X dd_Reader_takeStep_79 rfl 0 rfl ?_
  refine z_iconst (v := 2) X dd_Reader_takeStep_80 (by decide) ?_
  obtain ⟨w22, ew22, h⟩ := zb h
  obtain ⟨q21, eq21, h⟩ := zb h
  refine z_callVv X [.int 2] rfl dd_Reader_takeStep_81 (c_Reader_fail l eq21) (cwV 1 X.1.2.2.2.2 (zg_V km_998 km_1000 km_11 km_130 km_1001) rfl rfl rfl (by decide +kernel) ⟨Nat.le_of_ble_eq_true rfl, Nat.le_of_ble_eq_true rfl⟩) (zob_s ew22) kc_5 rfl (Nat.le_of_ble_eq_true rfl) ⟨Nat.le_of_ble_eq_true rfl, Nat.le_of_ble_eq_true rfl⟩ ?_
  refine z_goto (tgt := 147) X dd_Reader_takeStep_84 (by decide) ?_
  refine z_sub [] rfl ?_
  exact t_Reader_takeStep_147 X H h
set_option maxRecDepth 100000 in
set_option maxHeartbeats 4000000 in
theorem t_Reader_takeStep_65  (X : zX p s m args cd D cid B bb_Reader_takeStep 4 rr_Reader zT) (H : zH s meth B n0 none "takeStep") {nf : Nat} {x0 : Nat} {x1 : Int32} {x2 : Int32} {x3 : Int32} {c : Zc} {res : Zc} (h : f_Reader_takeStep_65 nf x0 x1 x2 x3 c = some res) : Zz p l e (zRm 4 94 0 0) s m args below meth cd (MQ below (zQv D cid B res n0 0) args s 0 0 (fun q => B ≤ q)) D cid B 4 0 0 c 65 [(0, .ref x0), (1, .int x1), (2, .int x2), (3, .int x3)] [] := by
  unfold f_Reader_takeStep_65 at h
  refine z_iload_n X dd_Reader_takeStep_65 rfl 3 rfl ?_
  refine z_if_ne (tgt := 87) X dd_Reader_takeStep_66 (by decide) (fun q5 => ?_) (fun q5 => ?_)
  · rw [if_neg q5] at h
    refine z_sub [0, 1, 3] rfl ?_
    exact t_Reader_takeStep_87 X H h
  · rw [if_pos q5] at h
    refine z_iload_n X dd_Reader_takeStep_69 rfl 2 rfl ?_
    refine z_if_eq (tgt := 79) X dd_Reader_takeStep_70 (by decide) (fun q20 => ?_) (fun q20 => ?_)
    · rw [if_pos q20] at h
      refine z_sub [0] rfl ?_
      exact t_Reader_takeStep_79 X H h
    · rw [if_neg q20] at h
      refine z_iload_n X dd_Reader_takeStep_73 rfl 1 rfl ?_
      refine z_bipush (v := 94) X dd_Reader_takeStep_74 (by decide) ?_
      refine z_icmp_eq (tgt := 87) X dd_Reader_takeStep_76 (by decide) (fun q23 => ?_) (fun q23 => ?_)
      · rw [if_pos q23] at h
        refine z_sub [0, 1, 3] rfl ?_
        exact t_Reader_takeStep_87 X H h
      · rw [if_neg q23] at h
        refine z_sub [0] rfl ?_
        exact t_Reader_takeStep_79 X H h
set_option maxRecDepth 100000 in
set_option maxHeartbeats 4000000 in
theorem t_Reader_takeStep_31  (X : zX p s m args cd D cid B bb_Reader_takeStep 4 rr_Reader zT) (H : zH s meth B n0 none "takeStep") {nf : Nat} {x0 : Nat} {x1 : Int32} {x2 : Int32} {s0 : Int32} {c : Zc} {res : Zc} (h : f_Reader_takeStep_31 nf x0 x1 x2 s0 c = some res) : Zz p l e (zRm 4 94 0 0) s m args below meth cd (MQ below (zQv D cid B res n0 0) args s 0 0 (fun q => B ≤ q)) D cid B 4 0 0 c 31 [(0, .ref x0), (1, .int x1), (2, .int x2)] [.int s0] := by
  unfold f_Reader_takeStep_31 at h
  refine z_istore_n (lv' := [(3, .int s0), (0, .ref x0), (1, .int x1), (2, .int x2)]) X dd_Reader_takeStep_31 rfl (by decide) rfl ?_
  refine z_iload_n X dd_Reader_takeStep_32 rfl 3 rfl ?_
  refine z_if_eq (tgt := 65) X dd_Reader_takeStep_33 (by decide) (fun q4 => ?_) (fun q4 => ?_)
  · rw [if_pos q4] at h
    refine z_sub [1, 2, 3, 0] rfl ?_
    exact t_Reader_takeStep_65 X H h
  · rw [if_neg q4] at h
    refine z_iload_n X dd_Reader_takeStep_36 rfl 2 rfl ?_
    refine z_bipush (v := 40) X dd_Reader_takeStep_37 (by decide) ?_
    refine z_icmp_ne (tgt := 65) X dd_Reader_takeStep_39 (by decide) (fun q24 => ?_) (fun q24 => ?_)
    · rw [if_neg q24] at h
      refine z_sub [1, 2, 3, 0] rfl ?_
      exact t_Reader_takeStep_65 X H h
    · rw [if_pos q24] at h
      refine z_aload_n X dd_Reader_takeStep_42 rfl 1 rfl ?_
      obtain ⟨v25, ev25, h⟩ := zb h
      refine z_get (j := 5) X dd_Reader_takeStep_43 kc_5 ki_5 (by decide) km_479 (zgr_v ev25) ?_
      obtain ⟨w27, ew27, h⟩ := zb h
      obtain ⟨q26, eq26, h⟩ := zb h
      refine z_callVv X [] rfl dd_Reader_takeStep_46 (c_Way_openRows l eq26) (cwV 0 X.1.2.2.2.2 (zg_V km_1088 km_1089 km_1090 km_129 km_1091) rfl rfl rfl (by decide +kernel) ⟨Nat.le_of_ble_eq_true rfl, Nat.le_of_ble_eq_true rfl⟩) (zob_s ew27) kc_1 rfl (Nat.le_of_ble_eq_true rfl) ⟨Nat.le_of_ble_eq_true rfl, Nat.le_of_ble_eq_true rfl⟩ ?_
      refine z_aload_n X dd_Reader_takeStep_49 rfl 1 rfl ?_
      obtain ⟨v28, ev28, h⟩ := zb h
      refine z_get (j := 2) X dd_Reader_takeStep_50 kc_5 ki_5 (by decide) km_476 (zgr_v ev28) ?_
      refine z_dup X dd_Reader_takeStep_53 rfl ?_
      obtain ⟨v29, ev29, h⟩ := zb h
      refine z_get (j := 0) X dd_Reader_takeStep_54 kc_4 ki_4 (by decide) km_446 (zgi_v ev29) ?_
      refine z_iconst (v := 1) X dd_Reader_takeStep_57 (by decide) ?_
      refine z_iadd X dd_Reader_takeStep_58 ?_
      obtain ⟨c30, ec30, h⟩ := zb h
      refine z_put (j := 0) X dd_Reader_takeStep_59 kc_4 ki_4 tt_Operators tk_Operators nn_Operators (by decide) km_446 rfl (tk_Operators 0 (by decide)) rfl rfl ec30 ?_
      refine z_goto (tgt := 147) X dd_Reader_takeStep_62 (by decide) ?_
      refine z_sub [] rfl ?_
      exact t_Reader_takeStep_147 X H h
set_option maxRecDepth 100000 in
set_option maxHeartbeats 4000000 in
theorem t_Reader_takeStep_26  (X : zX p s m args cd D cid B bb_Reader_takeStep 4 rr_Reader zT) (H : zH s meth B n0 none "takeStep") {nf : Nat} {x0 : Nat} {x1 : Int32} {x2 : Int32} {c : Zc} {res : Zc} (h : f_Reader_takeStep_26 nf x0 x1 x2 c = some res) : Zz p l e (zRm 4 94 0 0) s m args below meth cd (MQ below (zQv D cid B res n0 0) args s 0 0 (fun q => B ≤ q)) D cid B 4 0 0 c 26 [(0, .ref x0), (1, .int x1), (2, .int x2)] [] := by
  unfold f_Reader_takeStep_26 at h
  refine z_iconst (v := 1) X dd_Reader_takeStep_26 (by decide) ?_
  refine z_goto (tgt := 31) X dd_Reader_takeStep_27 (by decide) ?_
  exact t_Reader_takeStep_31 X H h
set_option maxRecDepth 100000 in
set_option maxHeartbeats 4000000 in
theorem t_Reader_takeStep_14  (X : zX p s m args cd D cid B bb_Reader_takeStep 4 rr_Reader zT) (H : zH s meth B n0 none "takeStep") {nf : Nat} {x0 : Nat} {x1 : Int32} {s0 : Int32} {c : Zc} {res : Zc} (h : f_Reader_takeStep_14 nf x0 x1 s0 c = some res) : Zz p l e (zRm 4 94 0 0) s m args below meth cd (MQ below (zQv D cid B res n0 0) args s 0 0 (fun q => B ≤ q)) D cid B 4 0 0 c 14 [(0, .ref x0), (1, .int x1)] [.int s0] := by
  unfold f_Reader_takeStep_14 at h
  refine z_istore_n (lv' := [(2, .int s0), (0, .ref x0), (1, .int x1)]) X dd_Reader_takeStep_14 rfl (by decide) rfl ?_
  refine z_iload_n X dd_Reader_takeStep_15 rfl 2 rfl ?_
  refine z_iconst (v := 5) X dd_Reader_takeStep_16 (by decide) ?_
  refine z_icmp_eq (tgt := 26) X dd_Reader_takeStep_17 (by decide) (fun q3 => ?_) (fun q3 => ?_)
  · rw [if_pos q3] at h
    refine z_sub [1, 2, 0] rfl ?_
    exact t_Reader_takeStep_26 X H h
  · rw [if_neg q3] at h
    refine z_iload_n X dd_Reader_takeStep_20 rfl 2 rfl ?_
    refine z_bipush (v := 95) X dd_Reader_takeStep_21 (by decide) ?_
    refine z_icmp_ne (tgt := 30) X dd_Reader_takeStep_23 (by decide) (fun q31 => ?_) (fun q31 => ?_)
    · rw [if_neg q31] at h
      refine z_iconst (v := 0) X dd_Reader_takeStep_30 (by decide) ?_
      refine z_sub [1, 2, 0] rfl ?_
      exact t_Reader_takeStep_31 X H h
    · rw [if_pos q31] at h
      refine z_sub [1, 2, 0] rfl ?_
      exact t_Reader_takeStep_26 X H h
set_option maxRecDepth 100000 in
set_option maxHeartbeats 4000000 in
theorem c_Reader_takeStep (l : Launch) {nf : Nat} {a0 : Nat} {a1 : Int32} {c : Zc} {res : Zc} (h : f_Reader_takeStep nf a0 a1 c = some res) : zM l yy_Reader_takeStep ww_Reader_takeStep 4 94 0 0 [.ref a0, .int a1] c (fun D cid B => zQv D cid B res c.length 0) := by
  refine z_met (cc := bb_Reader_takeStep) (maxL := 4) (ret := none) (by decide +kernel) rfl (Nat.le_of_ble_eq_true rfl) ?_
  intro p e s m args below meth cd D cid B X h1 h2 h3 h4
  have X : zX p s m args cd D cid B bb_Reader_takeStep 4 rr_Reader zT := X
  have H : zH s meth B c.length none "takeStep" := ⟨h1, h2, h4, h3⟩
  unfold f_Reader_takeStep at h
  show Zz p l e (zRm 4 94 0 0) s m args below meth cd _ D cid B 4 0 0 c 0 [(0, .ref a0), (1, .int a1)] []
  refine z_aload_n X dd_Reader_takeStep_0 rfl 0 rfl ?_
  obtain ⟨v1, ev1, h⟩ := zb h
  refine z_get (j := 8) X dd_Reader_takeStep_1 kc_5 ki_5 (by decide) km_482 (zgi_v ev1) ?_
  refine z_bipush (v := 12) X dd_Reader_takeStep_4 (by decide) ?_
  refine z_icmp_ne (tgt := 13) X dd_Reader_takeStep_6 (by decide) (fun q2 => ?_) (fun q2 => ?_)
  · rw [if_neg q2] at h
    refine z_iconst (v := 0) X dd_Reader_takeStep_13 (by decide) ?_
    exact t_Reader_takeStep_14 X H h
  · rw [if_pos q2] at h
    refine z_iconst (v := 1) X dd_Reader_takeStep_9 (by decide) ?_
    refine z_goto (tgt := 14) X dd_Reader_takeStep_10 (by decide) ?_
    exact t_Reader_takeStep_14 X H h
theorem dd_Reader_takeAfterStep_0 : decode bb_Reader_takeAfterStep 0 = .ok (.iload_n 1, 1) := by decide +kernel
theorem dd_Reader_takeAfterStep_1 : decode bb_Reader_takeAfterStep 1 = .ok (.bipush 42, 2) := by decide +kernel
theorem dd_Reader_takeAfterStep_3 : decode bb_Reader_takeAfterStep 3 = .ok (.if_icmp .eq 15, 3) := by decide +kernel
theorem dd_Reader_takeAfterStep_6 : decode bb_Reader_takeAfterStep 6 = .ok (.iload_n 1, 1) := by decide +kernel
theorem dd_Reader_takeAfterStep_7 : decode bb_Reader_takeAfterStep 7 = .ok (.bipush 43, 2) := by decide +kernel
theorem dd_Reader_takeAfterStep_9 : decode bb_Reader_takeAfterStep 9 = .ok (.if_icmp .eq 9, 3) := by decide +kernel
theorem dd_Reader_takeAfterStep_12 : decode bb_Reader_takeAfterStep 12 = .ok (.iload_n 1, 1) := by decide +kernel
theorem dd_Reader_takeAfterStep_13 : decode bb_Reader_takeAfterStep 13 = .ok (.bipush 63, 2) := by decide +kernel
theorem dd_Reader_takeAfterStep_15 : decode bb_Reader_takeAfterStep 15 = .ok (.if_icmp .ne 7, 3) := by decide +kernel
theorem dd_Reader_takeAfterStep_18 : decode bb_Reader_takeAfterStep 18 = .ok (.iconst 1, 1) := by decide +kernel
theorem dd_Reader_takeAfterStep_19 : decode bb_Reader_takeAfterStep 19 = .ok (.goto 4, 3) := by decide +kernel
theorem dd_Reader_takeAfterStep_22 : decode bb_Reader_takeAfterStep 22 = .ok (.iconst 0, 1) := by decide +kernel
theorem dd_Reader_takeAfterStep_23 : decode bb_Reader_takeAfterStep 23 = .ok (.istore_n 2, 1) := by decide +kernel
theorem dd_Reader_takeAfterStep_24 : decode bb_Reader_takeAfterStep 24 = .ok (.aload_n 0, 1) := by decide +kernel
theorem dd_Reader_takeAfterStep_25 : decode bb_Reader_takeAfterStep 25 = .ok (.getfield 33, 3) := by decide +kernel
theorem dd_Reader_takeAfterStep_28 : decode bb_Reader_takeAfterStep 28 = .ok (.bipush 14, 2) := by decide +kernel
theorem dd_Reader_takeAfterStep_30 : decode bb_Reader_takeAfterStep 30 = .ok (.if_icmp .ne 45, 3) := by decide +kernel
theorem dd_Reader_takeAfterStep_33 : decode bb_Reader_takeAfterStep 33 = .ok (.iload_n 2, 1) := by decide +kernel
theorem dd_Reader_takeAfterStep_34 : decode bb_Reader_takeAfterStep 34 = .ok (.ifCond .eq 41, 3) := by decide +kernel
theorem dd_Reader_takeAfterStep_37 : decode bb_Reader_takeAfterStep 37 = .ok (.aload_n 0, 1) := by decide +kernel
theorem dd_Reader_takeAfterStep_38 : decode bb_Reader_takeAfterStep 38 = .ok (.getfield 79, 3) := by decide +kernel
theorem dd_Reader_takeAfterStep_41 : decode bb_Reader_takeAfterStep 41 = .ok (.iload_n 1, 1) := by decide +kernel
theorem dd_Reader_takeAfterStep_42 : decode bb_Reader_takeAfterStep 42 = .ok (.bipush 43, 2) := by decide +kernel
theorem dd_Reader_takeAfterStep_44 : decode bb_Reader_takeAfterStep 44 = .ok (.if_icmp .eq 7, 3) := by decide +kernel
theorem dd_Reader_takeAfterStep_47 : decode bb_Reader_takeAfterStep 47 = .ok (.iconst 1, 1) := by decide +kernel
theorem dd_Reader_takeAfterStep_48 : decode bb_Reader_takeAfterStep 48 = .ok (.goto 4, 3) := by decide +kernel
theorem dd_Reader_takeAfterStep_51 : decode bb_Reader_takeAfterStep 51 = .ok (.iconst 0, 1) := by decide +kernel
theorem dd_Reader_takeAfterStep_52 : decode bb_Reader_takeAfterStep 52 = .ok (.iload_n 1, 1) := by decide +kernel
theorem dd_Reader_takeAfterStep_53 : decode bb_Reader_takeAfterStep 53 = .ok (.bipush 63, 2) := by decide +kernel
theorem dd_Reader_takeAfterStep_55 : decode bb_Reader_takeAfterStep 55 = .ok (.if_icmp .eq 7, 3) := by decide +kernel
theorem dd_Reader_takeAfterStep_58 : decode bb_Reader_takeAfterStep 58 = .ok (.iconst 1, 1) := by decide +kernel
theorem dd_Reader_takeAfterStep_59 : decode bb_Reader_takeAfterStep 59 = .ok (.goto 4, 3) := by decide +kernel
theorem dd_Reader_takeAfterStep_62 : decode bb_Reader_takeAfterStep 62 = .ok (.iconst 0, 1) := by decide +kernel
theorem dd_Reader_takeAfterStep_63 : decode bb_Reader_takeAfterStep 63 = .ok (.invokevirtual 261, 3) := by decide +kernel
theorem dd_Reader_takeAfterStep_66 : decode bb_Reader_takeAfterStep 66 = .ok (.aload_n 0, 1) := by decide +kernel
theorem dd_Reader_takeAfterStep_67 : decode bb_Reader_takeAfterStep 67 = .ok (.bipush 15, 2) := by decide +kernel
theorem dd_Reader_takeAfterStep_69 : decode bb_Reader_takeAfterStep 69 = .ok (.putfield 33, 3) := by decide +kernel
theorem dd_Reader_takeAfterStep_72 : decode bb_Reader_takeAfterStep 72 = .ok (.goto 108, 3) := by decide +kernel
theorem dd_Reader_takeAfterStep_75 : decode bb_Reader_takeAfterStep 75 = .ok (.iload_n 1, 1) := by decide +kernel
theorem dd_Reader_takeAfterStep_76 : decode bb_Reader_takeAfterStep 76 = .ok (.bipush 124, 2) := by decide +kernel
theorem dd_Reader_takeAfterStep_78 : decode bb_Reader_takeAfterStep 78 = .ok (.if_icmp .ne 19, 3) := by decide +kernel
theorem dd_Reader_takeAfterStep_81 : decode bb_Reader_takeAfterStep 81 = .ok (.aload_n 0, 1) := by decide +kernel
theorem dd_Reader_takeAfterStep_82 : decode bb_Reader_takeAfterStep 82 = .ok (.getfield 79, 3) := by decide +kernel
theorem dd_Reader_takeAfterStep_85 : decode bb_Reader_takeAfterStep 85 = .ok (.invokevirtual 265, 3) := by decide +kernel
theorem dd_Reader_takeAfterStep_88 : decode bb_Reader_takeAfterStep 88 = .ok (.aload_n 0, 1) := by decide +kernel
theorem dd_Reader_takeAfterStep_89 : decode bb_Reader_takeAfterStep 89 = .ok (.bipush 12, 2) := by decide +kernel
theorem dd_Reader_takeAfterStep_91 : decode bb_Reader_takeAfterStep 91 = .ok (.putfield 33, 3) := by decide +kernel
theorem dd_Reader_takeAfterStep_94 : decode bb_Reader_takeAfterStep 94 = .ok (.goto 86, 3) := by decide +kernel
theorem dd_Reader_takeAfterStep_97 : decode bb_Reader_takeAfterStep 97 = .ok (.iload_n 1, 1) := by decide +kernel
theorem dd_Reader_takeAfterStep_98 : decode bb_Reader_takeAfterStep 98 = .ok (.bipush 41, 2) := by decide +kernel
theorem dd_Reader_takeAfterStep_100 : decode bb_Reader_takeAfterStep 100 = .ok (.if_icmp .ne 42, 3) := by decide +kernel
theorem dd_Reader_takeAfterStep_103 : decode bb_Reader_takeAfterStep 103 = .ok (.aload_n 0, 1) := by decide +kernel
theorem dd_Reader_takeAfterStep_104 : decode bb_Reader_takeAfterStep 104 = .ok (.getfield 79, 3) := by decide +kernel
theorem dd_Reader_takeAfterStep_107 : decode bb_Reader_takeAfterStep 107 = .ok (.getfield 268, 3) := by decide +kernel
theorem dd_Reader_takeAfterStep_110 : decode bb_Reader_takeAfterStep 110 = .ok (.ifCond .le 32, 3) := by decide +kernel
theorem dd_Reader_takeAfterStep_113 : decode bb_Reader_takeAfterStep 113 = .ok (.aload_n 0, 1) := by decide +kernel
theorem dd_Reader_takeAfterStep_114 : decode bb_Reader_takeAfterStep 114 = .ok (.getfield 79, 3) := by decide +kernel
theorem dd_Reader_takeAfterStep_117 : decode bb_Reader_takeAfterStep 117 = .ok (.invokevirtual 271, 3) := by decide +kernel
theorem dd_Reader_takeAfterStep_120 : decode bb_Reader_takeAfterStep 120 = .ok (.aload_n 0, 1) := by decide +kernel
theorem dd_Reader_takeAfterStep_121 : decode bb_Reader_takeAfterStep 121 = .ok (.getfield 87, 3) := by decide +kernel
theorem dd_Reader_takeAfterStep_124 : decode bb_Reader_takeAfterStep 124 = .ok (.dup, 1) := by decide +kernel
theorem dd_Reader_takeAfterStep_125 : decode bb_Reader_takeAfterStep 125 = .ok (.getfield 136, 3) := by decide +kernel
theorem dd_Reader_takeAfterStep_128 : decode bb_Reader_takeAfterStep 128 = .ok (.iconst 1, 1) := by decide +kernel
theorem dd_Reader_takeAfterStep_129 : decode bb_Reader_takeAfterStep 129 = .ok (.isub, 1) := by decide +kernel
theorem dd_Reader_takeAfterStep_130 : decode bb_Reader_takeAfterStep 130 = .ok (.putfield 136, 3) := by decide +kernel
theorem dd_Reader_takeAfterStep_133 : decode bb_Reader_takeAfterStep 133 = .ok (.aload_n 0, 1) := by decide +kernel
theorem dd_Reader_takeAfterStep_134 : decode bb_Reader_takeAfterStep 134 = .ok (.bipush 14, 2) := by decide +kernel
theorem dd_Reader_takeAfterStep_136 : decode bb_Reader_takeAfterStep 136 = .ok (.putfield 33, 3) := by decide +kernel
theorem dd_Reader_takeAfterStep_139 : decode bb_Reader_takeAfterStep 139 = .ok (.goto 41, 3) := by decide +kernel
theorem dd_Reader_takeAfterStep_142 : decode bb_Reader_takeAfterStep 142 = .ok (.iload_n 1, 1) := by decide +kernel
theorem dd_Reader_takeAfterStep_143 : decode bb_Reader_takeAfterStep 143 = .ok (.bipush 93, 2) := by decide +kernel
theorem dd_Reader_takeAfterStep_145 : decode bb_Reader_takeAfterStep 145 = .ok (.if_icmp .ne 29, 3) := by decide +kernel
theorem dd_Reader_takeAfterStep_148 : decode bb_Reader_takeAfterStep 148 = .ok (.aload_n 0, 1) := by decide +kernel
theorem dd_Reader_takeAfterStep_149 : decode bb_Reader_takeAfterStep 149 = .ok (.getfield 79, 3) := by decide +kernel
theorem dd_Reader_takeAfterStep_152 : decode bb_Reader_takeAfterStep 152 = .ok (.getfield 268, 3) := by decide +kernel
theorem dd_Reader_takeAfterStep_155 : decode bb_Reader_takeAfterStep 155 = .ok (.ifCond .ne 19, 3) := by decide +kernel
theorem dd_Reader_takeAfterStep_158 : decode bb_Reader_takeAfterStep 158 = .ok (.aload_n 0, 1) := by decide +kernel
theorem dd_Reader_takeAfterStep_159 : decode bb_Reader_takeAfterStep 159 = .ok (.getfield 79, 3) := by decide +kernel
theorem dd_Reader_takeAfterStep_162 : decode bb_Reader_takeAfterStep 162 = .ok (.invokevirtual 274, 3) := by decide +kernel
theorem dd_Reader_takeAfterStep_165 : decode bb_Reader_takeAfterStep 165 = .ok (.aload_n 0, 1) := by decide +kernel
theorem dd_Reader_takeAfterStep_166 : decode bb_Reader_takeAfterStep 166 = .ok (.bipush 11, 2) := by decide +kernel
theorem dd_Reader_takeAfterStep_168 : decode bb_Reader_takeAfterStep 168 = .ok (.putfield 33, 3) := by decide +kernel
theorem dd_Reader_takeAfterStep_171 : decode bb_Reader_takeAfterStep 171 = .ok (.goto 9, 3) := by decide +kernel
theorem dd_Reader_takeAfterStep_174 : decode bb_Reader_takeAfterStep 174 = .ok (.aload_n 0, 1) := by decide +kernel
theorem dd_Reader_takeAfterStep_175 : decode bb_Reader_takeAfterStep 175 = .ok (.bipush 12, 2) := by decide +kernel
theorem dd_Reader_takeAfterStep_177 : decode bb_Reader_takeAfterStep 177 = .ok (.invokevirtual 230, 3) := by decide +kernel
theorem dd_Reader_takeAfterStep_180 : decode bb_Reader_takeAfterStep 180 = .ok (.return_, 1) := by decide +kernel
set_option maxRecDepth 100000 in
set_option maxHeartbeats 4000000 in
theorem t_Reader_takeAfterStep_180  (X : zX p s m args cd D cid B bb_Reader_takeAfterStep 3 rr_Reader zT) (H : zH s meth B n0 none "takeAfterStep") {nf : Nat}  {c : Zc} {res : Zc} (h : f_Reader_takeAfterStep_180 nf  c = some res) : Zz p l e (zRm 4 93 0 0) s m args below meth cd (MQ below (zQv D cid B res n0 0) args s 0 0 (fun q => B ≤ q)) D cid B 3 0 0 c 180 [] [] := by
  unfold f_Reader_takeAfterStep_180 at h
  obtain rfl := Option.some.inj h
  exact z_vret X H.1 H.2.1 H.2.2.1 dd_Reader_takeAfterStep_180
set_option maxRecDepth 100000 in
set_option maxHeartbeats 4000000 in
theorem t_Reader_takeAfterStep_174  (X : zX p s m args cd D cid B bb_Reader_takeAfterStep 3 rr_Reader zT) (H : zH s meth B n0 none "takeAfterStep") {nf : Nat} {x0 : Nat} {c : Zc} {res : Zc} (h : f_Reader_takeAfterStep_174 nf x0 c = some res) : Zz p l e (zRm 4 93 0 0) s m args below meth cd (MQ below (zQv D cid B res n0 0) args s 0 0 (fun q => B ≤ q)) D cid B 3 0 0 c 174 [(0, .ref x0)] [] := by
  unfold f_Reader_takeAfterStep_174 at h
  refine z_aload_n X dd_Reader_takeAfterStep_174 rfl 0 rfl ?_
  refine z_bipush (v := 12) X dd_Reader_takeAfterStep_175 (by decide) ?_
  obtain ⟨w8, ew8, h⟩ := zb h
  obtain ⟨q7, eq7, h⟩ := zb h
  refine z_callVv X [.int 12] rfl dd_Reader_takeAfterStep_177 (c_Reader_passOn l eq7) (cwV 1 X.1.2.2.2.2 (zg_V km_1068 km_1070 km_22 km_130 km_1071) rfl rfl rfl (by decide +kernel) ⟨Nat.le_of_ble_eq_true rfl, Nat.le_of_ble_eq_true rfl⟩) (zob_s ew8) kc_5 rfl (Nat.le_of_ble_eq_true rfl) ⟨Nat.le_of_ble_eq_true rfl, Nat.le_of_ble_eq_true rfl⟩ ?_
  refine z_sub [] rfl ?_
  exact t_Reader_takeAfterStep_180 X H h
set_option maxRecDepth 100000 in
set_option maxHeartbeats 4000000 in
theorem t_Reader_takeAfterStep_142  (X : zX p s m args cd D cid B bb_Reader_takeAfterStep 3 rr_Reader zT) (H : zH s meth B n0 none "takeAfterStep") {nf : Nat} {x0 : Nat} {x1 : Int32} {c : Zc} {res : Zc} (h : f_Reader_takeAfterStep_142 nf x0 x1 c = some res) : Zz p l e (zRm 4 93 0 0) s m args below meth cd (MQ below (zQv D cid B res n0 0) args s 0 0 (fun q => B ≤ q)) D cid B 3 0 0 c 142 [(0, .ref x0), (1, .int x1)] [] := by
  unfold f_Reader_takeAfterStep_142 at h
  refine z_iload_n X dd_Reader_takeAfterStep_142 rfl 1 rfl ?_
  refine z_bipush (v := 93) X dd_Reader_takeAfterStep_143 (by decide) ?_
  refine z_icmp_ne (tgt := 174) X dd_Reader_takeAfterStep_145 (by decide) (fun q6 => ?_) (fun q6 => ?_)
  · rw [if_neg q6] at h
    refine z_sub [0] rfl ?_
    exact t_Reader_takeAfterStep_174 X H h
  · rw [if_pos q6] at h
    refine z_aload_n X dd_Reader_takeAfterStep_148 rfl 0 rfl ?_
    obtain ⟨v9, ev9, h⟩ := zb h
    refine z_get (j := 5) X dd_Reader_takeAfterStep_149 kc_5 ki_5 (by decide) km_479 (zgr_v ev9) ?_
    obtain ⟨v10, ev10, h⟩ := zb h
    refine z_get (j := 9) X dd_Reader_takeAfterStep_152 kc_1 ki_1 (by decide) km_245 (zgi_v ev10) ?_
    refine z_if_ne (tgt := 174) X dd_Reader_takeAfterStep_155 (by decide) (fun q11 => ?_) (fun q11 => ?_)
    · rw [if_neg q11] at h
      refine z_sub [0] rfl ?_
      exact t_Reader_takeAfterStep_174 X H h
    · rw [if_pos q11] at h
      refine z_aload_n X dd_Reader_takeAfterStep_158 rfl 0 rfl ?_
      obtain ⟨v12, ev12, h⟩ := zb h
      refine z_get (j := 5) X dd_Reader_takeAfterStep_159 kc_5 ki_5 (by decide) km_479 (zgr_v ev12) ?_
      obtain ⟨w14, ew14, h⟩ := zb h
      obtain ⟨q13, eq13, h⟩ := zb h
      refine z_callVv X [] rfl dd_Reader_takeAfterStep_162 (c_Way_endRows l eq13) (cwV 0 X.1.2.2.2.2 (zg_V km_1127 km_1128 km_1129 km_129 km_1130) rfl rfl rfl (by decide +kernel) ⟨Nat.le_of_ble_eq_true rfl, Nat.le_of_ble_eq_true rfl⟩) (zob_s ew14) kc_1 rfl (Nat.le_of_ble_eq_true rfl) ⟨Nat.le_of_ble_eq_true rfl, Nat.le_of_ble_eq_true rfl⟩ ?_
      refine z_aload_n X dd_Reader_takeAfterStep_165 rfl 0 rfl ?_
      refine z_bipush (v := 11) X dd_Reader_takeAfterStep_166 (by decide) ?_
      obtain ⟨c15, ec15, h⟩ := zb h
      refine z_put (j := 8) X dd_Reader_takeAfterStep_168 kc_5 ki_5 tt_Reader tk_Reader nn_Reader (by decide) km_482 rfl (tk_Reader 8 (by decide)) rfl rfl ec15 ?_
      refine z_goto (tgt := 180) X dd_Reader_takeAfterStep_171 (by decide) ?_
      refine z_sub [] rfl ?_
      exact t_Reader_takeAfterStep_180 X H h
set_option maxRecDepth 100000 in
set_option maxHeartbeats 4000000 in
theorem t_Reader_takeAfterStep_75  (X : zX p s m args cd D cid B bb_Reader_takeAfterStep 3 rr_Reader zT) (H : zH s meth B n0 none "takeAfterStep") {nf : Nat} {x0 : Nat} {x1 : Int32} {c : Zc} {res : Zc} (h : f_Reader_takeAfterStep_75 nf x0 x1 c = some res) : Zz p l e (zRm 4 93 0 0) s m args below meth cd (MQ below (zQv D cid B res n0 0) args s 0 0 (fun q => B ≤ q)) D cid B 3 0 0 c 75 [(0, .ref x0), (1, .int x1)] [] := by
  unfold f_Reader_takeAfterStep_75 at h
  refine z_iload_n X dd_Reader_takeAfterStep_75 rfl 1 rfl ?_
  refine z_bipush (v := 124) X dd_Reader_takeAfterStep_76 (by decide) ?_
  refine z_icmp_ne (tgt := 97) X dd_Reader_takeAfterStep_78 (by decide) (fun q4 => ?_) (fun q4 => ?_)
  · rw [if_neg q4] at h
    refine z_iload_n X dd_Reader_takeAfterStep_97 rfl 1 rfl ?_
    refine z_bipush (v := 41) X dd_Reader_takeAfterStep_98 (by decide) ?_
    refine z_icmp_ne (tgt := 142) X dd_Reader_takeAfterStep_100 (by decide) (fun q5 => ?_) (fun q5 => ?_)
    · rw [if_neg q5] at h
      exact t_Reader_takeAfterStep_142 X H h
    · rw [if_pos q5] at h
      refine z_aload_n X dd_Reader_takeAfterStep_103 rfl 0 rfl ?_
      obtain ⟨v16, ev16, h⟩ := zb h
      refine z_get (j := 5) X dd_Reader_takeAfterStep_104 kc_5 ki_5 (by decide) km_479 (zgr_v ev16) ?_
      obtain ⟨v17, ev17, h⟩ := zb h
      refine z_get (j := 9) X dd_Reader_takeAfterStep_107 kc_1 ki_1 (by decide) km_245 (zgi_v ev17) ?_
      refine z_if_le (tgt := 142) X dd_Reader_takeAfterStep_110 (by decide) (fun q18 => ?_) (fun q18 => ?_)
      · rw [if_pos q18] at h
        exact t_Reader_takeAfterStep_142 X H h
      · rw [if_neg q18] at h
        refine z_aload_n X dd_Reader_takeAfterStep_113 rfl 0 rfl ?_
        obtain ⟨v19, ev19, h⟩ := zb h
        refine z_get (j := 5) X dd_Reader_takeAfterStep_114 kc_5 ki_5 (by decide) km_479 (zgr_v ev19) ?_
        obtain ⟨w21, ew21, h⟩ := zb h
        obtain ⟨q20, eq20, h⟩ := zb h
        refine z_callVv X [] rfl dd_Reader_takeAfterStep_117 (c_Way_closeRows l eq20) (cwV 0 X.1.2.2.2.2 (zg_V km_1122 km_1123 km_1124 km_129 km_1125) rfl rfl rfl (by decide +kernel) ⟨Nat.le_of_ble_eq_true rfl, Nat.le_of_ble_eq_true rfl⟩) (zob_s ew21) kc_1 rfl (Nat.le_of_ble_eq_true rfl) ⟨Nat.le_of_ble_eq_true rfl, Nat.le_of_ble_eq_true rfl⟩ ?_
        refine z_aload_n X dd_Reader_takeAfterStep_120 rfl 0 rfl ?_
        obtain ⟨v22, ev22, h⟩ := zb h
        refine z_get (j := 2) X dd_Reader_takeAfterStep_121 kc_5 ki_5 (by decide) km_476 (zgr_v ev22) ?_
        refine z_dup X dd_Reader_takeAfterStep_124 rfl ?_
        obtain ⟨v23, ev23, h⟩ := zb h
        refine z_get (j := 0) X dd_Reader_takeAfterStep_125 kc_4 ki_4 (by decide) km_446 (zgi_v ev23) ?_
        refine z_iconst (v := 1) X dd_Reader_takeAfterStep_128 (by decide) ?_
        refine z_isub X dd_Reader_takeAfterStep_129 ?_
        obtain ⟨c24, ec24, h⟩ := zb h
        refine z_put (j := 0) X dd_Reader_takeAfterStep_130 kc_4 ki_4 tt_Operators tk_Operators nn_Operators (by decide) km_446 rfl (tk_Operators 0 (by decide)) rfl rfl ec24 ?_
        refine z_aload_n X dd_Reader_takeAfterStep_133 rfl 0 rfl ?_
        refine z_bipush (v := 14) X dd_Reader_takeAfterStep_134 (by decide) ?_
        obtain ⟨c25, ec25, h⟩ := zb h
        refine z_put (j := 8) X dd_Reader_takeAfterStep_136 kc_5 ki_5 tt_Reader tk_Reader nn_Reader (by decide) km_482 rfl (tk_Reader 8 (by decide)) rfl rfl ec25 ?_
        refine z_goto (tgt := 180) X dd_Reader_takeAfterStep_139 (by decide) ?_
        refine z_sub [] rfl ?_
        exact t_Reader_takeAfterStep_180 X H h
  · rw [if_pos q4] at h
    refine z_aload_n X dd_Reader_takeAfterStep_81 rfl 0 rfl ?_
    obtain ⟨v26, ev26, h⟩ := zb h
    refine z_get (j := 5) X dd_Reader_takeAfterStep_82 kc_5 ki_5 (by decide) km_479 (zgr_v ev26) ?_
    obtain ⟨w28, ew28, h⟩ := zb h
    obtain ⟨q27, eq27, h⟩ := zb h
    refine z_callVv X [] rfl dd_Reader_takeAfterStep_85 (c_Way_nextRow l eq27) (cwV 0 X.1.2.2.2.2 (zg_V km_1118 km_1119 km_1120 km_129 km_1121) rfl rfl rfl (by decide +kernel) ⟨Nat.le_of_ble_eq_true rfl, Nat.le_of_ble_eq_true rfl⟩) (zob_s ew28) kc_1 rfl (Nat.le_of_ble_eq_true rfl) ⟨Nat.le_of_ble_eq_true rfl, Nat.le_of_ble_eq_true rfl⟩ ?_
    refine z_aload_n X dd_Reader_takeAfterStep_88 rfl 0 rfl ?_
    refine z_bipush (v := 12) X dd_Reader_takeAfterStep_89 (by decide) ?_
    obtain ⟨c29, ec29, h⟩ := zb h
    refine z_put (j := 8) X dd_Reader_takeAfterStep_91 kc_5 ki_5 tt_Reader tk_Reader nn_Reader (by decide) km_482 rfl (tk_Reader 8 (by decide)) rfl rfl ec29 ?_
    refine z_goto (tgt := 180) X dd_Reader_takeAfterStep_94 (by decide) ?_
    refine z_sub [] rfl ?_
    exact t_Reader_takeAfterStep_180 X H h
set_option maxRecDepth 100000 in
set_option maxHeartbeats 4000000 in
theorem t_Reader_takeAfterStep_63  (X : zX p s m args cd D cid B bb_Reader_takeAfterStep 3 rr_Reader zT) (H : zH s meth B n0 none "takeAfterStep") {nf : Nat} {x0 : Nat} {s0 : Nat} {s1 : Int32} {s2 : Int32} {c : Zc} {res : Zc} (h : f_Reader_takeAfterStep_63 nf x0 s0 s1 s2 c = some res) : Zz p l e (zRm 4 93 0 0) s m args below meth cd (MQ below (zQv D cid B res n0 0) args s 0 0 (fun q => B ≤ q)) D cid B 3 0 0 c 63 [(0, .ref x0)] [.int s2, .int s1, .ref s0] := by
  unfold f_Reader_takeAfterStep_63 at h
  obtain ⟨w35, ew35, h⟩ := zb h
  obtain ⟨q34, eq34, h⟩ := zb h
  refine z_callVv X [.int s1, .int s2] rfl dd_Reader_takeAfterStep_63 (c_Way_repeat l eq34) (cwV 2 X.1.2.2.2.2 (zg_V km_1114 km_1115 km_1116 km_129 km_1117) rfl rfl rfl (by decide +kernel) ⟨Nat.le_of_ble_eq_true rfl, Nat.le_of_ble_eq_true rfl⟩) (zob_s ew35) kc_1 rfl (Nat.le_of_ble_eq_true rfl) ⟨Nat.le_of_ble_eq_true rfl, Nat.le_of_ble_eq_true rfl⟩ ?_
  refine z_aload_n X dd_Reader_takeAfterStep_66 rfl 0 rfl ?_
  refine z_bipush (v := 15) X dd_Reader_takeAfterStep_67 (by decide) ?_
  obtain ⟨c36, ec36, h⟩ := zb h
  refine z_put (j := 8) X dd_Reader_takeAfterStep_69 kc_5 ki_5 tt_Reader tk_Reader nn_Reader (by decide) km_482 rfl (tk_Reader 8 (by decide)) rfl rfl ec36 ?_
  refine z_goto (tgt := 180) X dd_Reader_takeAfterStep_72 (by decide) ?_
  refine z_sub [] rfl ?_
  exact t_Reader_takeAfterStep_180 X H h
set_option maxRecDepth 100000 in
set_option maxHeartbeats 4000000 in
theorem t_Reader_takeAfterStep_52  (X : zX p s m args cd D cid B bb_Reader_takeAfterStep 3 rr_Reader zT) (H : zH s meth B n0 none "takeAfterStep") {nf : Nat} {x0 : Nat} {x1 : Int32} {s0 : Nat} {s1 : Int32} {c : Zc} {res : Zc} (h : f_Reader_takeAfterStep_52 nf x0 x1 s0 s1 c = some res) : Zz p l e (zRm 4 93 0 0) s m args below meth cd (MQ below (zQv D cid B res n0 0) args s 0 0 (fun q => B ≤ q)) D cid B 3 0 0 c 52 [(0, .ref x0), (1, .int x1)] [.int s1, .ref s0] := by
  unfold f_Reader_takeAfterStep_52 at h
  refine z_iload_n X dd_Reader_takeAfterStep_52 rfl 1 rfl ?_
  refine z_bipush (v := 63) X dd_Reader_takeAfterStep_53 (by decide) ?_
  refine z_icmp_eq (tgt := 62) X dd_Reader_takeAfterStep_55 (by decide) (fun q33 => ?_) (fun q33 => ?_)
  · rw [if_pos q33] at h
    refine z_iconst (v := 0) X dd_Reader_takeAfterStep_62 (by decide) ?_
    refine z_sub [0] rfl ?_
    exact t_Reader_takeAfterStep_63 X H h
  · rw [if_neg q33] at h
    refine z_iconst (v := 1) X dd_Reader_takeAfterStep_58 (by decide) ?_
    refine z_goto (tgt := 63) X dd_Reader_takeAfterStep_59 (by decide) ?_
    refine z_sub [0] rfl ?_
    exact t_Reader_takeAfterStep_63 X H h
set_option maxRecDepth 100000 in
set_option maxHeartbeats 4000000 in
theorem t_Reader_takeAfterStep_23  (X : zX p s m args cd D cid B bb_Reader_takeAfterStep 3 rr_Reader zT) (H : zH s meth B n0 none "takeAfterStep") {nf : Nat} {x0 : Nat} {x1 : Int32} {s0 : Int32} {c : Zc} {res : Zc} (h : f_Reader_takeAfterStep_23 nf x0 x1 s0 c = some res) : Zz p l e (zRm 4 93 0 0) s m args below meth cd (MQ below (zQv D cid B res n0 0) args s 0 0 (fun q => B ≤ q)) D cid B 3 0 0 c 23 [(0, .ref x0), (1, .int x1)] [.int s0] := by
  unfold f_Reader_takeAfterStep_23 at h
  refine z_istore_n (lv' := [(2, .int s0), (0, .ref x0), (1, .int x1)]) X dd_Reader_takeAfterStep_23 rfl (by decide) rfl ?_
  refine z_aload_n X dd_Reader_takeAfterStep_24 rfl 1 rfl ?_
  obtain ⟨v2, ev2, h⟩ := zb h
  refine z_get (j := 8) X dd_Reader_takeAfterStep_25 kc_5 ki_5 (by decide) km_482 (zgi_v ev2) ?_
  refine z_bipush (v := 14) X dd_Reader_takeAfterStep_28 (by decide) ?_
  refine z_icmp_ne (tgt := 75) X dd_Reader_takeAfterStep_30 (by decide) (fun q3 => ?_) (fun q3 => ?_)
  · rw [if_neg q3] at h
    refine z_sub [1, 2] rfl ?_
    exact t_Reader_takeAfterStep_75 X H h
  · rw [if_pos q3] at h
    refine z_iload_n X dd_Reader_takeAfterStep_33 rfl 0 rfl ?_
    refine z_if_eq (tgt := 75) X dd_Reader_takeAfterStep_34 (by decide) (fun q30 => ?_) (fun q30 => ?_)
    · rw [if_pos q30] at h
      refine z_sub [1, 2] rfl ?_
      exact t_Reader_takeAfterStep_75 X H h
    · rw [if_neg q30] at h
      refine z_aload_n X dd_Reader_takeAfterStep_37 rfl 1 rfl ?_
      obtain ⟨v31, ev31, h⟩ := zb h
      refine z_get (j := 5) X dd_Reader_takeAfterStep_38 kc_5 ki_5 (by decide) km_479 (zgr_v ev31) ?_
      refine z_iload_n X dd_Reader_takeAfterStep_41 rfl 2 rfl ?_
      refine z_bipush (v := 43) X dd_Reader_takeAfterStep_42 (by decide) ?_
      refine z_icmp_eq (tgt := 51) X dd_Reader_takeAfterStep_44 (by decide) (fun q32 => ?_) (fun q32 => ?_)
      · rw [if_pos q32] at h
        refine z_iconst (v := 0) X dd_Reader_takeAfterStep_51 (by decide) ?_
        refine z_sub [1, 2] rfl ?_
        exact t_Reader_takeAfterStep_52 X H h
      · rw [if_neg q32] at h
        refine z_iconst (v := 1) X dd_Reader_takeAfterStep_47 (by decide) ?_
        refine z_goto (tgt := 52) X dd_Reader_takeAfterStep_48 (by decide) ?_
        refine z_sub [1, 2] rfl ?_
        exact t_Reader_takeAfterStep_52 X H h
set_option maxRecDepth 100000 in
set_option maxHeartbeats 4000000 in
theorem t_Reader_takeAfterStep_18  (X : zX p s m args cd D cid B bb_Reader_takeAfterStep 3 rr_Reader zT) (H : zH s meth B n0 none "takeAfterStep") {nf : Nat} {x0 : Nat} {x1 : Int32} {c : Zc} {res : Zc} (h : f_Reader_takeAfterStep_18 nf x0 x1 c = some res) : Zz p l e (zRm 4 93 0 0) s m args below meth cd (MQ below (zQv D cid B res n0 0) args s 0 0 (fun q => B ≤ q)) D cid B 3 0 0 c 18 [(0, .ref x0), (1, .int x1)] [] := by
  unfold f_Reader_takeAfterStep_18 at h
  refine z_iconst (v := 1) X dd_Reader_takeAfterStep_18 (by decide) ?_
  refine z_goto (tgt := 23) X dd_Reader_takeAfterStep_19 (by decide) ?_
  exact t_Reader_takeAfterStep_23 X H h
set_option maxRecDepth 100000 in
set_option maxHeartbeats 4000000 in
theorem c_Reader_takeAfterStep (l : Launch) {nf : Nat} {a0 : Nat} {a1 : Int32} {c : Zc} {res : Zc} (h : f_Reader_takeAfterStep nf a0 a1 c = some res) : zM l yy_Reader_takeAfterStep ww_Reader_takeAfterStep 4 93 0 0 [.ref a0, .int a1] c (fun D cid B => zQv D cid B res c.length 0) := by
  refine z_met (cc := bb_Reader_takeAfterStep) (maxL := 3) (ret := none) (by decide +kernel) rfl (Nat.le_of_ble_eq_true rfl) ?_
  intro p e s m args below meth cd D cid B X h1 h2 h3 h4
  have X : zX p s m args cd D cid B bb_Reader_takeAfterStep 3 rr_Reader zT := X
  have H : zH s meth B c.length none "takeAfterStep" := ⟨h1, h2, h4, h3⟩
  unfold f_Reader_takeAfterStep at h
  show Zz p l e (zRm 4 93 0 0) s m args below meth cd _ D cid B 3 0 0 c 0 [(0, .ref a0), (1, .int a1)] []
  refine z_iload_n X dd_Reader_takeAfterStep_0 rfl 1 rfl ?_
  refine z_bipush (v := 42) X dd_Reader_takeAfterStep_1 (by decide) ?_
  refine z_icmp_eq (tgt := 18) X dd_Reader_takeAfterStep_3 (by decide) (fun q1 => ?_) (fun q1 => ?_)
  · rw [if_pos q1] at h
    exact t_Reader_takeAfterStep_18 X H h
  · rw [if_neg q1] at h
    refine z_iload_n X dd_Reader_takeAfterStep_6 rfl 1 rfl ?_
    refine z_bipush (v := 43) X dd_Reader_takeAfterStep_7 (by decide) ?_
    refine z_icmp_eq (tgt := 18) X dd_Reader_takeAfterStep_9 (by decide) (fun q37 => ?_) (fun q37 => ?_)
    · rw [if_pos q37] at h
      exact t_Reader_takeAfterStep_18 X H h
    · rw [if_neg q37] at h
      refine z_iload_n X dd_Reader_takeAfterStep_12 rfl 1 rfl ?_
      refine z_bipush (v := 63) X dd_Reader_takeAfterStep_13 (by decide) ?_
      refine z_icmp_ne (tgt := 22) X dd_Reader_takeAfterStep_15 (by decide) (fun q38 => ?_) (fun q38 => ?_)
      · rw [if_neg q38] at h
        refine z_iconst (v := 0) X dd_Reader_takeAfterStep_22 (by decide) ?_
        exact t_Reader_takeAfterStep_23 X H h
      · rw [if_pos q38] at h
        exact t_Reader_takeAfterStep_18 X H h
theorem dd_Reader_takeFact_0 : decode bb_Reader_takeFact 0 = .ok (.iload_n 1, 1) := by decide +kernel
theorem dd_Reader_takeFact_1 : decode bb_Reader_takeFact 1 = .ok (.bipush 16, 2) := by decide +kernel
theorem dd_Reader_takeFact_3 : decode bb_Reader_takeFact 3 = .ok (.if_icmp .ne 16, 3) := by decide +kernel
theorem dd_Reader_takeFact_6 : decode bb_Reader_takeFact 6 = .ok (.aload_n 0, 1) := by decide +kernel
theorem dd_Reader_takeFact_7 : decode bb_Reader_takeFact 7 = .ok (.getfield 87, 3) := by decide +kernel
theorem dd_Reader_takeFact_10 : decode bb_Reader_takeFact 10 = .ok (.iconst 3, 1) := by decide +kernel
theorem dd_Reader_takeFact_11 : decode bb_Reader_takeFact 11 = .ok (.bipush 6, 2) := by decide +kernel
theorem dd_Reader_takeFact_13 : decode bb_Reader_takeFact 13 = .ok (.invokevirtual 277, 3) := by decide +kernel
theorem dd_Reader_takeFact_16 : decode bb_Reader_takeFact 16 = .ok (.goto 59, 3) := by decide +kernel
theorem dd_Reader_takeFact_19 : decode bb_Reader_takeFact 19 = .ok (.iload_n 1, 1) := by decide +kernel
theorem dd_Reader_takeFact_20 : decode bb_Reader_takeFact 20 = .ok (.bipush 91, 2) := by decide +kernel
theorem dd_Reader_takeFact_22 : decode bb_Reader_takeFact 22 = .ok (.if_icmp .ne 13, 3) := by decide +kernel
theorem dd_Reader_takeFact_25 : decode bb_Reader_takeFact 25 = .ok (.aload_n 0, 1) := by decide +kernel
theorem dd_Reader_takeFact_26 : decode bb_Reader_takeFact 26 = .ok (.getfield 87, 3) := by decide +kernel
theorem dd_Reader_takeFact_29 : decode bb_Reader_takeFact 29 = .ok (.invokevirtual 280, 3) := by decide +kernel
theorem dd_Reader_takeFact_32 : decode bb_Reader_takeFact 32 = .ok (.goto 43, 3) := by decide +kernel
theorem dd_Reader_takeFact_35 : decode bb_Reader_takeFact 35 = .ok (.iload_n 1, 1) := by decide +kernel
theorem dd_Reader_takeFact_36 : decode bb_Reader_takeFact 36 = .ok (.bipush 17, 2) := by decide +kernel
theorem dd_Reader_takeFact_38 : decode bb_Reader_takeFact 38 = .ok (.if_icmp .ne 26, 3) := by decide +kernel
theorem dd_Reader_takeFact_41 : decode bb_Reader_takeFact 41 = .ok (.aload_n 0, 1) := by decide +kernel
theorem dd_Reader_takeFact_42 : decode bb_Reader_takeFact 42 = .ok (.aload_n 0, 1) := by decide +kernel
theorem dd_Reader_takeFact_43 : decode bb_Reader_takeFact 43 = .ok (.getfield 42, 3) := by decide +kernel
theorem dd_Reader_takeFact_46 : decode bb_Reader_takeFact 46 = .ok (.putfield 48, 3) := by decide +kernel
theorem dd_Reader_takeFact_49 : decode bb_Reader_takeFact 49 = .ok (.aload_n 0, 1) := by decide +kernel
theorem dd_Reader_takeFact_50 : decode bb_Reader_takeFact 50 = .ok (.getfield 69, 3) := by decide +kernel
theorem dd_Reader_takeFact_53 : decode bb_Reader_takeFact 53 = .ok (.invokevirtual 283, 3) := by decide +kernel
theorem dd_Reader_takeFact_56 : decode bb_Reader_takeFact 56 = .ok (.aload_n 0, 1) := by decide +kernel
theorem dd_Reader_takeFact_57 : decode bb_Reader_takeFact 57 = .ok (.iconst 3, 1) := by decide +kernel
theorem dd_Reader_takeFact_58 : decode bb_Reader_takeFact 58 = .ok (.putfield 33, 3) := by decide +kernel
theorem dd_Reader_takeFact_61 : decode bb_Reader_takeFact 61 = .ok (.goto 14, 3) := by decide +kernel
theorem dd_Reader_takeFact_64 : decode bb_Reader_takeFact 64 = .ok (.aload_n 0, 1) := by decide +kernel
theorem dd_Reader_takeFact_65 : decode bb_Reader_takeFact 65 = .ok (.iconst 0, 1) := by decide +kernel
theorem dd_Reader_takeFact_66 : decode bb_Reader_takeFact 66 = .ok (.putfield 63, 3) := by decide +kernel
theorem dd_Reader_takeFact_69 : decode bb_Reader_takeFact 69 = .ok (.aload_n 0, 1) := by decide +kernel
theorem dd_Reader_takeFact_70 : decode bb_Reader_takeFact 70 = .ok (.bipush 18, 2) := by decide +kernel
theorem dd_Reader_takeFact_72 : decode bb_Reader_takeFact 72 = .ok (.invokevirtual 230, 3) := by decide +kernel
theorem dd_Reader_takeFact_75 : decode bb_Reader_takeFact 75 = .ok (.return_, 1) := by decide +kernel
set_option maxRecDepth 100000 in
set_option maxHeartbeats 4000000 in
theorem t_Reader_takeFact_75  (X : zX p s m args cd D cid B bb_Reader_takeFact 2 rr_Reader zT) (H : zH s meth B n0 none "takeFact") {nf : Nat}  {c : Zc} {res : Zc} (h : f_Reader_takeFact_75 nf  c = some res) : Zz p l e (zRm 3 64 0 0) s m args below meth cd (MQ below (zQv D cid B res n0 0) args s 0 0 (fun q => B ≤ q)) D cid B 2 0 0 c 75 [] [] := by
  unfold f_Reader_takeFact_75 at h
  obtain rfl := Option.some.inj h
  exact z_vret X H.1 H.2.1 H.2.2.1 dd_Reader_takeFact_75
set_option maxRecDepth 100000 in
set_option maxHeartbeats 4000000 in
theorem c_Reader_takeFact (l : Launch) {nf : Nat} {a0 : Nat} {a1 : Int32} {c : Zc} {res : Zc} (h : f_Reader_takeFact nf a0 a1 c = some res) : zM l yy_Reader_takeFact ww_Reader_takeFact 3 64 0 0 [.ref a0, .int a1] c (fun D cid B => zQv D cid B res c.length 0) := by
  refine z_met (cc := bb_Reader_takeFact) (maxL := 2) (ret := none) (by decide +kernel) rfl (Nat.le_of_ble_eq_true rfl) ?_
  intro p e s m args below meth cd D cid B X h1 h2 h3 h4
  have X : zX p s m args cd D cid B bb_Reader_takeFact 2 rr_Reader zT := X
  have H : zH s meth B c.length none "takeFact" := ⟨h1, h2, h4, h3⟩
  unfold f_Reader_takeFact at h
  show Zz p l e (zRm 3 64 0 0) s m args below meth cd _ D cid B 2 0 0 c 0 [(0, .ref a0), (1, .int a1)] []
  refine z_iload_n X dd_Reader_takeFact_0 rfl 1 rfl ?_
  refine z_bipush (v := 16) X dd_Reader_takeFact_1 (by decide) ?_
  refine z_icmp_ne (tgt := 19) X dd_Reader_takeFact_3 (by decide) (fun q1 => ?_) (fun q1 => ?_)
  · rw [if_neg q1] at h
    refine z_iload_n X dd_Reader_takeFact_19 rfl 1 rfl ?_
    refine z_bipush (v := 91) X dd_Reader_takeFact_20 (by decide) ?_
    refine z_icmp_ne (tgt := 35) X dd_Reader_takeFact_22 (by decide) (fun q2 => ?_) (fun q2 => ?_)
    · rw [if_neg q2] at h
      refine z_iload_n X dd_Reader_takeFact_35 rfl 1 rfl ?_
      refine z_bipush (v := 17) X dd_Reader_takeFact_36 (by decide) ?_
      refine z_icmp_ne (tgt := 64) X dd_Reader_takeFact_38 (by decide) (fun q3 => ?_) (fun q3 => ?_)
      · rw [if_neg q3] at h
        refine z_aload_n X dd_Reader_takeFact_64 rfl 0 rfl ?_
        refine z_iconst (v := 0) X dd_Reader_takeFact_65 (by decide) ?_
        obtain ⟨c4, ec4, h⟩ := zb h
        refine z_put (j := 18) X dd_Reader_takeFact_66 kc_5 ki_5 tt_Reader tk_Reader nn_Reader (by decide) km_492 rfl (tk_Reader 18 (by decide)) rfl rfl ec4 ?_
        refine z_aload_n X dd_Reader_takeFact_69 rfl 0 rfl ?_
        refine z_bipush (v := 18) X dd_Reader_takeFact_70 (by decide) ?_
        obtain ⟨w6, ew6, h⟩ := zb h
        obtain ⟨q5, eq5, h⟩ := zb h
        refine z_callVv X [.int 18] rfl dd_Reader_takeFact_72 (c_Reader_passOn l eq5) (cwV 1 X.1.2.2.2.2 (zg_V km_1068 km_1070 km_22 km_130 km_1071) rfl rfl rfl (by decide +kernel) ⟨Nat.le_of_ble_eq_true rfl, Nat.le_of_ble_eq_true rfl⟩) (zob_s ew6) kc_5 rfl (Nat.le_of_ble_eq_true rfl) ⟨Nat.le_of_ble_eq_true rfl, Nat.le_of_ble_eq_true rfl⟩ ?_
        refine z_sub [] rfl ?_
        exact t_Reader_takeFact_75 X H h
      · rw [if_pos q3] at h
        refine z_aload_n X dd_Reader_takeFact_41 rfl 0 rfl ?_
        refine z_aload_n X dd_Reader_takeFact_42 rfl 0 rfl ?_
        obtain ⟨v7, ev7, h⟩ := zb h
        refine z_get (j := 11) X dd_Reader_takeFact_43 kc_5 ki_5 (by decide) km_485 (zgi_v ev7) ?_
        obtain ⟨c8, ec8, h⟩ := zb h
        refine z_put (j := 13) X dd_Reader_takeFact_46 kc_5 ki_5 tt_Reader tk_Reader nn_Reader (by decide) km_487 rfl (tk_Reader 13 (by decide)) rfl rfl ec8 ?_
        refine z_aload_n X dd_Reader_takeFact_49 rfl 0 rfl ?_
        obtain ⟨v9, ev9, h⟩ := zb h
        refine z_get (j := 4) X dd_Reader_takeFact_50 kc_5 ki_5 (by decide) km_478 (zgr_v ev9) ?_
        obtain ⟨w11, ew11, h⟩ := zb h
        obtain ⟨q10, eq10, h⟩ := zb h
        refine z_callVv X [] rfl dd_Reader_takeFact_53 (c_Text_openGroup l eq10) (cwV 0 X.1.2.2.2.2 (zg_V km_1148 km_825 km_826 km_128 km_827) rfl rfl rfl (by decide +kernel) ⟨Nat.le_of_ble_eq_true rfl, Nat.le_of_ble_eq_true rfl⟩) (zob_s ew11) kc_2 rfl (Nat.le_of_ble_eq_true rfl) ⟨Nat.le_of_ble_eq_true rfl, Nat.le_of_ble_eq_true rfl⟩ ?_
        refine z_aload_n X dd_Reader_takeFact_56 rfl 0 rfl ?_
        refine z_iconst (v := 3) X dd_Reader_takeFact_57 (by decide) ?_
        obtain ⟨c12, ec12, h⟩ := zb h
        refine z_put (j := 8) X dd_Reader_takeFact_58 kc_5 ki_5 tt_Reader tk_Reader nn_Reader (by decide) km_482 rfl (tk_Reader 8 (by decide)) rfl rfl ec12 ?_
        refine z_goto (tgt := 75) X dd_Reader_takeFact_61 (by decide) ?_
        refine z_sub [] rfl ?_
        exact t_Reader_takeFact_75 X H h
    · rw [if_pos q2] at h
      refine z_aload_n X dd_Reader_takeFact_25 rfl 0 rfl ?_
      obtain ⟨v13, ev13, h⟩ := zb h
      refine z_get (j := 2) X dd_Reader_takeFact_26 kc_5 ki_5 (by decide) km_476 (zgr_v ev13) ?_
      obtain ⟨w15, ew15, h⟩ := zb h
      obtain ⟨q14, eq14, h⟩ := zb h
      refine z_callVv X [] rfl dd_Reader_takeFact_29 (c_Operators_openBracket l eq14) (cwV 0 X.1.2.2.2.2 (zg_V km_1143 km_1144 km_1145 km_132 km_1146) rfl rfl rfl (by decide +kernel) ⟨Nat.le_of_ble_eq_true rfl, Nat.le_of_ble_eq_true rfl⟩) (zob_s ew15) kc_4 rfl (Nat.le_of_ble_eq_true rfl) ⟨Nat.le_of_ble_eq_true rfl, Nat.le_of_ble_eq_true rfl⟩ ?_
      refine z_goto (tgt := 75) X dd_Reader_takeFact_32 (by decide) ?_
      refine z_sub [] rfl ?_
      exact t_Reader_takeFact_75 X H h
  · rw [if_pos q1] at h
    refine z_aload_n X dd_Reader_takeFact_6 rfl 0 rfl ?_
    obtain ⟨v16, ev16, h⟩ := zb h
    refine z_get (j := 2) X dd_Reader_takeFact_7 kc_5 ki_5 (by decide) km_476 (zgr_v ev16) ?_
    refine z_iconst (v := 3) X dd_Reader_takeFact_10 (by decide) ?_
    refine z_bipush (v := 6) X dd_Reader_takeFact_11 (by decide) ?_
    obtain ⟨w18, ew18, h⟩ := zb h
    obtain ⟨q17, eq17, h⟩ := zb h
    refine z_callVv X [.int 3, .int 6] rfl dd_Reader_takeFact_13 (c_Operators_openPrefix l eq17) (cwV 2 X.1.2.2.2.2 (zg_V km_1135 km_1136 km_1137 km_132 km_1138) rfl rfl rfl (by decide +kernel) ⟨Nat.le_of_ble_eq_true rfl, Nat.le_of_ble_eq_true rfl⟩) (zob_s ew18) kc_4 rfl (Nat.le_of_ble_eq_true rfl) ⟨Nat.le_of_ble_eq_true rfl, Nat.le_of_ble_eq_true rfl⟩ ?_
    refine z_goto (tgt := 75) X dd_Reader_takeFact_16 (by decide) ?_
    refine z_sub [] rfl ?_
    exact t_Reader_takeFact_75 X H h
theorem dd_Reader_takeAfterFact_0 : decode bb_Reader_takeAfterFact 0 = .ok (.iload_n 1, 1) := by decide +kernel
theorem dd_Reader_takeAfterFact_1 : decode bb_Reader_takeAfterFact 1 = .ok (.bipush 14, 2) := by decide +kernel
theorem dd_Reader_takeAfterFact_3 : decode bb_Reader_takeAfterFact 3 = .ok (.if_icmp .ne 22, 3) := by decide +kernel
theorem dd_Reader_takeAfterFact_6 : decode bb_Reader_takeAfterFact 6 = .ok (.aload_n 0, 1) := by decide +kernel
theorem dd_Reader_takeAfterFact_7 : decode bb_Reader_takeAfterFact 7 = .ok (.getfield 87, 3) := by decide +kernel
theorem dd_Reader_takeAfterFact_10 : decode bb_Reader_takeAfterFact 10 = .ok (.iconst 2, 1) := by decide +kernel
theorem dd_Reader_takeAfterFact_11 : decode bb_Reader_takeAfterFact 11 = .ok (.bipush 7, 2) := by decide +kernel
theorem dd_Reader_takeAfterFact_13 : decode bb_Reader_takeAfterFact 13 = .ok (.invokevirtual 286, 3) := by decide +kernel
theorem dd_Reader_takeAfterFact_16 : decode bb_Reader_takeAfterFact 16 = .ok (.aload_n 0, 1) := by decide +kernel
theorem dd_Reader_takeAfterFact_17 : decode bb_Reader_takeAfterFact 17 = .ok (.bipush 16, 2) := by decide +kernel
theorem dd_Reader_takeAfterFact_19 : decode bb_Reader_takeAfterFact 19 = .ok (.putfield 33, 3) := by decide +kernel
theorem dd_Reader_takeAfterFact_22 : decode bb_Reader_takeAfterFact 22 = .ok (.goto 96, 3) := by decide +kernel
theorem dd_Reader_takeAfterFact_25 : decode bb_Reader_takeAfterFact 25 = .ok (.iload_n 1, 1) := by decide +kernel
theorem dd_Reader_takeAfterFact_26 : decode bb_Reader_takeAfterFact 26 = .ok (.bipush 15, 2) := by decide +kernel
theorem dd_Reader_takeAfterFact_28 : decode bb_Reader_takeAfterFact 28 = .ok (.if_icmp .ne 22, 3) := by decide +kernel
theorem dd_Reader_takeAfterFact_31 : decode bb_Reader_takeAfterFact 31 = .ok (.aload_n 0, 1) := by decide +kernel
theorem dd_Reader_takeAfterFact_32 : decode bb_Reader_takeAfterFact 32 = .ok (.getfield 87, 3) := by decide +kernel
theorem dd_Reader_takeAfterFact_35 : decode bb_Reader_takeAfterFact 35 = .ok (.iconst 1, 1) := by decide +kernel
theorem dd_Reader_takeAfterFact_36 : decode bb_Reader_takeAfterFact 36 = .ok (.bipush 8, 2) := by decide +kernel
theorem dd_Reader_takeAfterFact_38 : decode bb_Reader_takeAfterFact 38 = .ok (.invokevirtual 286, 3) := by decide +kernel
theorem dd_Reader_takeAfterFact_41 : decode bb_Reader_takeAfterFact 41 = .ok (.aload_n 0, 1) := by decide +kernel
theorem dd_Reader_takeAfterFact_42 : decode bb_Reader_takeAfterFact 42 = .ok (.bipush 16, 2) := by decide +kernel
theorem dd_Reader_takeAfterFact_44 : decode bb_Reader_takeAfterFact 44 = .ok (.putfield 33, 3) := by decide +kernel
theorem dd_Reader_takeAfterFact_47 : decode bb_Reader_takeAfterFact 47 = .ok (.goto 71, 3) := by decide +kernel
theorem dd_Reader_takeAfterFact_50 : decode bb_Reader_takeAfterFact 50 = .ok (.iload_n 1, 1) := by decide +kernel
theorem dd_Reader_takeAfterFact_51 : decode bb_Reader_takeAfterFact 51 = .ok (.bipush 93, 2) := by decide +kernel
theorem dd_Reader_takeAfterFact_53 : decode bb_Reader_takeAfterFact 53 = .ok (.if_icmp .ne 29, 3) := by decide +kernel
theorem dd_Reader_takeAfterFact_56 : decode bb_Reader_takeAfterFact 56 = .ok (.aload_n 0, 1) := by decide +kernel
theorem dd_Reader_takeAfterFact_57 : decode bb_Reader_takeAfterFact 57 = .ok (.getfield 87, 3) := by decide +kernel
theorem dd_Reader_takeAfterFact_60 : decode bb_Reader_takeAfterFact 60 = .ok (.getfield 289, 3) := by decide +kernel
theorem dd_Reader_takeAfterFact_63 : decode bb_Reader_takeAfterFact 63 = .ok (.ifCond .le 19, 3) := by decide +kernel
theorem dd_Reader_takeAfterFact_66 : decode bb_Reader_takeAfterFact 66 = .ok (.aload_n 0, 1) := by decide +kernel
theorem dd_Reader_takeAfterFact_67 : decode bb_Reader_takeAfterFact 67 = .ok (.getfield 87, 3) := by decide +kernel
theorem dd_Reader_takeAfterFact_70 : decode bb_Reader_takeAfterFact 70 = .ok (.invokevirtual 292, 3) := by decide +kernel
theorem dd_Reader_takeAfterFact_73 : decode bb_Reader_takeAfterFact 73 = .ok (.aload_n 0, 1) := by decide +kernel
theorem dd_Reader_takeAfterFact_74 : decode bb_Reader_takeAfterFact 74 = .ok (.bipush 17, 2) := by decide +kernel
theorem dd_Reader_takeAfterFact_76 : decode bb_Reader_takeAfterFact 76 = .ok (.putfield 33, 3) := by decide +kernel
theorem dd_Reader_takeAfterFact_79 : decode bb_Reader_takeAfterFact 79 = .ok (.goto 39, 3) := by decide +kernel
theorem dd_Reader_takeAfterFact_82 : decode bb_Reader_takeAfterFact 82 = .ok (.iload_n 1, 1) := by decide +kernel
theorem dd_Reader_takeAfterFact_83 : decode bb_Reader_takeAfterFact 83 = .ok (.bipush 12, 2) := by decide +kernel
theorem dd_Reader_takeAfterFact_85 : decode bb_Reader_takeAfterFact 85 = .ok (.if_icmp .ne 28, 3) := by decide +kernel
theorem dd_Reader_takeAfterFact_88 : decode bb_Reader_takeAfterFact 88 = .ok (.aload_n 0, 1) := by decide +kernel
theorem dd_Reader_takeAfterFact_89 : decode bb_Reader_takeAfterFact 89 = .ok (.getfield 87, 3) := by decide +kernel
theorem dd_Reader_takeAfterFact_92 : decode bb_Reader_takeAfterFact 92 = .ok (.getfield 289, 3) := by decide +kernel
theorem dd_Reader_takeAfterFact_95 : decode bb_Reader_takeAfterFact 95 = .ok (.ifCond .ne 18, 3) := by decide +kernel
theorem dd_Reader_takeAfterFact_98 : decode bb_Reader_takeAfterFact 98 = .ok (.aload_n 0, 1) := by decide +kernel
theorem dd_Reader_takeAfterFact_99 : decode bb_Reader_takeAfterFact 99 = .ok (.getfield 87, 3) := by decide +kernel
theorem dd_Reader_takeAfterFact_102 : decode bb_Reader_takeAfterFact 102 = .ok (.iconst 1, 1) := by decide +kernel
theorem dd_Reader_takeAfterFact_103 : decode bb_Reader_takeAfterFact 103 = .ok (.invokevirtual 227, 3) := by decide +kernel
theorem dd_Reader_takeAfterFact_106 : decode bb_Reader_takeAfterFact 106 = .ok (.aload_n 0, 1) := by decide +kernel
theorem dd_Reader_takeAfterFact_107 : decode bb_Reader_takeAfterFact 107 = .ok (.invokevirtual 233, 3) := by decide +kernel
theorem dd_Reader_takeAfterFact_110 : decode bb_Reader_takeAfterFact 110 = .ok (.goto 8, 3) := by decide +kernel
theorem dd_Reader_takeAfterFact_113 : decode bb_Reader_takeAfterFact 113 = .ok (.aload_n 0, 1) := by decide +kernel
theorem dd_Reader_takeAfterFact_114 : decode bb_Reader_takeAfterFact 114 = .ok (.iconst 2, 1) := by decide +kernel
theorem dd_Reader_takeAfterFact_115 : decode bb_Reader_takeAfterFact 115 = .ok (.invokevirtual 133, 3) := by decide +kernel
theorem dd_Reader_takeAfterFact_118 : decode bb_Reader_takeAfterFact 118 = .ok (.return_, 1) := by decide +kernel
set_option maxRecDepth 100000 in
set_option maxHeartbeats 4000000 in
theorem t_Reader_takeAfterFact_118  (X : zX p s m args cd D cid B bb_Reader_takeAfterFact 2 rr_Reader zT) (H : zH s meth B n0 none "takeAfterFact") {nf : Nat}  {c : Zc} {res : Zc} (h : f_Reader_takeAfterFact_118 nf  c = some res) : Zz p l e (zRm 3 67 0 0) s m args below meth cd (MQ below (zQv D cid B res n0 0) args s 0 0 (fun q => B ≤ q)) D cid B 2 0 0 c 118 [] [] := by
  unfold f_Reader_takeAfterFact_118 at h
  obtain rfl := Option.some.inj h
  exact z_vret X H.1 H.2.1 H.2.2.1 dd_Reader_takeAfterFact_118
set_option maxRecDepth 100000 in
set_option maxHeartbeats 4000000 in
theorem t_Reader_takeAfterFact_113  (X : zX p s m args cd D cid B bb_Reader_takeAfterFact 2 rr_Reader zT) (H : zH s meth B n0 none "takeAfterFact") {nf : Nat} {x0 : Nat} {c : Zc} {res : Zc} (h : f_Reader_takeAfterFact_113 nf x0 c = some res) : Zz p l e (zRm 3 67 0 0) s m args below meth cd (MQ below (zQv D cid B res n0 0) args s 0 0 (fun q => B ≤ q)) D cid B 2 0 0 c 113 [(0, .ref x0)] [] := by
  unfold f_Reader_takeAfterFact_113 at h
  refine z_aload_n X dd_Reader_takeAfterFact_113 rfl 0 rfl ?_
  refine z_iconst (v := 2) X dd_Reader_takeAfterFact_114 (by decide) ?_
  obtain ⟨w6, ew6, h⟩ := zb h
  obtain ⟨q5, eq5, h⟩ := zb h
  refine z_callVv X [.int 2] rfl dd_Reader_takeAfterFact_115 (c_Reader_fail l eq5) (cwV 1 X.1.2.2.2.2 (zg_V km_998 km_1000 km_11 km_130 km_1001) rfl rfl rfl (by decide +kernel) ⟨Nat.le_of_ble_eq_true rfl, Nat.le_of_ble_eq_true rfl⟩) (zob_s ew6) kc_5 rfl (Nat.le_of_ble_eq_true rfl) ⟨Nat.le_of_ble_eq_true rfl, Nat.le_of_ble_eq_true rfl⟩ ?_
  refine z_sub [] rfl ?_
  exact t_Reader_takeAfterFact_118 X H h
set_option maxRecDepth 100000 in
set_option maxHeartbeats 4000000 in
theorem t_Reader_takeAfterFact_82  (X : zX p s m args cd D cid B bb_Reader_takeAfterFact 2 rr_Reader zT) (H : zH s meth B n0 none "takeAfterFact") {nf : Nat} {x0 : Nat} {x1 : Int32} {c : Zc} {res : Zc} (h : f_Reader_takeAfterFact_82 nf x0 x1 c = some res) : Zz p l e (zRm 3 67 0 0) s m args below meth cd (MQ below (zQv D cid B res n0 0) args s 0 0 (fun q => B ≤ q)) D cid B 2 0 0 c 82 [(0, .ref x0), (1, .int x1)] [] := by
  unfold f_Reader_takeAfterFact_82 at h
  refine z_iload_n X dd_Reader_takeAfterFact_82 rfl 1 rfl ?_
  refine z_bipush (v := 12) X dd_Reader_takeAfterFact_83 (by decide) ?_
  refine z_icmp_ne (tgt := 113) X dd_Reader_takeAfterFact_85 (by decide) (fun q4 => ?_) (fun q4 => ?_)
  · rw [if_neg q4] at h
    refine z_sub [0] rfl ?_
    exact t_Reader_takeAfterFact_113 X H h
  · rw [if_pos q4] at h
    refine z_aload_n X dd_Reader_takeAfterFact_88 rfl 0 rfl ?_
    obtain ⟨v7, ev7, h⟩ := zb h
    refine z_get (j := 2) X dd_Reader_takeAfterFact_89 kc_5 ki_5 (by decide) km_476 (zgr_v ev7) ?_
    obtain ⟨v8, ev8, h⟩ := zb h
    refine z_get (j := 2) X dd_Reader_takeAfterFact_92 kc_4 ki_4 (by decide) km_450 (zgi_v ev8) ?_
    refine z_if_ne (tgt := 113) X dd_Reader_takeAfterFact_95 (by decide) (fun q9 => ?_) (fun q9 => ?_)
    · rw [if_neg q9] at h
      refine z_sub [0] rfl ?_
      exact t_Reader_takeAfterFact_113 X H h
    · rw [if_pos q9] at h
      refine z_aload_n X dd_Reader_takeAfterFact_98 rfl 0 rfl ?_
      obtain ⟨v10, ev10, h⟩ := zb h
      refine z_get (j := 2) X dd_Reader_takeAfterFact_99 kc_5 ki_5 (by decide) km_476 (zgr_v ev10) ?_
      refine z_iconst (v := 1) X dd_Reader_takeAfterFact_102 (by decide) ?_
      obtain ⟨w12, ew12, h⟩ := zb h
      obtain ⟨q11, eq11, h⟩ := zb h
      refine z_callVv X [.int 1] rfl dd_Reader_takeAfterFact_103 (c_Operators_unwind l eq11) (cwV 1 X.1.2.2.2.2 (zg_V km_1059 km_1060 km_1061 km_132 km_1062) rfl rfl rfl (by decide +kernel) ⟨Nat.le_of_ble_eq_true rfl, Nat.le_of_ble_eq_true rfl⟩) (zob_s ew12) kc_4 rfl (Nat.le_of_ble_eq_true rfl) ⟨Nat.le_of_ble_eq_true rfl, Nat.le_of_ble_eq_true rfl⟩ ?_
      refine z_aload_n X dd_Reader_takeAfterFact_106 rfl 0 rfl ?_
      obtain ⟨w14, ew14, h⟩ := zb h
      obtain ⟨q13, eq13, h⟩ := zb h
      refine z_callVv X [] rfl dd_Reader_takeAfterFact_107 (c_Reader_openGive l eq13) (cwV 0 X.1.2.2.2.2 (zg_V km_1072 km_1074 km_23 km_130 km_1075) rfl rfl rfl (by decide +kernel) ⟨Nat.le_of_ble_eq_true rfl, Nat.le_of_ble_eq_true rfl⟩) (zob_s ew14) kc_5 rfl (Nat.le_of_ble_eq_true rfl) ⟨Nat.le_of_ble_eq_true rfl, Nat.le_of_ble_eq_true rfl⟩ ?_
      refine z_goto (tgt := 118) X dd_Reader_takeAfterFact_110 (by decide) ?_
      refine z_sub [] rfl ?_
      exact t_Reader_takeAfterFact_118 X H h
set_option maxRecDepth 100000 in
set_option maxHeartbeats 4000000 in
theorem c_Reader_takeAfterFact (l : Launch) {nf : Nat} {a0 : Nat} {a1 : Int32} {c : Zc} {res : Zc} (h : f_Reader_takeAfterFact nf a0 a1 c = some res) : zM l yy_Reader_takeAfterFact ww_Reader_takeAfterFact 3 67 0 0 [.ref a0, .int a1] c (fun D cid B => zQv D cid B res c.length 0) := by
  refine z_met (cc := bb_Reader_takeAfterFact) (maxL := 2) (ret := none) (by decide +kernel) rfl (Nat.le_of_ble_eq_true rfl) ?_
  intro p e s m args below meth cd D cid B X h1 h2 h3 h4
  have X : zX p s m args cd D cid B bb_Reader_takeAfterFact 2 rr_Reader zT := X
  have H : zH s meth B c.length none "takeAfterFact" := ⟨h1, h2, h4, h3⟩
  unfold f_Reader_takeAfterFact at h
  show Zz p l e (zRm 3 67 0 0) s m args below meth cd _ D cid B 2 0 0 c 0 [(0, .ref a0), (1, .int a1)] []
  refine z_iload_n X dd_Reader_takeAfterFact_0 rfl 1 rfl ?_
  refine z_bipush (v := 14) X dd_Reader_takeAfterFact_1 (by decide) ?_
  refine z_icmp_ne (tgt := 25) X dd_Reader_takeAfterFact_3 (by decide) (fun q1 => ?_) (fun q1 => ?_)
  · rw [if_neg q1] at h
    refine z_iload_n X dd_Reader_takeAfterFact_25 rfl 1 rfl ?_
    refine z_bipush (v := 15) X dd_Reader_takeAfterFact_26 (by decide) ?_
    refine z_icmp_ne (tgt := 50) X dd_Reader_takeAfterFact_28 (by decide) (fun q2 => ?_) (fun q2 => ?_)
    · rw [if_neg q2] at h
      refine z_iload_n X dd_Reader_takeAfterFact_50 rfl 1 rfl ?_
      refine z_bipush (v := 93) X dd_Reader_takeAfterFact_51 (by decide) ?_
      refine z_icmp_ne (tgt := 82) X dd_Reader_takeAfterFact_53 (by decide) (fun q3 => ?_) (fun q3 => ?_)
      · rw [if_neg q3] at h
        exact t_Reader_takeAfterFact_82 X H h
      · rw [if_pos q3] at h
        refine z_aload_n X dd_Reader_takeAfterFact_56 rfl 0 rfl ?_
        obtain ⟨v15, ev15, h⟩ := zb h
        refine z_get (j := 2) X dd_Reader_takeAfterFact_57 kc_5 ki_5 (by decide) km_476 (zgr_v ev15) ?_
        obtain ⟨v16, ev16, h⟩ := zb h
        refine z_get (j := 2) X dd_Reader_takeAfterFact_60 kc_4 ki_4 (by decide) km_450 (zgi_v ev16) ?_
        refine z_if_le (tgt := 82) X dd_Reader_takeAfterFact_63 (by decide) (fun q17 => ?_) (fun q17 => ?_)
        · rw [if_pos q17] at h
          exact t_Reader_takeAfterFact_82 X H h
        · rw [if_neg q17] at h
          refine z_aload_n X dd_Reader_takeAfterFact_66 rfl 0 rfl ?_
          obtain ⟨v18, ev18, h⟩ := zb h
          refine z_get (j := 2) X dd_Reader_takeAfterFact_67 kc_5 ki_5 (by decide) km_476 (zgr_v ev18) ?_
          obtain ⟨w20, ew20, h⟩ := zb h
          obtain ⟨q19, eq19, h⟩ := zb h
          refine z_callVv X [] rfl dd_Reader_takeAfterFact_70 (c_Operators_closeBracket l eq19) (cwV 0 X.1.2.2.2.2 (zg_V km_1158 km_1159 km_1160 km_132 km_1161) rfl rfl rfl (by decide +kernel) ⟨Nat.le_of_ble_eq_true rfl, Nat.le_of_ble_eq_true rfl⟩) (zob_s ew20) kc_4 rfl (Nat.le_of_ble_eq_true rfl) ⟨Nat.le_of_ble_eq_true rfl, Nat.le_of_ble_eq_true rfl⟩ ?_
          refine z_aload_n X dd_Reader_takeAfterFact_73 rfl 0 rfl ?_
          refine z_bipush (v := 17) X dd_Reader_takeAfterFact_74 (by decide) ?_
          obtain ⟨c21, ec21, h⟩ := zb h
          refine z_put (j := 8) X dd_Reader_takeAfterFact_76 kc_5 ki_5 tt_Reader tk_Reader nn_Reader (by decide) km_482 rfl (tk_Reader 8 (by decide)) rfl rfl ec21 ?_
          refine z_goto (tgt := 118) X dd_Reader_takeAfterFact_79 (by decide) ?_
          refine z_sub [] rfl ?_
          exact t_Reader_takeAfterFact_118 X H h
    · rw [if_pos q2] at h
      refine z_aload_n X dd_Reader_takeAfterFact_31 rfl 0 rfl ?_
      obtain ⟨v22, ev22, h⟩ := zb h
      refine z_get (j := 2) X dd_Reader_takeAfterFact_32 kc_5 ki_5 (by decide) km_476 (zgr_v ev22) ?_
      refine z_iconst (v := 1) X dd_Reader_takeAfterFact_35 (by decide) ?_
      refine z_bipush (v := 8) X dd_Reader_takeAfterFact_36 (by decide) ?_
      obtain ⟨w24, ew24, h⟩ := zb h
      obtain ⟨q23, eq23, h⟩ := zb h
      refine z_callVv X [.int 1, .int 8] rfl dd_Reader_takeAfterFact_38 (c_Operators_between l eq23) (cwV 2 X.1.2.2.2.2 (zg_V km_1153 km_1154 km_1155 km_132 km_1156) rfl rfl rfl (by decide +kernel) ⟨Nat.le_of_ble_eq_true rfl, Nat.le_of_ble_eq_true rfl⟩) (zob_s ew24) kc_4 rfl (Nat.le_of_ble_eq_true rfl) ⟨Nat.le_of_ble_eq_true rfl, Nat.le_of_ble_eq_true rfl⟩ ?_
      refine z_aload_n X dd_Reader_takeAfterFact_41 rfl 0 rfl ?_
      refine z_bipush (v := 16) X dd_Reader_takeAfterFact_42 (by decide) ?_
      obtain ⟨c25, ec25, h⟩ := zb h
      refine z_put (j := 8) X dd_Reader_takeAfterFact_44 kc_5 ki_5 tt_Reader tk_Reader nn_Reader (by decide) km_482 rfl (tk_Reader 8 (by decide)) rfl rfl ec25 ?_
      refine z_goto (tgt := 118) X dd_Reader_takeAfterFact_47 (by decide) ?_
      refine z_sub [] rfl ?_
      exact t_Reader_takeAfterFact_118 X H h
  · rw [if_pos q1] at h
    refine z_aload_n X dd_Reader_takeAfterFact_6 rfl 0 rfl ?_
    obtain ⟨v26, ev26, h⟩ := zb h
    refine z_get (j := 2) X dd_Reader_takeAfterFact_7 kc_5 ki_5 (by decide) km_476 (zgr_v ev26) ?_
    refine z_iconst (v := 2) X dd_Reader_takeAfterFact_10 (by decide) ?_
    refine z_bipush (v := 7) X dd_Reader_takeAfterFact_11 (by decide) ?_
    obtain ⟨w28, ew28, h⟩ := zb h
    obtain ⟨q27, eq27, h⟩ := zb h
    refine z_callVv X [.int 2, .int 7] rfl dd_Reader_takeAfterFact_13 (c_Operators_between l eq27) (cwV 2 X.1.2.2.2.2 (zg_V km_1153 km_1154 km_1155 km_132 km_1156) rfl rfl rfl (by decide +kernel) ⟨Nat.le_of_ble_eq_true rfl, Nat.le_of_ble_eq_true rfl⟩) (zob_s ew28) kc_4 rfl (Nat.le_of_ble_eq_true rfl) ⟨Nat.le_of_ble_eq_true rfl, Nat.le_of_ble_eq_true rfl⟩ ?_
    refine z_aload_n X dd_Reader_takeAfterFact_16 rfl 0 rfl ?_
    refine z_bipush (v := 16) X dd_Reader_takeAfterFact_17 (by decide) ?_
    obtain ⟨c29, ec29, h⟩ := zb h
    refine z_put (j := 8) X dd_Reader_takeAfterFact_19 kc_5 ki_5 tt_Reader tk_Reader nn_Reader (by decide) km_482 rfl (tk_Reader 8 (by decide)) rfl rfl ec29 ?_
    refine z_goto (tgt := 118) X dd_Reader_takeAfterFact_22 (by decide) ?_
    refine z_sub [] rfl ?_
    exact t_Reader_takeAfterFact_118 X H h
theorem dd_Reader_findVariable_0 : decode bb_Reader_findVariable 0 = .ok (.aload_n 0, 1) := by decide +kernel
theorem dd_Reader_findVariable_1 : decode bb_Reader_findVariable 1 = .ok (.aload_n 0, 1) := by decide +kernel
theorem dd_Reader_findVariable_2 : decode bb_Reader_findVariable 2 = .ok (.getfield 22, 3) := by decide +kernel
theorem dd_Reader_findVariable_5 : decode bb_Reader_findVariable 5 = .ok (.iload_n 1, 1) := by decide +kernel
theorem dd_Reader_findVariable_6 : decode bb_Reader_findVariable 6 = .ok (.iaload, 1) := by decide +kernel
theorem dd_Reader_findVariable_7 : decode bb_Reader_findVariable 7 = .ok (.putfield 57, 3) := by decide +kernel
theorem dd_Reader_findVariable_10 : decode bb_Reader_findVariable 10 = .ok (.aload_n 0, 1) := by decide +kernel
theorem dd_Reader_findVariable_11 : decode bb_Reader_findVariable 11 = .ok (.getfield 57, 3) := by decide +kernel
theorem dd_Reader_findVariable_14 : decode bb_Reader_findVariable 14 = .ok (.iconst (-1), 1) := by decide +kernel
theorem dd_Reader_findVariable_15 : decode bb_Reader_findVariable 15 = .ok (.if_icmp .eq 17, 3) := by decide +kernel
theorem dd_Reader_findVariable_18 : decode bb_Reader_findVariable 18 = .ok (.aload_n 0, 1) := by decide +kernel
theorem dd_Reader_findVariable_19 : decode bb_Reader_findVariable 19 = .ok (.getfield 42, 3) := by decide +kernel
theorem dd_Reader_findVariable_22 : decode bb_Reader_findVariable 22 = .ok (.aload_n 0, 1) := by decide +kernel
theorem dd_Reader_findVariable_23 : decode bb_Reader_findVariable 23 = .ok (.getfield 57, 3) := by decide +kernel
theorem dd_Reader_findVariable_26 : decode bb_Reader_findVariable 26 = .ok (.ishr, 1) := by decide +kernel
theorem dd_Reader_findVariable_27 : decode bb_Reader_findVariable 27 = .ok (.iconst 1, 1) := by decide +kernel
theorem dd_Reader_findVariable_28 : decode bb_Reader_findVariable 28 = .ok (.iand, 1) := by decide +kernel
theorem dd_Reader_findVariable_29 : decode bb_Reader_findVariable 29 = .ok (.ifCond .ne 32, 3) := by decide +kernel
theorem dd_Reader_findVariable_32 : decode bb_Reader_findVariable 32 = .ok (.aload_n 0, 1) := by decide +kernel
theorem dd_Reader_findVariable_33 : decode bb_Reader_findVariable 33 = .ok (.aload_n 0, 1) := by decide +kernel
theorem dd_Reader_findVariable_34 : decode bb_Reader_findVariable 34 = .ok (.getfield 57, 3) := by decide +kernel
theorem dd_Reader_findVariable_37 : decode bb_Reader_findVariable 37 = .ok (.iconst (-1), 1) := by decide +kernel
theorem dd_Reader_findVariable_38 : decode bb_Reader_findVariable 38 = .ok (.if_icmp .ne 16, 3) := by decide +kernel
theorem dd_Reader_findVariable_41 : decode bb_Reader_findVariable 41 = .ok (.aload_n 0, 1) := by decide +kernel
theorem dd_Reader_findVariable_42 : decode bb_Reader_findVariable 42 = .ok (.getfield 39, 3) := by decide +kernel
theorem dd_Reader_findVariable_45 : decode bb_Reader_findVariable 45 = .ok (.bipush 8, 2) := by decide +kernel
theorem dd_Reader_findVariable_47 : decode bb_Reader_findVariable 47 = .ok (.if_icmp .lt 7, 3) := by decide +kernel
theorem dd_Reader_findVariable_50 : decode bb_Reader_findVariable 50 = .ok (.iconst 3, 1) := by decide +kernel
theorem dd_Reader_findVariable_51 : decode bb_Reader_findVariable 51 = .ok (.goto 4, 3) := by decide +kernel
theorem dd_Reader_findVariable_54 : decode bb_Reader_findVariable 54 = .ok (.iconst 5, 1) := by decide +kernel
theorem dd_Reader_findVariable_55 : decode bb_Reader_findVariable 55 = .ok (.invokevirtual 133, 3) := by decide +kernel
theorem dd_Reader_findVariable_58 : decode bb_Reader_findVariable 58 = .ok (.goto 53, 3) := by decide +kernel
theorem dd_Reader_findVariable_61 : decode bb_Reader_findVariable 61 = .ok (.aload_n 0, 1) := by decide +kernel
theorem dd_Reader_findVariable_62 : decode bb_Reader_findVariable 62 = .ok (.getfield 45, 3) := by decide +kernel
theorem dd_Reader_findVariable_65 : decode bb_Reader_findVariable 65 = .ok (.aload_n 0, 1) := by decide +kernel
theorem dd_Reader_findVariable_66 : decode bb_Reader_findVariable 66 = .ok (.getfield 57, 3) := by decide +kernel
theorem dd_Reader_findVariable_69 : decode bb_Reader_findVariable 69 = .ok (.ishr, 1) := by decide +kernel
theorem dd_Reader_findVariable_70 : decode bb_Reader_findVariable 70 = .ok (.iconst 1, 1) := by decide +kernel
theorem dd_Reader_findVariable_71 : decode bb_Reader_findVariable 71 = .ok (.iand, 1) := by decide +kernel
theorem dd_Reader_findVariable_72 : decode bb_Reader_findVariable 72 = .ok (.ifCond .eq 26, 3) := by decide +kernel
theorem dd_Reader_findVariable_75 : decode bb_Reader_findVariable 75 = .ok (.aload_n 0, 1) := by decide +kernel
theorem dd_Reader_findVariable_76 : decode bb_Reader_findVariable 76 = .ok (.getfield 69, 3) := by decide +kernel
theorem dd_Reader_findVariable_79 : decode bb_Reader_findVariable 79 = .ok (.iconst 3, 1) := by decide +kernel
theorem dd_Reader_findVariable_80 : decode bb_Reader_findVariable 80 = .ok (.aload_n 0, 1) := by decide +kernel
theorem dd_Reader_findVariable_81 : decode bb_Reader_findVariable 81 = .ok (.getfield 69, 3) := by decide +kernel
theorem dd_Reader_findVariable_84 : decode bb_Reader_findVariable 84 = .ok (.aload_n 0, 1) := by decide +kernel
theorem dd_Reader_findVariable_85 : decode bb_Reader_findVariable 85 = .ok (.getfield 57, 3) := by decide +kernel
theorem dd_Reader_findVariable_88 : decode bb_Reader_findVariable 88 = .ok (.invokevirtual 307, 3) := by decide +kernel
theorem dd_Reader_findVariable_91 : decode bb_Reader_findVariable 91 = .ok (.invokevirtual 223, 3) := by decide +kernel
theorem dd_Reader_findVariable_94 : decode bb_Reader_findVariable 94 = .ok (.pop, 1) := by decide +kernel
theorem dd_Reader_findVariable_95 : decode bb_Reader_findVariable 95 = .ok (.goto 16, 3) := by decide +kernel
theorem dd_Reader_findVariable_98 : decode bb_Reader_findVariable 98 = .ok (.aload_n 0, 1) := by decide +kernel
theorem dd_Reader_findVariable_99 : decode bb_Reader_findVariable 99 = .ok (.getfield 69, 3) := by decide +kernel
theorem dd_Reader_findVariable_102 : decode bb_Reader_findVariable 102 = .ok (.iconst 1, 1) := by decide +kernel
theorem dd_Reader_findVariable_103 : decode bb_Reader_findVariable 103 = .ok (.aload_n 0, 1) := by decide +kernel
theorem dd_Reader_findVariable_104 : decode bb_Reader_findVariable 104 = .ok (.getfield 57, 3) := by decide +kernel
theorem dd_Reader_findVariable_107 : decode bb_Reader_findVariable 107 = .ok (.invokevirtual 223, 3) := by decide +kernel
theorem dd_Reader_findVariable_110 : decode bb_Reader_findVariable 110 = .ok (.pop, 1) := by decide +kernel
theorem dd_Reader_findVariable_111 : decode bb_Reader_findVariable 111 = .ok (.return_, 1) := by decide +kernel
set_option maxRecDepth 100000 in
set_option maxHeartbeats 4000000 in
theorem t_Reader_findVariable_111  (X : zX p s m args cd D cid B bb_Reader_findVariable 2 rr_Reader zT) (H : zH s meth B n0 none "findVariable") {nf : Nat}  {c : Zc} {res : Zc} (h : f_Reader_findVariable_111 nf  c = some res) : Zz p l e (zRm 2 43 0 0) s m args below meth cd (MQ below (zQv D cid B res n0 0) args s 0 0 (fun q => B ≤ q)) D cid B 2 0 0 c 111 [] [] := by
  unfold f_Reader_findVariable_111 at h
  obtain rfl := Option.some.inj h
  exact z_vret X H.1 H.2.1 H.2.2.1 dd_Reader_findVariable_111
set_option maxRecDepth 100000 in
set_option maxHeartbeats 4000000 in
theorem t_Reader_findVariable_55  (X : zX p s m args cd D cid B bb_Reader_findVariable 2 rr_Reader zT) (H : zH s meth B n0 none "findVariable") {nf : Nat} {s0 : Nat} {s1 : Int32} {c : Zc} {res : Zc} (h : f_Reader_findVariable_55 nf s0 s1 c = some res) : Zz p l e (zRm 2 43 0 0) s m args below meth cd (MQ below (zQv D cid B res n0 0) args s 0 0 (fun q => B ≤ q)) D cid B 2 0 0 c 55 [] [.int s1, .ref s0] := by
  unfold f_Reader_findVariable_55 at h
  obtain ⟨w9, ew9, h⟩ := zb h
  obtain ⟨q8, eq8, h⟩ := zb h
  refine z_callVv X [.int s1] rfl dd_Reader_findVariable_55 (c_Reader_fail l eq8) (cwV 1 X.1.2.2.2.2 (zg_V km_998 km_1000 km_11 km_130 km_1001) rfl rfl rfl (by decide +kernel) ⟨Nat.le_of_ble_eq_true rfl, Nat.le_of_ble_eq_true rfl⟩) (zob_s ew9) kc_5 rfl (Nat.le_of_ble_eq_true rfl) ⟨Nat.le_of_ble_eq_true rfl, Nat.le_of_ble_eq_true rfl⟩ ?_
  refine z_goto (tgt := 111) X dd_Reader_findVariable_58 (by decide) ?_
  exact t_Reader_findVariable_111 X H h
set_option maxRecDepth 100000 in
set_option maxHeartbeats 4000000 in
theorem t_Reader_findVariable_54  (X : zX p s m args cd D cid B bb_Reader_findVariable 2 rr_Reader zT) (H : zH s meth B n0 none "findVariable") {nf : Nat} {s0 : Nat} {c : Zc} {res : Zc} (h : f_Reader_findVariable_54 nf s0 c = some res) : Zz p l e (zRm 2 43 0 0) s m args below meth cd (MQ below (zQv D cid B res n0 0) args s 0 0 (fun q => B ≤ q)) D cid B 2 0 0 c 54 [] [.ref s0] := by
  unfold f_Reader_findVariable_54 at h
  refine z_iconst (v := 5) X dd_Reader_findVariable_54 (by decide) ?_
  exact t_Reader_findVariable_55 X H h
set_option maxRecDepth 100000 in
set_option maxHeartbeats 4000000 in
theorem t_Reader_findVariable_32  (X : zX p s m args cd D cid B bb_Reader_findVariable 2 rr_Reader zT) (H : zH s meth B n0 none "findVariable") {nf : Nat} {x0 : Nat} {c : Zc} {res : Zc} (h : f_Reader_findVariable_32 nf x0 c = some res) : Zz p l e (zRm 2 43 0 0) s m args below meth cd (MQ below (zQv D cid B res n0 0) args s 0 0 (fun q => B ≤ q)) D cid B 2 0 0 c 32 [(0, .ref x0)] [] := by
  unfold f_Reader_findVariable_32 at h
  refine z_aload_n X dd_Reader_findVariable_32 rfl 0 rfl ?_
  refine z_aload_n X dd_Reader_findVariable_33 rfl 0 rfl ?_
  obtain ⟨v6, ev6, h⟩ := zb h
  refine z_get (j := 16) X dd_Reader_findVariable_34 kc_5 ki_5 (by decide) km_490 (zgi_v ev6) ?_
  refine z_iconst (v := (-1)) X dd_Reader_findVariable_37 (by decide) ?_
  refine z_icmp_ne (tgt := 54) X dd_Reader_findVariable_38 (by decide) (fun q7 => ?_) (fun q7 => ?_)
  · rw [if_neg q7] at h
    refine z_sub [] rfl ?_
    exact t_Reader_findVariable_54 X H h
  · rw [if_pos q7] at h
    refine z_aload_n X dd_Reader_findVariable_41 rfl 0 rfl ?_
    obtain ⟨v10, ev10, h⟩ := zb h
    refine z_get (j := 10) X dd_Reader_findVariable_42 kc_5 ki_5 (by decide) km_484 (zgi_v ev10) ?_
    refine z_bipush (v := 8) X dd_Reader_findVariable_45 (by decide) ?_
    refine z_icmp_lt (tgt := 54) X dd_Reader_findVariable_47 (by decide) (fun q11 => ?_) (fun q11 => ?_)
    · rw [if_pos q11] at h
      refine z_sub [] rfl ?_
      exact t_Reader_findVariable_54 X H h
    · rw [if_neg q11] at h
      refine z_iconst (v := 3) X dd_Reader_findVariable_50 (by decide) ?_
      refine z_goto (tgt := 55) X dd_Reader_findVariable_51 (by decide) ?_
      refine z_sub [] rfl ?_
      exact t_Reader_findVariable_55 X H h
set_option maxRecDepth 100000 in
set_option maxHeartbeats 4000000 in
theorem c_Reader_findVariable (l : Launch) {nf : Nat} {a0 : Nat} {a1 : Int32} {c : Zc} {res : Zc} (h : f_Reader_findVariable nf a0 a1 c = some res) : zM l yy_Reader_findVariable ww_Reader_findVariable 2 43 0 0 [.ref a0, .int a1] c (fun D cid B => zQv D cid B res c.length 0) := by
  refine z_met (cc := bb_Reader_findVariable) (maxL := 2) (ret := none) (by decide +kernel) rfl (Nat.le_of_ble_eq_true rfl) ?_
  intro p e s m args below meth cd D cid B X h1 h2 h3 h4
  have X : zX p s m args cd D cid B bb_Reader_findVariable 2 rr_Reader zT := X
  have H : zH s meth B c.length none "findVariable" := ⟨h1, h2, h4, h3⟩
  unfold f_Reader_findVariable at h
  show Zz p l e (zRm 2 43 0 0) s m args below meth cd _ D cid B 2 0 0 c 0 [(0, .ref a0), (1, .int a1)] []
  refine z_aload_n X dd_Reader_findVariable_0 rfl 0 rfl ?_
  refine z_aload_n X dd_Reader_findVariable_1 rfl 0 rfl ?_
  obtain ⟨v1, ev1, h⟩ := zb h
  refine z_get (j := 3) X dd_Reader_findVariable_2 kc_5 ki_5 (by decide) km_477 (zgr_v ev1) ?_
  refine z_iload_n X dd_Reader_findVariable_5 rfl 1 rfl ?_
  obtain ⟨v2, ev2, h⟩ := zb h
  refine z_iaload X dd_Reader_findVariable_6 rfl ev2 ?_
  obtain ⟨c3, ec3, h⟩ := zb h
  refine z_put (j := 16) X dd_Reader_findVariable_7 kc_5 ki_5 tt_Reader tk_Reader nn_Reader (by decide) km_490 rfl (tk_Reader 16 (by decide)) rfl rfl ec3 ?_
  refine z_aload_n X dd_Reader_findVariable_10 rfl 0 rfl ?_
  obtain ⟨v4, ev4, h⟩ := zb h
  refine z_get (j := 16) X dd_Reader_findVariable_11 kc_5 ki_5 (by decide) km_490 (zgi_v ev4) ?_
  refine z_iconst (v := (-1)) X dd_Reader_findVariable_14 (by decide) ?_
  refine z_icmp_eq (tgt := 32) X dd_Reader_findVariable_15 (by decide) (fun q5 => ?_) (fun q5 => ?_)
  · rw [if_pos q5] at h
    refine z_sub [0] rfl ?_
    exact t_Reader_findVariable_32 X H h
  · rw [if_neg q5] at h
    refine z_aload_n X dd_Reader_findVariable_18 rfl 0 rfl ?_
    obtain ⟨v12, ev12, h⟩ := zb h
    refine z_get (j := 11) X dd_Reader_findVariable_19 kc_5 ki_5 (by decide) km_485 (zgi_v ev12) ?_
    refine z_aload_n X dd_Reader_findVariable_22 rfl 0 rfl ?_
    obtain ⟨v13, ev13, h⟩ := zb h
    refine z_get (j := 16) X dd_Reader_findVariable_23 kc_5 ki_5 (by decide) km_490 (zgi_v ev13) ?_
    refine z_ishr X dd_Reader_findVariable_26 ?_
    refine z_iconst (v := 1) X dd_Reader_findVariable_27 (by decide) ?_
    refine z_iand X dd_Reader_findVariable_28 ?_
    refine z_if_ne (tgt := 61) X dd_Reader_findVariable_29 (by decide) (fun q14 => ?_) (fun q14 => ?_)
    · rw [if_neg q14] at h
      refine z_aload_n X dd_Reader_findVariable_61 rfl 0 rfl ?_
      obtain ⟨v15, ev15, h⟩ := zb h
      refine z_get (j := 12) X dd_Reader_findVariable_62 kc_5 ki_5 (by decide) km_486 (zgi_v ev15) ?_
      refine z_aload_n X dd_Reader_findVariable_65 rfl 0 rfl ?_
      obtain ⟨v16, ev16, h⟩ := zb h
      refine z_get (j := 16) X dd_Reader_findVariable_66 kc_5 ki_5 (by decide) km_490 (zgi_v ev16) ?_
      refine z_ishr X dd_Reader_findVariable_69 ?_
      refine z_iconst (v := 1) X dd_Reader_findVariable_70 (by decide) ?_
      refine z_iand X dd_Reader_findVariable_71 ?_
      refine z_if_eq (tgt := 98) X dd_Reader_findVariable_72 (by decide) (fun q17 => ?_) (fun q17 => ?_)
      · rw [if_pos q17] at h
        refine z_aload_n X dd_Reader_findVariable_98 rfl 0 rfl ?_
        obtain ⟨v18, ev18, h⟩ := zb h
        refine z_get (j := 4) X dd_Reader_findVariable_99 kc_5 ki_5 (by decide) km_478 (zgr_v ev18) ?_
        refine z_iconst (v := 1) X dd_Reader_findVariable_102 (by decide) ?_
        refine z_aload_n X dd_Reader_findVariable_103 rfl 0 rfl ?_
        obtain ⟨v19, ev19, h⟩ := zb h
        refine z_get (j := 16) X dd_Reader_findVariable_104 kc_5 ki_5 (by decide) km_490 (zgi_v ev19) ?_
        obtain ⟨w21, ew21, h⟩ := zb h
        obtain ⟨q20, eq20, h⟩ := zb h
        refine z_callVi X [.int 1, .int v19] rfl dd_Reader_findVariable_107 (c_Text_emit l eq20) (cwV 2 X.1.2.2.2.2 (zg_V km_1055 km_1056 km_1057 km_128 km_1058) rfl rfl rfl (by decide +kernel) ⟨Nat.le_of_ble_eq_true rfl, Nat.le_of_ble_eq_true rfl⟩) (zob_s ew21) kc_2 rfl (Nat.le_of_ble_eq_true rfl) ⟨Nat.le_of_ble_eq_true rfl, Nat.le_of_ble_eq_true rfl⟩ ?_
        refine z_pop X dd_Reader_findVariable_110 rfl ?_
        refine z_sub [] rfl ?_
        exact t_Reader_findVariable_111 X H h
      · rw [if_neg q17] at h
        refine z_aload_n X dd_Reader_findVariable_75 rfl 0 rfl ?_
        obtain ⟨v22, ev22, h⟩ := zb h
        refine z_get (j := 4) X dd_Reader_findVariable_76 kc_5 ki_5 (by decide) km_478 (zgr_v ev22) ?_
        refine z_iconst (v := 3) X dd_Reader_findVariable_79 (by decide) ?_
        refine z_aload_n X dd_Reader_findVariable_80 rfl 0 rfl ?_
        obtain ⟨v23, ev23, h⟩ := zb h
        refine z_get (j := 4) X dd_Reader_findVariable_81 kc_5 ki_5 (by decide) km_478 (zgr_v ev23) ?_
        refine z_aload_n X dd_Reader_findVariable_84 rfl 0 rfl ?_
        obtain ⟨v24, ev24, h⟩ := zb h
        refine z_get (j := 16) X dd_Reader_findVariable_85 kc_5 ki_5 (by decide) km_490 (zgi_v ev24) ?_
        obtain ⟨w26, ew26, h⟩ := zb h
        obtain ⟨q25, eq25, h⟩ := zb h
        refine z_callVi X [.int v24] rfl dd_Reader_findVariable_88 (c_Text_wayOfLeast l eq25) (cwV 1 X.1.2.2.2.2 (zg_V km_1178 km_1179 km_1180 km_128 km_1181) rfl rfl rfl (by decide +kernel) ⟨Nat.le_of_ble_eq_true rfl, Nat.le_of_ble_eq_true rfl⟩) (zob_s ew26) kc_2 rfl (Nat.le_of_ble_eq_true rfl) ⟨Nat.le_of_ble_eq_true rfl, Nat.le_of_ble_eq_true rfl⟩ ?_
        obtain ⟨w28, ew28, h⟩ := zb h
        obtain ⟨q27, eq27, h⟩ := zb h
        refine z_callVi X [.int 3, .int q25.1] rfl dd_Reader_findVariable_91 (c_Text_emit l eq27) (cwV 2 X.1.2.2.2.2 (zg_V km_1055 km_1056 km_1057 km_128 km_1058) rfl rfl rfl (by decide +kernel) ⟨Nat.le_of_ble_eq_true rfl, Nat.le_of_ble_eq_true rfl⟩) (zob_s ew28) kc_2 rfl (Nat.le_of_ble_eq_true rfl) ⟨Nat.le_of_ble_eq_true rfl, Nat.le_of_ble_eq_true rfl⟩ ?_
        refine z_pop X dd_Reader_findVariable_94 rfl ?_
        refine z_goto (tgt := 111) X dd_Reader_findVariable_95 (by decide) ?_
        refine z_sub [] rfl ?_
        exact t_Reader_findVariable_111 X H h
    · rw [if_pos q14] at h
      refine z_sub [0] rfl ?_
      exact t_Reader_findVariable_32 X H h
end ZzM
