section ZzM
variable {p : Program} {l : Launch} {e : Env} {s : State} {m : MethodId} {args : Array Value} {below : List Frame} {meth : Method} {cd : Code} {Q : State → Prop} {D : va_G} {cid : Nat → ClassId} {B n0 : Nat}
theorem dd_Reader_takeUnit_0 : decode bb_Reader_takeUnit 0 = .ok (.iload_n 1, 1) := by decide +kernel
theorem dd_Reader_takeUnit_1 : decode bb_Reader_takeUnit 1 = .ok (.bipush 45, 2) := by decide +kernel
theorem dd_Reader_takeUnit_3 : decode bb_Reader_takeUnit 3 = .ok (.if_icmp .ne 22, 3) := by decide +kernel
theorem dd_Reader_takeUnit_6 : decode bb_Reader_takeUnit 6 = .ok (.aload_n 0, 1) := by decide +kernel
theorem dd_Reader_takeUnit_7 : decode bb_Reader_takeUnit 7 = .ok (.getfield 87, 3) := by decide +kernel
theorem dd_Reader_takeUnit_10 : decode bb_Reader_takeUnit 10 = .ok (.bipush 7, 2) := by decide +kernel
theorem dd_Reader_takeUnit_12 : decode bb_Reader_takeUnit 12 = .ok (.iconst 5, 1) := by decide +kernel
theorem dd_Reader_takeUnit_13 : decode bb_Reader_takeUnit 13 = .ok (.invokevirtual 277, 3) := by decide +kernel
theorem dd_Reader_takeUnit_16 : decode bb_Reader_takeUnit 16 = .ok (.aload_n 0, 1) := by decide +kernel
theorem dd_Reader_takeUnit_17 : decode bb_Reader_takeUnit 17 = .ok (.bipush 18, 2) := by decide +kernel
theorem dd_Reader_takeUnit_19 : decode bb_Reader_takeUnit 19 = .ok (.putfield 33, 3) := by decide +kernel
theorem dd_Reader_takeUnit_22 : decode bb_Reader_takeUnit 22 = .ok (.goto 105, 3) := by decide +kernel
theorem dd_Reader_takeUnit_25 : decode bb_Reader_takeUnit 25 = .ok (.iload_n 1, 1) := by decide +kernel
theorem dd_Reader_takeUnit_26 : decode bb_Reader_takeUnit 26 = .ok (.bipush 40, 2) := by decide +kernel
theorem dd_Reader_takeUnit_28 : decode bb_Reader_takeUnit 28 = .ok (.if_icmp .ne 19, 3) := by decide +kernel
theorem dd_Reader_takeUnit_31 : decode bb_Reader_takeUnit 31 = .ok (.aload_n 0, 1) := by decide +kernel
theorem dd_Reader_takeUnit_32 : decode bb_Reader_takeUnit 32 = .ok (.getfield 87, 3) := by decide +kernel
theorem dd_Reader_takeUnit_35 : decode bb_Reader_takeUnit 35 = .ok (.invokevirtual 301, 3) := by decide +kernel
theorem dd_Reader_takeUnit_38 : decode bb_Reader_takeUnit 38 = .ok (.aload_n 0, 1) := by decide +kernel
theorem dd_Reader_takeUnit_39 : decode bb_Reader_takeUnit 39 = .ok (.bipush 18, 2) := by decide +kernel
theorem dd_Reader_takeUnit_41 : decode bb_Reader_takeUnit 41 = .ok (.putfield 33, 3) := by decide +kernel
theorem dd_Reader_takeUnit_44 : decode bb_Reader_takeUnit 44 = .ok (.goto 83, 3) := by decide +kernel
theorem dd_Reader_takeUnit_47 : decode bb_Reader_takeUnit 47 = .ok (.iload_n 1, 1) := by decide +kernel
theorem dd_Reader_takeUnit_48 : decode bb_Reader_takeUnit 48 = .ok (.bipush 6, 2) := by decide +kernel
theorem dd_Reader_takeUnit_50 : decode bb_Reader_takeUnit 50 = .ok (.if_icmp .ne 42, 3) := by decide +kernel
theorem dd_Reader_takeUnit_53 : decode bb_Reader_takeUnit 53 = .ok (.aload_n 0, 1) := by decide +kernel
theorem dd_Reader_takeUnit_54 : decode bb_Reader_takeUnit 54 = .ok (.getfield 69, 3) := by decide +kernel
theorem dd_Reader_takeUnit_57 : decode bb_Reader_takeUnit 57 = .ok (.iconst 0, 1) := by decide +kernel
theorem dd_Reader_takeUnit_58 : decode bb_Reader_takeUnit 58 = .ok (.aload_n 0, 1) := by decide +kernel
theorem dd_Reader_takeUnit_59 : decode bb_Reader_takeUnit 59 = .ok (.getfield 18, 3) := by decide +kernel
theorem dd_Reader_takeUnit_62 : decode bb_Reader_takeUnit 62 = .ok (.getfield 178, 3) := by decide +kernel
theorem dd_Reader_takeUnit_65 : decode bb_Reader_takeUnit 65 = .ok (.aload_n 0, 1) := by decide +kernel
theorem dd_Reader_takeUnit_66 : decode bb_Reader_takeUnit 66 = .ok (.getfield 30, 3) := by decide +kernel
theorem dd_Reader_takeUnit_69 : decode bb_Reader_takeUnit 69 = .ok (.iaload, 1) := by decide +kernel
theorem dd_Reader_takeUnit_70 : decode bb_Reader_takeUnit 70 = .ok (.invokevirtual 223, 3) := by decide +kernel
theorem dd_Reader_takeUnit_73 : decode bb_Reader_takeUnit 73 = .ok (.pop, 1) := by decide +kernel
theorem dd_Reader_takeUnit_74 : decode bb_Reader_takeUnit 74 = .ok (.aload_n 0, 1) := by decide +kernel
theorem dd_Reader_takeUnit_75 : decode bb_Reader_takeUnit 75 = .ok (.getfield 87, 3) := by decide +kernel
theorem dd_Reader_takeUnit_78 : decode bb_Reader_takeUnit 78 = .ok (.bipush 7, 2) := by decide +kernel
theorem dd_Reader_takeUnit_80 : decode bb_Reader_takeUnit 80 = .ok (.invokevirtual 227, 3) := by decide +kernel
theorem dd_Reader_takeUnit_83 : decode bb_Reader_takeUnit 83 = .ok (.aload_n 0, 1) := by decide +kernel
theorem dd_Reader_takeUnit_84 : decode bb_Reader_takeUnit 84 = .ok (.bipush 21, 2) := by decide +kernel
theorem dd_Reader_takeUnit_86 : decode bb_Reader_takeUnit 86 = .ok (.putfield 33, 3) := by decide +kernel
theorem dd_Reader_takeUnit_89 : decode bb_Reader_takeUnit 89 = .ok (.goto 38, 3) := by decide +kernel
theorem dd_Reader_takeUnit_92 : decode bb_Reader_takeUnit 92 = .ok (.iload_n 1, 1) := by decide +kernel
theorem dd_Reader_takeUnit_93 : decode bb_Reader_takeUnit 93 = .ok (.iconst 2, 1) := by decide +kernel
theorem dd_Reader_takeUnit_94 : decode bb_Reader_takeUnit 94 = .ok (.if_icmp .ne 28, 3) := by decide +kernel
theorem dd_Reader_takeUnit_97 : decode bb_Reader_takeUnit 97 = .ok (.aload_n 0, 1) := by decide +kernel
theorem dd_Reader_takeUnit_98 : decode bb_Reader_takeUnit 98 = .ok (.aload_n 0, 1) := by decide +kernel
theorem dd_Reader_takeUnit_99 : decode bb_Reader_takeUnit 99 = .ok (.getfield 18, 3) := by decide +kernel
theorem dd_Reader_takeUnit_102 : decode bb_Reader_takeUnit 102 = .ok (.getfield 178, 3) := by decide +kernel
theorem dd_Reader_takeUnit_105 : decode bb_Reader_takeUnit 105 = .ok (.aload_n 0, 1) := by decide +kernel
theorem dd_Reader_takeUnit_106 : decode bb_Reader_takeUnit 106 = .ok (.getfield 30, 3) := by decide +kernel
theorem dd_Reader_takeUnit_109 : decode bb_Reader_takeUnit 109 = .ok (.iaload, 1) := by decide +kernel
theorem dd_Reader_takeUnit_110 : decode bb_Reader_takeUnit 110 = .ok (.invokevirtual 304, 3) := by decide +kernel
theorem dd_Reader_takeUnit_113 : decode bb_Reader_takeUnit 113 = .ok (.aload_n 0, 1) := by decide +kernel
theorem dd_Reader_takeUnit_114 : decode bb_Reader_takeUnit 114 = .ok (.bipush 19, 2) := by decide +kernel
theorem dd_Reader_takeUnit_116 : decode bb_Reader_takeUnit 116 = .ok (.putfield 33, 3) := by decide +kernel
theorem dd_Reader_takeUnit_119 : decode bb_Reader_takeUnit 119 = .ok (.goto 8, 3) := by decide +kernel
theorem dd_Reader_takeUnit_122 : decode bb_Reader_takeUnit 122 = .ok (.aload_n 0, 1) := by decide +kernel
theorem dd_Reader_takeUnit_123 : decode bb_Reader_takeUnit 123 = .ok (.iconst 2, 1) := by decide +kernel
theorem dd_Reader_takeUnit_124 : decode bb_Reader_takeUnit 124 = .ok (.invokevirtual 133, 3) := by decide +kernel
theorem dd_Reader_takeUnit_127 : decode bb_Reader_takeUnit 127 = .ok (.return_, 1) := by decide +kernel
set_option maxRecDepth 100000 in
set_option maxHeartbeats 4000000 in
theorem t_Reader_takeUnit_127  (X : zX p s m args cd D cid B bb_Reader_takeUnit 2 rr_Reader zT) (H : zH s meth B n0 none "takeUnit") {nf : Nat}  {c : Zc} {res : Zc} (h : f_Reader_takeUnit_127 nf  c = some res) : Zz p l e (zRm 3 64 0 0) s m args below meth cd (MQ below (zQv D cid B res n0 0) args s 0 0 (fun q => B ≤ q)) D cid B 2 0 0 c 127 [] [] := by
  unfold f_Reader_takeUnit_127 at h
  obtain rfl := Option.some.inj h
  exact z_vret X H.1 H.2.1 H.2.2.1 dd_Reader_takeUnit_127
set_option maxRecDepth 100000 in
set_option maxHeartbeats 4000000 in
theorem c_Reader_takeUnit (l : Launch) {nf : Nat} {a0 : Nat} {a1 : Int32} {c : Zc} {res : Zc} (h : f_Reader_takeUnit nf a0 a1 c = some res) : zM l yy_Reader_takeUnit ww_Reader_takeUnit 3 64 0 0 [.ref a0, .int a1] c (fun D cid B => zQv D cid B res c.length 0) := by
  refine z_met (cc := bb_Reader_takeUnit) (maxL := 2) (ret := none) (by decide +kernel) rfl (Nat.le_of_ble_eq_true rfl) ?_
  intro p e s m args below meth cd D cid B X h1 h2 h3 h4
  have X : zX p s m args cd D cid B bb_Reader_takeUnit 2 rr_Reader zT := X
  have H : zH s meth B c.length none "takeUnit" := ⟨h1, h2, h4, h3⟩
  unfold f_Reader_takeUnit at h
  show Zz p l e (zRm 3 64 0 0) s m args below meth cd _ D cid B 2 0 0 c 0 [(0, .ref a0), (1, .int a1)] []
  refine z_iload_n X dd_Reader_takeUnit_0 rfl 1 rfl ?_
  refine z_bipush (v := 45) X dd_Reader_takeUnit_1 (by decide) ?_
  refine z_icmp_ne (tgt := 25) X dd_Reader_takeUnit_3 (by decide) (fun q1 => ?_) (fun q1 => ?_)
  · rw [if_neg q1] at h
    refine z_iload_n X dd_Reader_takeUnit_25 rfl 1 rfl ?_
    refine z_bipush (v := 40) X dd_Reader_takeUnit_26 (by decide) ?_
    refine z_icmp_ne (tgt := 47) X dd_Reader_takeUnit_28 (by decide) (fun q2 => ?_) (fun q2 => ?_)
    · rw [if_neg q2] at h
      refine z_iload_n X dd_Reader_takeUnit_47 rfl 1 rfl ?_
      refine z_bipush (v := 6) X dd_Reader_takeUnit_48 (by decide) ?_
      refine z_icmp_ne (tgt := 92) X dd_Reader_takeUnit_50 (by decide) (fun q3 => ?_) (fun q3 => ?_)
      · rw [if_neg q3] at h
        refine z_iload_n X dd_Reader_takeUnit_92 rfl 1 rfl ?_
        refine z_iconst (v := 2) X dd_Reader_takeUnit_93 (by decide) ?_
        refine z_icmp_ne (tgt := 122) X dd_Reader_takeUnit_94 (by decide) (fun q4 => ?_) (fun q4 => ?_)
        · rw [if_neg q4] at h
          refine z_aload_n X dd_Reader_takeUnit_122 rfl 0 rfl ?_
          refine z_iconst (v := 2) X dd_Reader_takeUnit_123 (by decide) ?_
          obtain ⟨w6, ew6, h⟩ := zb h
          obtain ⟨q5, eq5, h⟩ := zb h
          refine z_callVv X [.int 2] rfl dd_Reader_takeUnit_124 (c_Reader_fail l eq5) (cwV 1 X.1.2.2.2.2 (zg_V km_998 km_1000 km_11 km_130 km_1001) rfl rfl rfl (by decide +kernel) ⟨Nat.le_of_ble_eq_true rfl, Nat.le_of_ble_eq_true rfl⟩) (zob_s ew6) kc_5 rfl (Nat.le_of_ble_eq_true rfl) ⟨Nat.le_of_ble_eq_true rfl, Nat.le_of_ble_eq_true rfl⟩ ?_
          refine z_sub [] rfl ?_
          exact t_Reader_takeUnit_127 X H h
        · rw [if_pos q4] at h
          refine z_aload_n X dd_Reader_takeUnit_97 rfl 0 rfl ?_
          refine z_aload_n X dd_Reader_takeUnit_98 rfl 0 rfl ?_
          obtain ⟨v7, ev7, h⟩ := zb h
          refine z_get (j := 1) X dd_Reader_takeUnit_99 kc_5 ki_5 (by decide) km_475 (zgr_v ev7) ?_
          obtain ⟨v8, ev8, h⟩ := zb h
          refine z_get (j := 1) X dd_Reader_takeUnit_102 kc_3 ki_3 (by decide) km_419 (zgr_v ev8) ?_
          refine z_aload_n X dd_Reader_takeUnit_105 rfl 0 rfl ?_
          obtain ⟨v9, ev9, h⟩ := zb h
          refine z_get (j := 7) X dd_Reader_takeUnit_106 kc_5 ki_5 (by decide) km_481 (zgi_v ev9) ?_
          obtain ⟨v10, ev10, h⟩ := zb h
          refine z_iaload X dd_Reader_takeUnit_109 rfl ev10 ?_
          obtain ⟨w12, ew12, h⟩ := zb h
          obtain ⟨q11, eq11, h⟩ := zb h
          refine z_callVv X [.int v10] rfl dd_Reader_takeUnit_110 (c_Reader_findVariable l eq11) (cwV 1 X.1.2.2.2.2 (zg_V km_1174 km_1176 km_35 km_130 km_1177) rfl rfl rfl (by decide +kernel) ⟨Nat.le_of_ble_eq_true rfl, Nat.le_of_ble_eq_true rfl⟩) (zob_s ew12) kc_5 rfl (Nat.le_of_ble_eq_true rfl) ⟨Nat.le_of_ble_eq_true rfl, Nat.le_of_ble_eq_true rfl⟩ ?_
          refine z_aload_n X dd_Reader_takeUnit_113 rfl 0 rfl ?_
          refine z_bipush (v := 19) X dd_Reader_takeUnit_114 (by decide) ?_
          obtain ⟨c13, ec13, h⟩ := zb h
          refine z_put (j := 8) X dd_Reader_takeUnit_116 kc_5 ki_5 tt_Reader tk_Reader nn_Reader (by decide) km_482 rfl (tk_Reader 8 (by decide)) rfl rfl ec13 ?_
          refine z_goto (tgt := 127) X dd_Reader_takeUnit_119 (by decide) ?_
          refine z_sub [] rfl ?_
          exact t_Reader_takeUnit_127 X H h
      · rw [if_pos q3] at h
        refine z_aload_n X dd_Reader_takeUnit_53 rfl 0 rfl ?_
        obtain ⟨v14, ev14, h⟩ := zb h
        refine z_get (j := 4) X dd_Reader_takeUnit_54 kc_5 ki_5 (by decide) km_478 (zgr_v ev14) ?_
        refine z_iconst (v := 0) X dd_Reader_takeUnit_57 (by decide) ?_
        refine z_aload_n X dd_Reader_takeUnit_58 rfl 0 rfl ?_
        obtain ⟨v15, ev15, h⟩ := zb h
        refine z_get (j := 1) X dd_Reader_takeUnit_59 kc_5 ki_5 (by decide) km_475 (zgr_v ev15) ?_
        obtain ⟨v16, ev16, h⟩ := zb h
        refine z_get (j := 1) X dd_Reader_takeUnit_62 kc_3 ki_3 (by decide) km_419 (zgr_v ev16) ?_
        refine z_aload_n X dd_Reader_takeUnit_65 rfl 0 rfl ?_
        obtain ⟨v17, ev17, h⟩ := zb h
        refine z_get (j := 7) X dd_Reader_takeUnit_66 kc_5 ki_5 (by decide) km_481 (zgi_v ev17) ?_
        obtain ⟨v18, ev18, h⟩ := zb h
        refine z_iaload X dd_Reader_takeUnit_69 rfl ev18 ?_
        obtain ⟨w20, ew20, h⟩ := zb h
        obtain ⟨q19, eq19, h⟩ := zb h
        refine z_callVi X [.int 0, .int v18] rfl dd_Reader_takeUnit_70 (c_Text_emit l eq19) (cwV 2 X.1.2.2.2.2 (zg_V km_1055 km_1056 km_1057 km_128 km_1058) rfl rfl rfl (by decide +kernel) ⟨Nat.le_of_ble_eq_true rfl, Nat.le_of_ble_eq_true rfl⟩) (zob_s ew20) kc_2 rfl (Nat.le_of_ble_eq_true rfl) ⟨Nat.le_of_ble_eq_true rfl, Nat.le_of_ble_eq_true rfl⟩ ?_
        refine z_pop X dd_Reader_takeUnit_73 rfl ?_
        refine z_aload_n X dd_Reader_takeUnit_74 rfl 0 rfl ?_
        obtain ⟨v21, ev21, h⟩ := zb h
        refine z_get (j := 2) X dd_Reader_takeUnit_75 kc_5 ki_5 (by decide) km_476 (zgr_v ev21) ?_
        refine z_bipush (v := 7) X dd_Reader_takeUnit_78 (by decide) ?_
        obtain ⟨w23, ew23, h⟩ := zb h
        obtain ⟨q22, eq22, h⟩ := zb h
        refine z_callVv X [.int 7] rfl dd_Reader_takeUnit_80 (c_Operators_unwind l eq22) (cwV 1 X.1.2.2.2.2 (zg_V km_1059 km_1060 km_1061 km_132 km_1062) rfl rfl rfl (by decide +kernel) ⟨Nat.le_of_ble_eq_true rfl, Nat.le_of_ble_eq_true rfl⟩) (zob_s ew23) kc_4 rfl (Nat.le_of_ble_eq_true rfl) ⟨Nat.le_of_ble_eq_true rfl, Nat.le_of_ble_eq_true rfl⟩ ?_
        refine z_aload_n X dd_Reader_takeUnit_83 rfl 0 rfl ?_
        refine z_bipush (v := 21) X dd_Reader_takeUnit_84 (by decide) ?_
        obtain ⟨c24, ec24, h⟩ := zb h
        refine z_put (j := 8) X dd_Reader_takeUnit_86 kc_5 ki_5 tt_Reader tk_Reader nn_Reader (by decide) km_482 rfl (tk_Reader 8 (by decide)) rfl rfl ec24 ?_
        refine z_goto (tgt := 127) X dd_Reader_takeUnit_89 (by decide) ?_
        refine z_sub [] rfl ?_
        exact t_Reader_takeUnit_127 X H h
    · rw [if_pos q2] at h
      refine z_aload_n X dd_Reader_takeUnit_31 rfl 0 rfl ?_
      obtain ⟨v25, ev25, h⟩ := zb h
      refine z_get (j := 2) X dd_Reader_takeUnit_32 kc_5 ki_5 (by decide) km_476 (zgr_v ev25) ?_
      obtain ⟨w27, ew27, h⟩ := zb h
      obtain ⟨q26, eq26, h⟩ := zb h
      refine z_callVv X [] rfl dd_Reader_takeUnit_35 (c_Operators_openParen l eq26) (cwV 0 X.1.2.2.2.2 (zg_V km_1170 km_1171 km_1172 km_132 km_1173) rfl rfl rfl (by decide +kernel) ⟨Nat.le_of_ble_eq_true rfl, Nat.le_of_ble_eq_true rfl⟩) (zob_s ew27) kc_4 rfl (Nat.le_of_ble_eq_true rfl) ⟨Nat.le_of_ble_eq_true rfl, Nat.le_of_ble_eq_true rfl⟩ ?_
      refine z_aload_n X dd_Reader_takeUnit_38 rfl 0 rfl ?_
      refine z_bipush (v := 18) X dd_Reader_takeUnit_39 (by decide) ?_
      obtain ⟨c28, ec28, h⟩ := zb h
      refine z_put (j := 8) X dd_Reader_takeUnit_41 kc_5 ki_5 tt_Reader tk_Reader nn_Reader (by decide) km_482 rfl (tk_Reader 8 (by decide)) rfl rfl ec28 ?_
      refine z_goto (tgt := 127) X dd_Reader_takeUnit_44 (by decide) ?_
      refine z_sub [] rfl ?_
      exact t_Reader_takeUnit_127 X H h
  · rw [if_pos q1] at h
    refine z_aload_n X dd_Reader_takeUnit_6 rfl 0 rfl ?_
    obtain ⟨v29, ev29, h⟩ := zb h
    refine z_get (j := 2) X dd_Reader_takeUnit_7 kc_5 ki_5 (by decide) km_476 (zgr_v ev29) ?_
    refine z_bipush (v := 7) X dd_Reader_takeUnit_10 (by decide) ?_
    refine z_iconst (v := 5) X dd_Reader_takeUnit_12 (by decide) ?_
    obtain ⟨w31, ew31, h⟩ := zb h
    obtain ⟨q30, eq30, h⟩ := zb h
    refine z_callVv X [.int 7, .int 5] rfl dd_Reader_takeUnit_13 (c_Operators_openPrefix l eq30) (cwV 2 X.1.2.2.2.2 (zg_V km_1135 km_1136 km_1137 km_132 km_1138) rfl rfl rfl (by decide +kernel) ⟨Nat.le_of_ble_eq_true rfl, Nat.le_of_ble_eq_true rfl⟩) (zob_s ew31) kc_4 rfl (Nat.le_of_ble_eq_true rfl) ⟨Nat.le_of_ble_eq_true rfl, Nat.le_of_ble_eq_true rfl⟩ ?_
    refine z_aload_n X dd_Reader_takeUnit_16 rfl 0 rfl ?_
    refine z_bipush (v := 18) X dd_Reader_takeUnit_17 (by decide) ?_
    obtain ⟨c32, ec32, h⟩ := zb h
    refine z_put (j := 8) X dd_Reader_takeUnit_19 kc_5 ki_5 tt_Reader tk_Reader nn_Reader (by decide) km_482 rfl (tk_Reader 8 (by decide)) rfl rfl ec32 ?_
    refine z_goto (tgt := 127) X dd_Reader_takeUnit_22 (by decide) ?_
    refine z_sub [] rfl ?_
    exact t_Reader_takeUnit_127 X H h
theorem dd_Reader_takeAfterVariable_0 : decode bb_Reader_takeAfterVariable 0 = .ok (.aload_n 0, 1) := by decide +kernel
theorem dd_Reader_takeAfterVariable_1 : decode bb_Reader_takeAfterVariable 1 = .ok (.getfield 33, 3) := by decide +kernel
theorem dd_Reader_takeAfterVariable_4 : decode bb_Reader_takeAfterVariable 4 = .ok (.bipush 19, 2) := by decide +kernel
theorem dd_Reader_takeAfterVariable_6 : decode bb_Reader_takeAfterVariable 6 = .ok (.if_icmp .ne 18, 3) := by decide +kernel
theorem dd_Reader_takeAfterVariable_9 : decode bb_Reader_takeAfterVariable 9 = .ok (.iload_n 1, 1) := by decide +kernel
theorem dd_Reader_takeAfterVariable_10 : decode bb_Reader_takeAfterVariable 10 = .ok (.bipush 46, 2) := by decide +kernel
theorem dd_Reader_takeAfterVariable_12 : decode bb_Reader_takeAfterVariable 12 = .ok (.if_icmp .ne 12, 3) := by decide +kernel
theorem dd_Reader_takeAfterVariable_15 : decode bb_Reader_takeAfterVariable 15 = .ok (.aload_n 0, 1) := by decide +kernel
theorem dd_Reader_takeAfterVariable_16 : decode bb_Reader_takeAfterVariable 16 = .ok (.bipush 20, 2) := by decide +kernel
theorem dd_Reader_takeAfterVariable_18 : decode bb_Reader_takeAfterVariable 18 = .ok (.putfield 33, 3) := by decide +kernel
theorem dd_Reader_takeAfterVariable_21 : decode bb_Reader_takeAfterVariable 21 = .ok (.goto 116, 3) := by decide +kernel
theorem dd_Reader_takeAfterVariable_24 : decode bb_Reader_takeAfterVariable 24 = .ok (.aload_n 0, 1) := by decide +kernel
theorem dd_Reader_takeAfterVariable_25 : decode bb_Reader_takeAfterVariable 25 = .ok (.getfield 33, 3) := by decide +kernel
theorem dd_Reader_takeAfterVariable_28 : decode bb_Reader_takeAfterVariable 28 = .ok (.bipush 19, 2) := by decide +kernel
theorem dd_Reader_takeAfterVariable_30 : decode bb_Reader_takeAfterVariable 30 = .ok (.if_icmp .ne 21, 3) := by decide +kernel
theorem dd_Reader_takeAfterVariable_33 : decode bb_Reader_takeAfterVariable 33 = .ok (.aload_n 0, 1) := by decide +kernel
theorem dd_Reader_takeAfterVariable_34 : decode bb_Reader_takeAfterVariable 34 = .ok (.getfield 87, 3) := by decide +kernel
theorem dd_Reader_takeAfterVariable_37 : decode bb_Reader_takeAfterVariable 37 = .ok (.bipush 7, 2) := by decide +kernel
theorem dd_Reader_takeAfterVariable_39 : decode bb_Reader_takeAfterVariable 39 = .ok (.invokevirtual 227, 3) := by decide +kernel
theorem dd_Reader_takeAfterVariable_42 : decode bb_Reader_takeAfterVariable 42 = .ok (.aload_n 0, 1) := by decide +kernel
theorem dd_Reader_takeAfterVariable_43 : decode bb_Reader_takeAfterVariable 43 = .ok (.bipush 21, 2) := by decide +kernel
theorem dd_Reader_takeAfterVariable_45 : decode bb_Reader_takeAfterVariable 45 = .ok (.invokevirtual 230, 3) := by decide +kernel
theorem dd_Reader_takeAfterVariable_48 : decode bb_Reader_takeAfterVariable 48 = .ok (.goto 89, 3) := by decide +kernel
theorem dd_Reader_takeAfterVariable_51 : decode bb_Reader_takeAfterVariable 51 = .ok (.iload_n 1, 1) := by decide +kernel
theorem dd_Reader_takeAfterVariable_52 : decode bb_Reader_takeAfterVariable 52 = .ok (.iconst 4, 1) := by decide +kernel
theorem dd_Reader_takeAfterVariable_53 : decode bb_Reader_takeAfterVariable 53 = .ok (.if_icmp .eq 11, 3) := by decide +kernel
theorem dd_Reader_takeAfterVariable_56 : decode bb_Reader_takeAfterVariable 56 = .ok (.aload_n 0, 1) := by decide +kernel
theorem dd_Reader_takeAfterVariable_57 : decode bb_Reader_takeAfterVariable 57 = .ok (.iconst 2, 1) := by decide +kernel
theorem dd_Reader_takeAfterVariable_58 : decode bb_Reader_takeAfterVariable 58 = .ok (.invokevirtual 133, 3) := by decide +kernel
theorem dd_Reader_takeAfterVariable_61 : decode bb_Reader_takeAfterVariable 61 = .ok (.goto 76, 3) := by decide +kernel
theorem dd_Reader_takeAfterVariable_64 : decode bb_Reader_takeAfterVariable 64 = .ok (.aload_n 0, 1) := by decide +kernel
theorem dd_Reader_takeAfterVariable_65 : decode bb_Reader_takeAfterVariable 65 = .ok (.getfield 45, 3) := by decide +kernel
theorem dd_Reader_takeAfterVariable_68 : decode bb_Reader_takeAfterVariable 68 = .ok (.aload_n 0, 1) := by decide +kernel
theorem dd_Reader_takeAfterVariable_69 : decode bb_Reader_takeAfterVariable 69 = .ok (.getfield 57, 3) := by decide +kernel
theorem dd_Reader_takeAfterVariable_72 : decode bb_Reader_takeAfterVariable 72 = .ok (.ishr, 1) := by decide +kernel
theorem dd_Reader_takeAfterVariable_73 : decode bb_Reader_takeAfterVariable 73 = .ok (.iconst 1, 1) := by decide +kernel
theorem dd_Reader_takeAfterVariable_74 : decode bb_Reader_takeAfterVariable 74 = .ok (.iand, 1) := by decide +kernel
theorem dd_Reader_takeAfterVariable_75 : decode bb_Reader_takeAfterVariable 75 = .ok (.ifCond .eq 11, 3) := by decide +kernel
theorem dd_Reader_takeAfterVariable_78 : decode bb_Reader_takeAfterVariable 78 = .ok (.aload_n 0, 1) := by decide +kernel
theorem dd_Reader_takeAfterVariable_79 : decode bb_Reader_takeAfterVariable 79 = .ok (.iconst 5, 1) := by decide +kernel
theorem dd_Reader_takeAfterVariable_80 : decode bb_Reader_takeAfterVariable 80 = .ok (.invokevirtual 133, 3) := by decide +kernel
theorem dd_Reader_takeAfterVariable_83 : decode bb_Reader_takeAfterVariable 83 = .ok (.goto 54, 3) := by decide +kernel
theorem dd_Reader_takeAfterVariable_86 : decode bb_Reader_takeAfterVariable 86 = .ok (.aload_n 0, 1) := by decide +kernel
theorem dd_Reader_takeAfterVariable_87 : decode bb_Reader_takeAfterVariable 87 = .ok (.getfield 69, 3) := by decide +kernel
theorem dd_Reader_takeAfterVariable_90 : decode bb_Reader_takeAfterVariable 90 = .ok (.aload_n 0, 1) := by decide +kernel
theorem dd_Reader_takeAfterVariable_91 : decode bb_Reader_takeAfterVariable 91 = .ok (.getfield 69, 3) := by decide +kernel
theorem dd_Reader_takeAfterVariable_94 : decode bb_Reader_takeAfterVariable 94 = .ok (.getfield 295, 3) := by decide +kernel
theorem dd_Reader_takeAfterVariable_97 : decode bb_Reader_takeAfterVariable 97 = .ok (.iconst 1, 1) := by decide +kernel
theorem dd_Reader_takeAfterVariable_98 : decode bb_Reader_takeAfterVariable 98 = .ok (.isub, 1) := by decide +kernel
theorem dd_Reader_takeAfterVariable_99 : decode bb_Reader_takeAfterVariable 99 = .ok (.iconst 2, 1) := by decide +kernel
theorem dd_Reader_takeAfterVariable_100 : decode bb_Reader_takeAfterVariable 100 = .ok (.aload_n 0, 1) := by decide +kernel
theorem dd_Reader_takeAfterVariable_101 : decode bb_Reader_takeAfterVariable 101 = .ok (.getfield 57, 3) := by decide +kernel
theorem dd_Reader_takeAfterVariable_104 : decode bb_Reader_takeAfterVariable 104 = .ok (.iconst 4, 1) := by decide +kernel
theorem dd_Reader_takeAfterVariable_105 : decode bb_Reader_takeAfterVariable 105 = .ok (.imul, 1) := by decide +kernel
theorem dd_Reader_takeAfterVariable_106 : decode bb_Reader_takeAfterVariable 106 = .ok (.aload_n 0, 1) := by decide +kernel
theorem dd_Reader_takeAfterVariable_107 : decode bb_Reader_takeAfterVariable 107 = .ok (.getfield 18, 3) := by decide +kernel
theorem dd_Reader_takeAfterVariable_110 : decode bb_Reader_takeAfterVariable 110 = .ok (.getfield 178, 3) := by decide +kernel
theorem dd_Reader_takeAfterVariable_113 : decode bb_Reader_takeAfterVariable 113 = .ok (.aload_n 0, 1) := by decide +kernel
theorem dd_Reader_takeAfterVariable_114 : decode bb_Reader_takeAfterVariable 114 = .ok (.getfield 30, 3) := by decide +kernel
theorem dd_Reader_takeAfterVariable_117 : decode bb_Reader_takeAfterVariable 117 = .ok (.iaload, 1) := by decide +kernel
theorem dd_Reader_takeAfterVariable_118 : decode bb_Reader_takeAfterVariable 118 = .ok (.iadd, 1) := by decide +kernel
theorem dd_Reader_takeAfterVariable_119 : decode bb_Reader_takeAfterVariable 119 = .ok (.invokevirtual 311, 3) := by decide +kernel
theorem dd_Reader_takeAfterVariable_122 : decode bb_Reader_takeAfterVariable 122 = .ok (.aload_n 0, 1) := by decide +kernel
theorem dd_Reader_takeAfterVariable_123 : decode bb_Reader_takeAfterVariable 123 = .ok (.getfield 87, 3) := by decide +kernel
theorem dd_Reader_takeAfterVariable_126 : decode bb_Reader_takeAfterVariable 126 = .ok (.bipush 7, 2) := by decide +kernel
theorem dd_Reader_takeAfterVariable_128 : decode bb_Reader_takeAfterVariable 128 = .ok (.invokevirtual 227, 3) := by decide +kernel
theorem dd_Reader_takeAfterVariable_131 : decode bb_Reader_takeAfterVariable 131 = .ok (.aload_n 0, 1) := by decide +kernel
theorem dd_Reader_takeAfterVariable_132 : decode bb_Reader_takeAfterVariable 132 = .ok (.bipush 21, 2) := by decide +kernel
theorem dd_Reader_takeAfterVariable_134 : decode bb_Reader_takeAfterVariable 134 = .ok (.putfield 33, 3) := by decide +kernel
theorem dd_Reader_takeAfterVariable_137 : decode bb_Reader_takeAfterVariable 137 = .ok (.return_, 1) := by decide +kernel
set_option maxRecDepth 100000 in
set_option maxHeartbeats 4000000 in
theorem t_Reader_takeAfterVariable_137  (X : zX p s m args cd D cid B bb_Reader_takeAfterVariable 2 rr_Reader zT) (H : zH s meth B n0 none "takeAfterVariable") {nf : Nat}  {c : Zc} {res : Zc} (h : f_Reader_takeAfterVariable_137 nf  c = some res) : Zz p l e (zRm 2 45 0 0) s m args below meth cd (MQ below (zQv D cid B res n0 0) args s 0 0 (fun q => B ≤ q)) D cid B 2 0 0 c 137 [] [] := by
  unfold f_Reader_takeAfterVariable_137 at h
  obtain rfl := Option.some.inj h
  exact z_vret X H.1 H.2.1 H.2.2.1 dd_Reader_takeAfterVariable_137
set_option maxRecDepth 100000 in
set_option maxHeartbeats 4000000 in
theorem t_Reader_takeAfterVariable_24  (X : zX p s m args cd D cid B bb_Reader_takeAfterVariable 2 rr_Reader zT) (H : zH s meth B n0 none "takeAfterVariable") {nf : Nat} {x0 : Nat} {x1 : Int32} {c : Zc} {res : Zc} (h : f_Reader_takeAfterVariable_24 nf x0 x1 c = some res) : Zz p l e (zRm 2 45 0 0) s m args below meth cd (MQ below (zQv D cid B res n0 0) args s 0 0 (fun q => B ≤ q)) D cid B 2 0 0 c 24 [(0, .ref x0), (1, .int x1)] [] := by
  unfold f_Reader_takeAfterVariable_24 at h
  refine z_aload_n X dd_Reader_takeAfterVariable_24 rfl 0 rfl ?_
  obtain ⟨v3, ev3, h⟩ := zb h
  refine z_get (j := 8) X dd_Reader_takeAfterVariable_25 kc_5 ki_5 (by decide) km_482 (zgi_v ev3) ?_
  refine z_bipush (v := 19) X dd_Reader_takeAfterVariable_28 (by decide) ?_
  refine z_icmp_ne (tgt := 51) X dd_Reader_takeAfterVariable_30 (by decide) (fun q4 => ?_) (fun q4 => ?_)
  · rw [if_neg q4] at h
    refine z_iload_n X dd_Reader_takeAfterVariable_51 rfl 1 rfl ?_
    refine z_iconst (v := 4) X dd_Reader_takeAfterVariable_52 (by decide) ?_
    refine z_icmp_eq (tgt := 64) X dd_Reader_takeAfterVariable_53 (by decide) (fun q5 => ?_) (fun q5 => ?_)
    · rw [if_pos q5] at h
      refine z_aload_n X dd_Reader_takeAfterVariable_64 rfl 0 rfl ?_
      obtain ⟨v6, ev6, h⟩ := zb h
      refine z_get (j := 12) X dd_Reader_takeAfterVariable_65 kc_5 ki_5 (by decide) km_486 (zgi_v ev6) ?_
      refine z_aload_n X dd_Reader_takeAfterVariable_68 rfl 0 rfl ?_
      obtain ⟨v7, ev7, h⟩ := zb h
      refine z_get (j := 16) X dd_Reader_takeAfterVariable_69 kc_5 ki_5 (by decide) km_490 (zgi_v ev7) ?_
      refine z_ishr X dd_Reader_takeAfterVariable_72 ?_
      refine z_iconst (v := 1) X dd_Reader_takeAfterVariable_73 (by decide) ?_
      refine z_iand X dd_Reader_takeAfterVariable_74 ?_
      refine z_if_eq (tgt := 86) X dd_Reader_takeAfterVariable_75 (by decide) (fun q8 => ?_) (fun q8 => ?_)
      · rw [if_pos q8] at h
        refine z_aload_n X dd_Reader_takeAfterVariable_86 rfl 0 rfl ?_
        obtain ⟨v9, ev9, h⟩ := zb h
        refine z_get (j := 4) X dd_Reader_takeAfterVariable_87 kc_5 ki_5 (by decide) km_478 (zgr_v ev9) ?_
        refine z_aload_n X dd_Reader_takeAfterVariable_90 rfl 0 rfl ?_
        obtain ⟨v10, ev10, h⟩ := zb h
        refine z_get (j := 4) X dd_Reader_takeAfterVariable_91 kc_5 ki_5 (by decide) km_478 (zgr_v ev10) ?_
        obtain ⟨v11, ev11, h⟩ := zb h
        refine z_get (j := 12) X dd_Reader_takeAfterVariable_94 kc_2 ki_2 (by decide) km_338 (zgi_v ev11) ?_
        refine z_iconst (v := 1) X dd_Reader_takeAfterVariable_97 (by decide) ?_
        refine z_isub X dd_Reader_takeAfterVariable_98 ?_
        refine z_iconst (v := 2) X dd_Reader_takeAfterVariable_99 (by decide) ?_
        refine z_aload_n X dd_Reader_takeAfterVariable_100 rfl 0 rfl ?_
        obtain ⟨v12, ev12, h⟩ := zb h
        refine z_get (j := 16) X dd_Reader_takeAfterVariable_101 kc_5 ki_5 (by decide) km_490 (zgi_v ev12) ?_
        refine z_iconst (v := 4) X dd_Reader_takeAfterVariable_104 (by decide) ?_
        refine z_imul X dd_Reader_takeAfterVariable_105 ?_
        refine z_aload_n X dd_Reader_takeAfterVariable_106 rfl 0 rfl ?_
        obtain ⟨v13, ev13, h⟩ := zb h
        refine z_get (j := 1) X dd_Reader_takeAfterVariable_107 kc_5 ki_5 (by decide) km_475 (zgr_v ev13) ?_
        obtain ⟨v14, ev14, h⟩ := zb h
        refine z_get (j := 1) X dd_Reader_takeAfterVariable_110 kc_3 ki_3 (by decide) km_419 (zgr_v ev14) ?_
        refine z_aload_n X dd_Reader_takeAfterVariable_113 rfl 0 rfl ?_
        obtain ⟨v15, ev15, h⟩ := zb h
        refine z_get (j := 7) X dd_Reader_takeAfterVariable_114 kc_5 ki_5 (by decide) km_481 (zgi_v ev15) ?_
        obtain ⟨v16, ev16, h⟩ := zb h
        refine z_iaload X dd_Reader_takeAfterVariable_117 rfl ev16 ?_
        refine z_iadd X dd_Reader_takeAfterVariable_118 ?_
        obtain ⟨w18, ew18, h⟩ := zb h
        obtain ⟨q17, eq17, h⟩ := zb h
        refine z_callVv X [.int (v11 - 1), .int 2, .int ((v12 * 4) + v16)] rfl dd_Reader_takeAfterVariable_119 (c_Text_change l eq17) (cwV 3 X.1.2.2.2.2 (zg_V km_1186 km_1064 km_1065 km_128 km_1066) rfl rfl rfl (by decide +kernel) ⟨Nat.le_of_ble_eq_true rfl, Nat.le_of_ble_eq_true rfl⟩) (zob_s ew18) kc_2 rfl (Nat.le_of_ble_eq_true rfl) ⟨Nat.le_of_ble_eq_true rfl, Nat.le_of_ble_eq_true rfl⟩ ?_
        refine z_aload_n X dd_Reader_takeAfterVariable_122 rfl 0 rfl ?_
        obtain ⟨v19, ev19, h⟩ := zb h
        refine z_get (j := 2) X dd_Reader_takeAfterVariable_123 kc_5 ki_5 (by decide) km_476 (zgr_v ev19) ?_
        refine z_bipush (v := 7) X dd_Reader_takeAfterVariable_126 (by decide) ?_
        obtain ⟨w21, ew21, h⟩ := zb h
        obtain ⟨q20, eq20, h⟩ := zb h
        refine z_callVv X [.int 7] rfl dd_Reader_takeAfterVariable_128 (c_Operators_unwind l eq20) (cwV 1 X.1.2.2.2.2 (zg_V km_1059 km_1060 km_1061 km_132 km_1062) rfl rfl rfl (by decide +kernel) ⟨Nat.le_of_ble_eq_true rfl, Nat.le_of_ble_eq_true rfl⟩) (zob_s ew21) kc_4 rfl (Nat.le_of_ble_eq_true rfl) ⟨Nat.le_of_ble_eq_true rfl, Nat.le_of_ble_eq_true rfl⟩ ?_
        refine z_aload_n X dd_Reader_takeAfterVariable_131 rfl 0 rfl ?_
        refine z_bipush (v := 21) X dd_Reader_takeAfterVariable_132 (by decide) ?_
        obtain ⟨c22, ec22, h⟩ := zb h
        refine z_put (j := 8) X dd_Reader_takeAfterVariable_134 kc_5 ki_5 tt_Reader tk_Reader nn_Reader (by decide) km_482 rfl (tk_Reader 8 (by decide)) rfl rfl ec22 ?_
        refine z_sub [] rfl ?_
        exact t_Reader_takeAfterVariable_137 X H h
      · rw [if_neg q8] at h
        refine z_aload_n X dd_Reader_takeAfterVariable_78 rfl 0 rfl ?_
        refine z_iconst (v := 5) X dd_Reader_takeAfterVariable_79 (by decide) ?_
        obtain ⟨w24, ew24, h⟩ := zb h
        obtain ⟨q23, eq23, h⟩ := zb h
        refine z_callVv X [.int 5] rfl dd_Reader_takeAfterVariable_80 (c_Reader_fail l eq23) (cwV 1 X.1.2.2.2.2 (zg_V km_998 km_1000 km_11 km_130 km_1001) rfl rfl rfl (by decide +kernel) ⟨Nat.le_of_ble_eq_true rfl, Nat.le_of_ble_eq_true rfl⟩) (zob_s ew24) kc_5 rfl (Nat.le_of_ble_eq_true rfl) ⟨Nat.le_of_ble_eq_true rfl, Nat.le_of_ble_eq_true rfl⟩ ?_
        refine z_goto (tgt := 137) X dd_Reader_takeAfterVariable_83 (by decide) ?_
        refine z_sub [] rfl ?_
        exact t_Reader_takeAfterVariable_137 X H h
    · rw [if_neg q5] at h
      refine z_aload_n X dd_Reader_takeAfterVariable_56 rfl 0 rfl ?_
      refine z_iconst (v := 2) X dd_Reader_takeAfterVariable_57 (by decide) ?_
      obtain ⟨w26, ew26, h⟩ := zb h
      obtain ⟨q25, eq25, h⟩ := zb h
      refine z_callVv X [.int 2] rfl dd_Reader_takeAfterVariable_58 (c_Reader_fail l eq25) (cwV 1 X.1.2.2.2.2 (zg_V km_998 km_1000 km_11 km_130 km_1001) rfl rfl rfl (by decide +kernel) ⟨Nat.le_of_ble_eq_true rfl, Nat.le_of_ble_eq_true rfl⟩) (zob_s ew26) kc_5 rfl (Nat.le_of_ble_eq_true rfl) ⟨Nat.le_of_ble_eq_true rfl, Nat.le_of_ble_eq_true rfl⟩ ?_
      refine z_goto (tgt := 137) X dd_Reader_takeAfterVariable_61 (by decide) ?_
      refine z_sub [] rfl ?_
      exact t_Reader_takeAfterVariable_137 X H h
  · rw [if_pos q4] at h
    refine z_aload_n X dd_Reader_takeAfterVariable_33 rfl 0 rfl ?_
    obtain ⟨v27, ev27, h⟩ := zb h
    refine z_get (j := 2) X dd_Reader_takeAfterVariable_34 kc_5 ki_5 (by decide) km_476 (zgr_v ev27) ?_
    refine z_bipush (v := 7) X dd_Reader_takeAfterVariable_37 (by decide) ?_
    obtain ⟨w29, ew29, h⟩ := zb h
    obtain ⟨q28, eq28, h⟩ := zb h
    refine z_callVv X [.int 7] rfl dd_Reader_takeAfterVariable_39 (c_Operators_unwind l eq28) (cwV 1 X.1.2.2.2.2 (zg_V km_1059 km_1060 km_1061 km_132 km_1062) rfl rfl rfl (by decide +kernel) ⟨Nat.le_of_ble_eq_true rfl, Nat.le_of_ble_eq_true rfl⟩) (zob_s ew29) kc_4 rfl (Nat.le_of_ble_eq_true rfl) ⟨Nat.le_of_ble_eq_true rfl, Nat.le_of_ble_eq_true rfl⟩ ?_
    refine z_aload_n X dd_Reader_takeAfterVariable_42 rfl 0 rfl ?_
    refine z_bipush (v := 21) X dd_Reader_takeAfterVariable_43 (by decide) ?_
    obtain ⟨w31, ew31, h⟩ := zb h
    obtain ⟨q30, eq30, h⟩ := zb h
    refine z_callVv X [.int 21] rfl dd_Reader_takeAfterVariable_45 (c_Reader_passOn l eq30) (cwV 1 X.1.2.2.2.2 (zg_V km_1068 km_1070 km_22 km_130 km_1071) rfl rfl rfl (by decide +kernel) ⟨Nat.le_of_ble_eq_true rfl, Nat.le_of_ble_eq_true rfl⟩) (zob_s ew31) kc_5 rfl (Nat.le_of_ble_eq_true rfl) ⟨Nat.le_of_ble_eq_true rfl, Nat.le_of_ble_eq_true rfl⟩ ?_
    refine z_goto (tgt := 137) X dd_Reader_takeAfterVariable_48 (by decide) ?_
    refine z_sub [] rfl ?_
    exact t_Reader_takeAfterVariable_137 X H h
set_option maxRecDepth 100000 in
set_option maxHeartbeats 4000000 in
theorem c_Reader_takeAfterVariable (l : Launch) {nf : Nat} {a0 : Nat} {a1 : Int32} {c : Zc} {res : Zc} (h : f_Reader_takeAfterVariable nf a0 a1 c = some res) : zM l yy_Reader_takeAfterVariable ww_Reader_takeAfterVariable 2 45 0 0 [.ref a0, .int a1] c (fun D cid B => zQv D cid B res c.length 0) := by
  refine z_met (cc := bb_Reader_takeAfterVariable) (maxL := 2) (ret := none) (by decide +kernel) rfl (Nat.le_of_ble_eq_true rfl) ?_
  intro p e s m args below meth cd D cid B X h1 h2 h3 h4
  have X : zX p s m args cd D cid B bb_Reader_takeAfterVariable 2 rr_Reader zT := X
  have H : zH s meth B c.length none "takeAfterVariable" := ⟨h1, h2, h4, h3⟩
  unfold f_Reader_takeAfterVariable at h
  show Zz p l e (zRm 2 45 0 0) s m args below meth cd _ D cid B 2 0 0 c 0 [(0, .ref a0), (1, .int a1)] []
  refine z_aload_n X dd_Reader_takeAfterVariable_0 rfl 0 rfl ?_
  obtain ⟨v1, ev1, h⟩ := zb h
  refine z_get (j := 8) X dd_Reader_takeAfterVariable_1 kc_5 ki_5 (by decide) km_482 (zgi_v ev1) ?_
  refine z_bipush (v := 19) X dd_Reader_takeAfterVariable_4 (by decide) ?_
  refine z_icmp_ne (tgt := 24) X dd_Reader_takeAfterVariable_6 (by decide) (fun q2 => ?_) (fun q2 => ?_)
  · rw [if_neg q2] at h
    exact t_Reader_takeAfterVariable_24 X H h
  · rw [if_pos q2] at h
    refine z_iload_n X dd_Reader_takeAfterVariable_9 rfl 1 rfl ?_
    refine z_bipush (v := 46) X dd_Reader_takeAfterVariable_10 (by decide) ?_
    refine z_icmp_ne (tgt := 24) X dd_Reader_takeAfterVariable_12 (by decide) (fun q32 => ?_) (fun q32 => ?_)
    · rw [if_neg q32] at h
      exact t_Reader_takeAfterVariable_24 X H h
    · rw [if_pos q32] at h
      refine z_aload_n X dd_Reader_takeAfterVariable_15 rfl 0 rfl ?_
      refine z_bipush (v := 20) X dd_Reader_takeAfterVariable_16 (by decide) ?_
      obtain ⟨c33, ec33, h⟩ := zb h
      refine z_put (j := 8) X dd_Reader_takeAfterVariable_18 kc_5 ki_5 tt_Reader tk_Reader nn_Reader (by decide) km_482 rfl (tk_Reader 8 (by decide)) rfl rfl ec33 ?_
      refine z_goto (tgt := 137) X dd_Reader_takeAfterVariable_21 (by decide) ?_
      refine z_sub [] rfl ?_
      exact t_Reader_takeAfterVariable_137 X H h
theorem dd_Reader_comparison_0 : decode bb_Reader_comparison 0 = .ok (.iload_n 0, 1) := by decide +kernel
theorem dd_Reader_comparison_1 : decode bb_Reader_comparison 1 = .ok (.lookupswitch 77 #[(60, 65), (61, 59), (62, 71), (258, 62), (259, 68), (260, 74)], 59) := by decide +kernel
theorem dd_Reader_comparison_60 : decode bb_Reader_comparison 60 = .ok (.bipush 12, 2) := by decide +kernel
theorem dd_Reader_comparison_62 : decode bb_Reader_comparison 62 = .ok (.ireturn, 1) := by decide +kernel
theorem dd_Reader_comparison_63 : decode bb_Reader_comparison 63 = .ok (.bipush 13, 2) := by decide +kernel
theorem dd_Reader_comparison_65 : decode bb_Reader_comparison 65 = .ok (.ireturn, 1) := by decide +kernel
theorem dd_Reader_comparison_66 : decode bb_Reader_comparison 66 = .ok (.bipush 14, 2) := by decide +kernel
theorem dd_Reader_comparison_68 : decode bb_Reader_comparison 68 = .ok (.ireturn, 1) := by decide +kernel
theorem dd_Reader_comparison_69 : decode bb_Reader_comparison 69 = .ok (.bipush 15, 2) := by decide +kernel
theorem dd_Reader_comparison_71 : decode bb_Reader_comparison 71 = .ok (.ireturn, 1) := by decide +kernel
theorem dd_Reader_comparison_72 : decode bb_Reader_comparison 72 = .ok (.bipush 16, 2) := by decide +kernel
theorem dd_Reader_comparison_74 : decode bb_Reader_comparison 74 = .ok (.ireturn, 1) := by decide +kernel
theorem dd_Reader_comparison_75 : decode bb_Reader_comparison 75 = .ok (.bipush 17, 2) := by decide +kernel
theorem dd_Reader_comparison_77 : decode bb_Reader_comparison 77 = .ok (.ireturn, 1) := by decide +kernel
theorem dd_Reader_comparison_78 : decode bb_Reader_comparison 78 = .ok (.iconst (-1), 1) := by decide +kernel
theorem dd_Reader_comparison_79 : decode bb_Reader_comparison 79 = .ok (.ireturn, 1) := by decide +kernel
set_option maxRecDepth 100000 in
set_option maxHeartbeats 4000000 in
theorem c_Reader_comparison (l : Launch) {nf : Nat} {a0 : Int32} {c : Zc} {res : Int32 × Zc} (h : f_Reader_comparison nf a0 c = some res) : zM l yy_Reader_comparison ww_Reader_comparison 0 0 0 0 [.int a0] c (fun D cid B => zQi D cid B res.1 res.2 c.length 0) := by
  refine z_met (cc := bb_Reader_comparison) (maxL := 1) (ret := (some (.int))) (by decide +kernel) rfl (Nat.le_of_ble_eq_true rfl) ?_
  intro p e s m args below meth cd D cid B X h1 h2 h3 h4
  have X : zX p s m args cd D cid B bb_Reader_comparison 1 rr_Reader zT := X
  have H : zH s meth B c.length (some (.int)) "comparison" := ⟨h1, h2, h4, h3⟩
  unfold f_Reader_comparison at h
  show Zz p l e (zRm 0 0 0 0) s m args below meth cd _ D cid B 1 0 0 c 0 [(0, .int a0)] []
  refine z_iload_n X dd_Reader_comparison_0 rfl 0 rfl ?_
  by_cases q1 : a0 = 60
  · rw [if_pos q1] at h
    refine z_lookup (tgt := 66) (off := 65) X dd_Reader_comparison_1 (by decide) (by rw [q1]; decide) (by decide) ?_
    refine z_bipush (v := 14) X dd_Reader_comparison_66 (by decide) ?_
    obtain rfl := Option.some.inj h
    exact z_iret X H.1 H.2.1 H.2.2.1 dd_Reader_comparison_68
  rw [if_neg q1] at h
  by_cases q2 : a0 = 61
  · rw [if_pos q2] at h
    refine z_lookup (tgt := 60) (off := 59) X dd_Reader_comparison_1 (by decide) (by rw [q2]; decide) (by decide) ?_
    refine z_bipush (v := 12) X dd_Reader_comparison_60 (by decide) ?_
    obtain rfl := Option.some.inj h
    exact z_iret X H.1 H.2.1 H.2.2.1 dd_Reader_comparison_62
  rw [if_neg q2] at h
  by_cases q3 : a0 = 62
  · rw [if_pos q3] at h
    refine z_lookup (tgt := 72) (off := 71) X dd_Reader_comparison_1 (by decide) (by rw [q3]; decide) (by decide) ?_
    refine z_bipush (v := 16) X dd_Reader_comparison_72 (by decide) ?_
    obtain rfl := Option.some.inj h
    exact z_iret X H.1 H.2.1 H.2.2.1 dd_Reader_comparison_74
  rw [if_neg q3] at h
  by_cases q4 : a0 = 258
  · rw [if_pos q4] at h
    refine z_lookup (tgt := 63) (off := 62) X dd_Reader_comparison_1 (by decide) (by rw [q4]; decide) (by decide) ?_
    refine z_bipush (v := 13) X dd_Reader_comparison_63 (by decide) ?_
    obtain rfl := Option.some.inj h
    exact z_iret X H.1 H.2.1 H.2.2.1 dd_Reader_comparison_65
  rw [if_neg q4] at h
  by_cases q5 : a0 = 259
  · rw [if_pos q5] at h
    refine z_lookup (tgt := 69) (off := 68) X dd_Reader_comparison_1 (by decide) (by rw [q5]; decide) (by decide) ?_
    refine z_bipush (v := 15) X dd_Reader_comparison_69 (by decide) ?_
    obtain rfl := Option.some.inj h
    exact z_iret X H.1 H.2.1 H.2.2.1 dd_Reader_comparison_71
  rw [if_neg q5] at h
  by_cases q6 : a0 = 260
  · rw [if_pos q6] at h
    refine z_lookup (tgt := 75) (off := 74) X dd_Reader_comparison_1 (by decide) (by rw [q6]; decide) (by decide) ?_
    refine z_bipush (v := 17) X dd_Reader_comparison_75 (by decide) ?_
    obtain rfl := Option.some.inj h
    exact z_iret X H.1 H.2.1 H.2.2.1 dd_Reader_comparison_77
  rw [if_neg q6] at h
  refine z_lookup (tgt := 78) (off := 77) X dd_Reader_comparison_1 (by decide) ((lv_osw q1 (by decide)).trans ((lv_osw q2 (by decide)).trans ((lv_osw q3 (by decide)).trans ((lv_osw q4 (by decide)).trans ((lv_osw q5 (by decide)).trans ((lv_osw q6 (by decide)).trans rfl)))))) (by decide) ?_
  refine z_iconst (v := (-1)) X dd_Reader_comparison_78 (by decide) ?_
  obtain rfl := Option.some.inj h
  exact z_iret X H.1 H.2.1 H.2.2.1 dd_Reader_comparison_79
theorem dd_Reader_takeComparison_0 : decode bb_Reader_takeComparison 0 = .ok (.iload_n 1, 1) := by decide +kernel
theorem dd_Reader_takeComparison_1 : decode bb_Reader_takeComparison 1 = .ok (.invokestatic 327, 3) := by decide +kernel
theorem dd_Reader_takeComparison_4 : decode bb_Reader_takeComparison 4 = .ok (.istore_n 2, 1) := by decide +kernel
theorem dd_Reader_takeComparison_5 : decode bb_Reader_takeComparison 5 = .ok (.iload_n 2, 1) := by decide +kernel
theorem dd_Reader_takeComparison_6 : decode bb_Reader_takeComparison 6 = .ok (.iconst (-1), 1) := by decide +kernel
theorem dd_Reader_takeComparison_7 : decode bb_Reader_takeComparison 7 = .ok (.if_icmp .ne 11, 3) := by decide +kernel
theorem dd_Reader_takeComparison_10 : decode bb_Reader_takeComparison 10 = .ok (.aload_n 0, 1) := by decide +kernel
theorem dd_Reader_takeComparison_11 : decode bb_Reader_takeComparison 11 = .ok (.iconst 2, 1) := by decide +kernel
theorem dd_Reader_takeComparison_12 : decode bb_Reader_takeComparison 12 = .ok (.invokevirtual 133, 3) := by decide +kernel
theorem dd_Reader_takeComparison_15 : decode bb_Reader_takeComparison 15 = .ok (.goto 23, 3) := by decide +kernel
theorem dd_Reader_takeComparison_18 : decode bb_Reader_takeComparison 18 = .ok (.aload_n 0, 1) := by decide +kernel
theorem dd_Reader_takeComparison_19 : decode bb_Reader_takeComparison 19 = .ok (.getfield 87, 3) := by decide +kernel
theorem dd_Reader_takeComparison_22 : decode bb_Reader_takeComparison 22 = .ok (.iconst 4, 1) := by decide +kernel
theorem dd_Reader_takeComparison_23 : decode bb_Reader_takeComparison 23 = .ok (.iload_n 2, 1) := by decide +kernel
theorem dd_Reader_takeComparison_24 : decode bb_Reader_takeComparison 24 = .ok (.invokevirtual 286, 3) := by decide +kernel
theorem dd_Reader_takeComparison_27 : decode bb_Reader_takeComparison 27 = .ok (.aload_n 0, 1) := by decide +kernel
theorem dd_Reader_takeComparison_28 : decode bb_Reader_takeComparison 28 = .ok (.iconst 1, 1) := by decide +kernel
theorem dd_Reader_takeComparison_29 : decode bb_Reader_takeComparison 29 = .ok (.putfield 63, 3) := by decide +kernel
theorem dd_Reader_takeComparison_32 : decode bb_Reader_takeComparison 32 = .ok (.aload_n 0, 1) := by decide +kernel
theorem dd_Reader_takeComparison_33 : decode bb_Reader_takeComparison 33 = .ok (.bipush 18, 2) := by decide +kernel
theorem dd_Reader_takeComparison_35 : decode bb_Reader_takeComparison 35 = .ok (.putfield 33, 3) := by decide +kernel
theorem dd_Reader_takeComparison_38 : decode bb_Reader_takeComparison 38 = .ok (.return_, 1) := by decide +kernel
set_option maxRecDepth 100000 in
set_option maxHeartbeats 4000000 in
theorem t_Reader_takeComparison_38  (X : zX p s m args cd D cid B bb_Reader_takeComparison 3 rr_Reader zT) (H : zH s meth B n0 none "takeComparison") {nf : Nat}  {c : Zc} {res : Zc} (h : f_Reader_takeComparison_38 nf  c = some res) : Zz p l e (zRm 3 67 0 0) s m args below meth cd (MQ below (zQv D cid B res n0 0) args s 0 0 (fun q => B ≤ q)) D cid B 3 0 0 c 38 [] [] := by
  unfold f_Reader_takeComparison_38 at h
  obtain rfl := Option.some.inj h
  exact z_vret X H.1 H.2.1 H.2.2.1 dd_Reader_takeComparison_38
set_option maxRecDepth 100000 in
set_option maxHeartbeats 4000000 in
theorem c_Reader_takeComparison (l : Launch) {nf : Nat} {a0 : Nat} {a1 : Int32} {c : Zc} {res : Zc} (h : f_Reader_takeComparison nf a0 a1 c = some res) : zM l yy_Reader_takeComparison ww_Reader_takeComparison 3 67 0 0 [.ref a0, .int a1] c (fun D cid B => zQv D cid B res c.length 0) := by
  refine z_met (cc := bb_Reader_takeComparison) (maxL := 3) (ret := none) (by decide +kernel) rfl (Nat.le_of_ble_eq_true rfl) ?_
  intro p e s m args below meth cd D cid B X h1 h2 h3 h4
  have X : zX p s m args cd D cid B bb_Reader_takeComparison 3 rr_Reader zT := X
  have H : zH s meth B c.length none "takeComparison" := ⟨h1, h2, h4, h3⟩
  unfold f_Reader_takeComparison at h
  show Zz p l e (zRm 3 67 0 0) s m args below meth cd _ D cid B 3 0 0 c 0 [(0, .ref a0), (1, .int a1)] []
  refine z_iload_n X dd_Reader_takeComparison_0 rfl 1 rfl ?_
  obtain ⟨q1, eq1, h⟩ := zb h
  refine z_callSi X [.int a1] rfl dd_Reader_takeComparison_1 (c_Reader_comparison l eq1) (va_cwS 1 X.1.2.2.2.2 (zg_S km_1199 km_1200 km_130 km_1201) rfl rfl rfl (by decide +kernel) ⟨Nat.le_of_ble_eq_true rfl, Nat.le_of_ble_eq_true rfl⟩) rfl (Nat.le_of_ble_eq_true rfl) ⟨Nat.le_of_ble_eq_true rfl, Nat.le_of_ble_eq_true rfl⟩ ?_
  refine z_istore_n (lv' := [(2, .int q1.1), (0, .ref a0), (1, .int a1)]) X dd_Reader_takeComparison_4 rfl (by decide) rfl ?_
  refine z_iload_n X dd_Reader_takeComparison_5 rfl 0 rfl ?_
  refine z_iconst (v := (-1)) X dd_Reader_takeComparison_6 (by decide) ?_
  refine z_icmp_ne (tgt := 18) X dd_Reader_takeComparison_7 (by decide) (fun q2 => ?_) (fun q2 => ?_)
  · rw [if_neg q2] at h
    refine z_aload_n X dd_Reader_takeComparison_18 rfl 1 rfl ?_
    obtain ⟨v3, ev3, h⟩ := zb h
    refine z_get (j := 2) X dd_Reader_takeComparison_19 kc_5 ki_5 (by decide) km_476 (zgr_v ev3) ?_
    refine z_iconst (v := 4) X dd_Reader_takeComparison_22 (by decide) ?_
    refine z_iload_n X dd_Reader_takeComparison_23 rfl 0 rfl ?_
    obtain ⟨w5, ew5, h⟩ := zb h
    obtain ⟨q4, eq4, h⟩ := zb h
    refine z_callVv X [.int 4, .int q1.1] rfl dd_Reader_takeComparison_24 (c_Operators_between l eq4) (cwV 2 X.1.2.2.2.2 (zg_V km_1153 km_1154 km_1155 km_132 km_1156) rfl rfl rfl (by decide +kernel) ⟨Nat.le_of_ble_eq_true rfl, Nat.le_of_ble_eq_true rfl⟩) (zob_s ew5) kc_4 rfl (Nat.le_of_ble_eq_true rfl) ⟨Nat.le_of_ble_eq_true rfl, Nat.le_of_ble_eq_true rfl⟩ ?_
    refine z_aload_n X dd_Reader_takeComparison_27 rfl 1 rfl ?_
    refine z_iconst (v := 1) X dd_Reader_takeComparison_28 (by decide) ?_
    obtain ⟨c6, ec6, h⟩ := zb h
    refine z_put (j := 18) X dd_Reader_takeComparison_29 kc_5 ki_5 tt_Reader tk_Reader nn_Reader (by decide) km_492 rfl (tk_Reader 18 (by decide)) rfl rfl ec6 ?_
    refine z_aload_n X dd_Reader_takeComparison_32 rfl 1 rfl ?_
    refine z_bipush (v := 18) X dd_Reader_takeComparison_33 (by decide) ?_
    obtain ⟨c7, ec7, h⟩ := zb h
    refine z_put (j := 8) X dd_Reader_takeComparison_35 kc_5 ki_5 tt_Reader tk_Reader nn_Reader (by decide) km_482 rfl (tk_Reader 8 (by decide)) rfl rfl ec7 ?_
    refine z_sub [] rfl ?_
    exact t_Reader_takeComparison_38 X H h
  · rw [if_pos q2] at h
    refine z_aload_n X dd_Reader_takeComparison_10 rfl 1 rfl ?_
    refine z_iconst (v := 2) X dd_Reader_takeComparison_11 (by decide) ?_
    obtain ⟨w9, ew9, h⟩ := zb h
    obtain ⟨q8, eq8, h⟩ := zb h
    refine z_callVv X [.int 2] rfl dd_Reader_takeComparison_12 (c_Reader_fail l eq8) (cwV 1 X.1.2.2.2.2 (zg_V km_998 km_1000 km_11 km_130 km_1001) rfl rfl rfl (by decide +kernel) ⟨Nat.le_of_ble_eq_true rfl, Nat.le_of_ble_eq_true rfl⟩) (zob_s ew9) kc_5 rfl (Nat.le_of_ble_eq_true rfl) ⟨Nat.le_of_ble_eq_true rfl, Nat.le_of_ble_eq_true rfl⟩ ?_
    refine z_goto (tgt := 38) X dd_Reader_takeComparison_15 (by decide) ?_
    refine z_sub [] rfl ?_
    exact t_Reader_takeComparison_38 X H h
theorem dd_Reader_takeAfterUnit_0 : decode bb_Reader_takeAfterUnit 0 = .ok (.iload_n 1, 1) := by decide +kernel
theorem dd_Reader_takeAfterUnit_1 : decode bb_Reader_takeAfterUnit 1 = .ok (.bipush 42, 2) := by decide +kernel
theorem dd_Reader_takeAfterUnit_3 : decode bb_Reader_takeAfterUnit 3 = .ok (.if_icmp .ne 23, 3) := by decide +kernel
theorem dd_Reader_takeAfterUnit_6 : decode bb_Reader_takeAfterUnit 6 = .ok (.aload_n 0, 1) := by decide +kernel
theorem dd_Reader_takeAfterUnit_7 : decode bb_Reader_takeAfterUnit 7 = .ok (.getfield 87, 3) := by decide +kernel
theorem dd_Reader_takeAfterUnit_10 : decode bb_Reader_takeAfterUnit 10 = .ok (.bipush 6, 2) := by decide +kernel
theorem dd_Reader_takeAfterUnit_12 : decode bb_Reader_takeAfterUnit 12 = .ok (.bipush 11, 2) := by decide +kernel
theorem dd_Reader_takeAfterUnit_14 : decode bb_Reader_takeAfterUnit 14 = .ok (.invokevirtual 286, 3) := by decide +kernel
theorem dd_Reader_takeAfterUnit_17 : decode bb_Reader_takeAfterUnit 17 = .ok (.aload_n 0, 1) := by decide +kernel
theorem dd_Reader_takeAfterUnit_18 : decode bb_Reader_takeAfterUnit 18 = .ok (.bipush 18, 2) := by decide +kernel
theorem dd_Reader_takeAfterUnit_20 : decode bb_Reader_takeAfterUnit 20 = .ok (.putfield 33, 3) := by decide +kernel
theorem dd_Reader_takeAfterUnit_23 : decode bb_Reader_takeAfterUnit 23 = .ok (.goto 156, 3) := by decide +kernel
theorem dd_Reader_takeAfterUnit_26 : decode bb_Reader_takeAfterUnit 26 = .ok (.iload_n 1, 1) := by decide +kernel
theorem dd_Reader_takeAfterUnit_27 : decode bb_Reader_takeAfterUnit 27 = .ok (.bipush 43, 2) := by decide +kernel
theorem dd_Reader_takeAfterUnit_29 : decode bb_Reader_takeAfterUnit 29 = .ok (.if_icmp .eq 9, 3) := by decide +kernel
theorem dd_Reader_takeAfterUnit_32 : decode bb_Reader_takeAfterUnit 32 = .ok (.iload_n 1, 1) := by decide +kernel
theorem dd_Reader_takeAfterUnit_33 : decode bb_Reader_takeAfterUnit 33 = .ok (.bipush 45, 2) := by decide +kernel
theorem dd_Reader_takeAfterUnit_35 : decode bb_Reader_takeAfterUnit 35 = .ok (.if_icmp .ne 33, 3) := by decide +kernel
theorem dd_Reader_takeAfterUnit_38 : decode bb_Reader_takeAfterUnit 38 = .ok (.aload_n 0, 1) := by decide +kernel
theorem dd_Reader_takeAfterUnit_39 : decode bb_Reader_takeAfterUnit 39 = .ok (.getfield 87, 3) := by decide +kernel
theorem dd_Reader_takeAfterUnit_42 : decode bb_Reader_takeAfterUnit 42 = .ok (.iconst 5, 1) := by decide +kernel
theorem dd_Reader_takeAfterUnit_43 : decode bb_Reader_takeAfterUnit 43 = .ok (.iload_n 1, 1) := by decide +kernel
theorem dd_Reader_takeAfterUnit_44 : decode bb_Reader_takeAfterUnit 44 = .ok (.bipush 43, 2) := by decide +kernel
theorem dd_Reader_takeAfterUnit_46 : decode bb_Reader_takeAfterUnit 46 = .ok (.if_icmp .ne 8, 3) := by decide +kernel
theorem dd_Reader_takeAfterUnit_49 : decode bb_Reader_takeAfterUnit 49 = .ok (.bipush 9, 2) := by decide +kernel
theorem dd_Reader_takeAfterUnit_51 : decode bb_Reader_takeAfterUnit 51 = .ok (.goto 5, 3) := by decide +kernel
theorem dd_Reader_takeAfterUnit_54 : decode bb_Reader_takeAfterUnit 54 = .ok (.bipush 10, 2) := by decide +kernel
theorem dd_Reader_takeAfterUnit_56 : decode bb_Reader_takeAfterUnit 56 = .ok (.invokevirtual 286, 3) := by decide +kernel
theorem dd_Reader_takeAfterUnit_59 : decode bb_Reader_takeAfterUnit 59 = .ok (.aload_n 0, 1) := by decide +kernel
theorem dd_Reader_takeAfterUnit_60 : decode bb_Reader_takeAfterUnit 60 = .ok (.bipush 18, 2) := by decide +kernel
theorem dd_Reader_takeAfterUnit_62 : decode bb_Reader_takeAfterUnit 62 = .ok (.putfield 33, 3) := by decide +kernel
theorem dd_Reader_takeAfterUnit_65 : decode bb_Reader_takeAfterUnit 65 = .ok (.goto 114, 3) := by decide +kernel
theorem dd_Reader_takeAfterUnit_68 : decode bb_Reader_takeAfterUnit 68 = .ok (.iload_n 1, 1) := by decide +kernel
theorem dd_Reader_takeAfterUnit_69 : decode bb_Reader_takeAfterUnit 69 = .ok (.bipush 41, 2) := by decide +kernel
theorem dd_Reader_takeAfterUnit_71 : decode bb_Reader_takeAfterUnit 71 = .ok (.if_icmp .ne 29, 3) := by decide +kernel
theorem dd_Reader_takeAfterUnit_74 : decode bb_Reader_takeAfterUnit 74 = .ok (.aload_n 0, 1) := by decide +kernel
theorem dd_Reader_takeAfterUnit_75 : decode bb_Reader_takeAfterUnit 75 = .ok (.getfield 87, 3) := by decide +kernel
theorem dd_Reader_takeAfterUnit_78 : decode bb_Reader_takeAfterUnit 78 = .ok (.getfield 315, 3) := by decide +kernel
theorem dd_Reader_takeAfterUnit_81 : decode bb_Reader_takeAfterUnit 81 = .ok (.ifCond .le 19, 3) := by decide +kernel
theorem dd_Reader_takeAfterUnit_84 : decode bb_Reader_takeAfterUnit 84 = .ok (.aload_n 0, 1) := by decide +kernel
theorem dd_Reader_takeAfterUnit_85 : decode bb_Reader_takeAfterUnit 85 = .ok (.getfield 87, 3) := by decide +kernel
theorem dd_Reader_takeAfterUnit_88 : decode bb_Reader_takeAfterUnit 88 = .ok (.invokevirtual 318, 3) := by decide +kernel
theorem dd_Reader_takeAfterUnit_91 : decode bb_Reader_takeAfterUnit 91 = .ok (.aload_n 0, 1) := by decide +kernel
theorem dd_Reader_takeAfterUnit_92 : decode bb_Reader_takeAfterUnit 92 = .ok (.bipush 21, 2) := by decide +kernel
theorem dd_Reader_takeAfterUnit_94 : decode bb_Reader_takeAfterUnit 94 = .ok (.putfield 33, 3) := by decide +kernel
theorem dd_Reader_takeAfterUnit_97 : decode bb_Reader_takeAfterUnit 97 = .ok (.goto 82, 3) := by decide +kernel
theorem dd_Reader_takeAfterUnit_100 : decode bb_Reader_takeAfterUnit 100 = .ok (.aload_n 0, 1) := by decide +kernel
theorem dd_Reader_takeAfterUnit_101 : decode bb_Reader_takeAfterUnit 101 = .ok (.getfield 87, 3) := by decide +kernel
theorem dd_Reader_takeAfterUnit_104 : decode bb_Reader_takeAfterUnit 104 = .ok (.getfield 315, 3) := by decide +kernel
theorem dd_Reader_takeAfterUnit_107 : decode bb_Reader_takeAfterUnit 107 = .ok (.ifCond .le 11, 3) := by decide +kernel
theorem dd_Reader_takeAfterUnit_110 : decode bb_Reader_takeAfterUnit 110 = .ok (.aload_n 0, 1) := by decide +kernel
theorem dd_Reader_takeAfterUnit_111 : decode bb_Reader_takeAfterUnit 111 = .ok (.iconst 2, 1) := by decide +kernel
theorem dd_Reader_takeAfterUnit_112 : decode bb_Reader_takeAfterUnit 112 = .ok (.invokevirtual 133, 3) := by decide +kernel
theorem dd_Reader_takeAfterUnit_115 : decode bb_Reader_takeAfterUnit 115 = .ok (.goto 64, 3) := by decide +kernel
theorem dd_Reader_takeAfterUnit_118 : decode bb_Reader_takeAfterUnit 118 = .ok (.aload_n 0, 1) := by decide +kernel
theorem dd_Reader_takeAfterUnit_119 : decode bb_Reader_takeAfterUnit 119 = .ok (.getfield 63, 3) := by decide +kernel
theorem dd_Reader_takeAfterUnit_122 : decode bb_Reader_takeAfterUnit 122 = .ok (.ifCond .ne 11, 3) := by decide +kernel
theorem dd_Reader_takeAfterUnit_125 : decode bb_Reader_takeAfterUnit 125 = .ok (.aload_n 0, 1) := by decide +kernel
theorem dd_Reader_takeAfterUnit_126 : decode bb_Reader_takeAfterUnit 126 = .ok (.iload_n 1, 1) := by decide +kernel
theorem dd_Reader_takeAfterUnit_127 : decode bb_Reader_takeAfterUnit 127 = .ok (.invokevirtual 321, 3) := by decide +kernel
theorem dd_Reader_takeAfterUnit_130 : decode bb_Reader_takeAfterUnit 130 = .ok (.goto 49, 3) := by decide +kernel
theorem dd_Reader_takeAfterUnit_133 : decode bb_Reader_takeAfterUnit 133 = .ok (.aload_n 0, 1) := by decide +kernel
theorem dd_Reader_takeAfterUnit_134 : decode bb_Reader_takeAfterUnit 134 = .ok (.getfield 63, 3) := by decide +kernel
theorem dd_Reader_takeAfterUnit_137 : decode bb_Reader_takeAfterUnit 137 = .ok (.iconst 1, 1) := by decide +kernel
theorem dd_Reader_takeAfterUnit_138 : decode bb_Reader_takeAfterUnit 138 = .ok (.if_icmp .ne 20, 3) := by decide +kernel
theorem dd_Reader_takeAfterUnit_141 : decode bb_Reader_takeAfterUnit 141 = .ok (.aload_n 0, 1) := by decide +kernel
theorem dd_Reader_takeAfterUnit_142 : decode bb_Reader_takeAfterUnit 142 = .ok (.getfield 87, 3) := by decide +kernel
theorem dd_Reader_takeAfterUnit_145 : decode bb_Reader_takeAfterUnit 145 = .ok (.iconst 3, 1) := by decide +kernel
theorem dd_Reader_takeAfterUnit_146 : decode bb_Reader_takeAfterUnit 146 = .ok (.invokevirtual 227, 3) := by decide +kernel
theorem dd_Reader_takeAfterUnit_149 : decode bb_Reader_takeAfterUnit 149 = .ok (.aload_n 0, 1) := by decide +kernel
theorem dd_Reader_takeAfterUnit_150 : decode bb_Reader_takeAfterUnit 150 = .ok (.bipush 17, 2) := by decide +kernel
theorem dd_Reader_takeAfterUnit_152 : decode bb_Reader_takeAfterUnit 152 = .ok (.invokevirtual 230, 3) := by decide +kernel
theorem dd_Reader_takeAfterUnit_155 : decode bb_Reader_takeAfterUnit 155 = .ok (.goto 24, 3) := by decide +kernel
theorem dd_Reader_takeAfterUnit_158 : decode bb_Reader_takeAfterUnit 158 = .ok (.aload_n 0, 1) := by decide +kernel
theorem dd_Reader_takeAfterUnit_159 : decode bb_Reader_takeAfterUnit 159 = .ok (.getfield 87, 3) := by decide +kernel
theorem dd_Reader_takeAfterUnit_162 : decode bb_Reader_takeAfterUnit 162 = .ok (.iconst 5, 1) := by decide +kernel
theorem dd_Reader_takeAfterUnit_163 : decode bb_Reader_takeAfterUnit 163 = .ok (.invokevirtual 227, 3) := by decide +kernel
theorem dd_Reader_takeAfterUnit_166 : decode bb_Reader_takeAfterUnit 166 = .ok (.aload_n 0, 1) := by decide +kernel
theorem dd_Reader_takeAfterUnit_167 : decode bb_Reader_takeAfterUnit 167 = .ok (.getfield 69, 3) := by decide +kernel
theorem dd_Reader_takeAfterUnit_170 : decode bb_Reader_takeAfterUnit 170 = .ok (.invokevirtual 324, 3) := by decide +kernel
theorem dd_Reader_takeAfterUnit_173 : decode bb_Reader_takeAfterUnit 173 = .ok (.aload_n 0, 1) := by decide +kernel
theorem dd_Reader_takeAfterUnit_174 : decode bb_Reader_takeAfterUnit 174 = .ok (.bipush 23, 2) := by decide +kernel
theorem dd_Reader_takeAfterUnit_176 : decode bb_Reader_takeAfterUnit 176 = .ok (.invokevirtual 230, 3) := by decide +kernel
theorem dd_Reader_takeAfterUnit_179 : decode bb_Reader_takeAfterUnit 179 = .ok (.return_, 1) := by decide +kernel
set_option maxRecDepth 100000 in
set_option maxHeartbeats 4000000 in
theorem t_Reader_takeAfterUnit_179  (X : zX p s m args cd D cid B bb_Reader_takeAfterUnit 2 rr_Reader zT) (H : zH s meth B n0 none "takeAfterUnit") {nf : Nat}  {c : Zc} {res : Zc} (h : f_Reader_takeAfterUnit_179 nf  c = some res) : Zz p l e (zRm 4 89 0 0) s m args below meth cd (MQ below (zQv D cid B res n0 0) args s 0 0 (fun q => B ≤ q)) D cid B 2 0 0 c 179 [] [] := by
  unfold f_Reader_takeAfterUnit_179 at h
  obtain rfl := Option.some.inj h
  exact z_vret X H.1 H.2.1 H.2.2.1 dd_Reader_takeAfterUnit_179
set_option maxRecDepth 100000 in
set_option maxHeartbeats 4000000 in
theorem t_Reader_takeAfterUnit_56  (X : zX p s m args cd D cid B bb_Reader_takeAfterUnit 2 rr_Reader zT) (H : zH s meth B n0 none "takeAfterUnit") {nf : Nat} {x0 : Nat} {s0 : Nat} {s1 : Int32} {s2 : Int32} {c : Zc} {res : Zc} (h : f_Reader_takeAfterUnit_56 nf x0 s0 s1 s2 c = some res) : Zz p l e (zRm 4 89 0 0) s m args below meth cd (MQ below (zQv D cid B res n0 0) args s 0 0 (fun q => B ≤ q)) D cid B 2 0 0 c 56 [(0, .ref x0)] [.int s2, .int s1, .ref s0] := by
  unfold f_Reader_takeAfterUnit_56 at h
  obtain ⟨w6, ew6, h⟩ := zb h
  obtain ⟨q5, eq5, h⟩ := zb h
  refine z_callVv X [.int s1, .int s2] rfl dd_Reader_takeAfterUnit_56 (c_Operators_between l eq5) (cwV 2 X.1.2.2.2.2 (zg_V km_1153 km_1154 km_1155 km_132 km_1156) rfl rfl rfl (by decide +kernel) ⟨Nat.le_of_ble_eq_true rfl, Nat.le_of_ble_eq_true rfl⟩) (zob_s ew6) kc_4 rfl (Nat.le_of_ble_eq_true rfl) ⟨Nat.le_of_ble_eq_true rfl, Nat.le_of_ble_eq_true rfl⟩ ?_
  refine z_aload_n X dd_Reader_takeAfterUnit_59 rfl 0 rfl ?_
  refine z_bipush (v := 18) X dd_Reader_takeAfterUnit_60 (by decide) ?_
  obtain ⟨c7, ec7, h⟩ := zb h
  refine z_put (j := 8) X dd_Reader_takeAfterUnit_62 kc_5 ki_5 tt_Reader tk_Reader nn_Reader (by decide) km_482 rfl (tk_Reader 8 (by decide)) rfl rfl ec7 ?_
  refine z_goto (tgt := 179) X dd_Reader_takeAfterUnit_65 (by decide) ?_
  refine z_sub [] rfl ?_
  exact t_Reader_takeAfterUnit_179 X H h
set_option maxRecDepth 100000 in
set_option maxHeartbeats 4000000 in
theorem t_Reader_takeAfterUnit_38  (X : zX p s m args cd D cid B bb_Reader_takeAfterUnit 2 rr_Reader zT) (H : zH s meth B n0 none "takeAfterUnit") {nf : Nat} {x0 : Nat} {x1 : Int32} {c : Zc} {res : Zc} (h : f_Reader_takeAfterUnit_38 nf x0 x1 c = some res) : Zz p l e (zRm 4 89 0 0) s m args below meth cd (MQ below (zQv D cid B res n0 0) args s 0 0 (fun q => B ≤ q)) D cid B 2 0 0 c 38 [(0, .ref x0), (1, .int x1)] [] := by
  unfold f_Reader_takeAfterUnit_38 at h
  refine z_aload_n X dd_Reader_takeAfterUnit_38 rfl 0 rfl ?_
  obtain ⟨v3, ev3, h⟩ := zb h
  refine z_get (j := 2) X dd_Reader_takeAfterUnit_39 kc_5 ki_5 (by decide) km_476 (zgr_v ev3) ?_
  refine z_iconst (v := 5) X dd_Reader_takeAfterUnit_42 (by decide) ?_
  refine z_iload_n X dd_Reader_takeAfterUnit_43 rfl 1 rfl ?_
  refine z_bipush (v := 43) X dd_Reader_takeAfterUnit_44 (by decide) ?_
  refine z_icmp_ne (tgt := 54) X dd_Reader_takeAfterUnit_46 (by decide) (fun q4 => ?_) (fun q4 => ?_)
  · rw [if_neg q4] at h
    refine z_bipush (v := 10) X dd_Reader_takeAfterUnit_54 (by decide) ?_
    refine z_sub [0] rfl ?_
    exact t_Reader_takeAfterUnit_56 X H h
  · rw [if_pos q4] at h
    refine z_bipush (v := 9) X dd_Reader_takeAfterUnit_49 (by decide) ?_
    refine z_goto (tgt := 56) X dd_Reader_takeAfterUnit_51 (by decide) ?_
    refine z_sub [0] rfl ?_
    exact t_Reader_takeAfterUnit_56 X H h
set_option maxRecDepth 100000 in
set_option maxHeartbeats 4000000 in
theorem t_Reader_takeAfterUnit_100  (X : zX p s m args cd D cid B bb_Reader_takeAfterUnit 2 rr_Reader zT) (H : zH s meth B n0 none "takeAfterUnit") {nf : Nat} {x0 : Nat} {x1 : Int32} {c : Zc} {res : Zc} (h : f_Reader_takeAfterUnit_100 nf x0 x1 c = some res) : Zz p l e (zRm 4 89 0 0) s m args below meth cd (MQ below (zQv D cid B res n0 0) args s 0 0 (fun q => B ≤ q)) D cid B 2 0 0 c 100 [(0, .ref x0), (1, .int x1)] [] := by
  unfold f_Reader_takeAfterUnit_100 at h
  refine z_aload_n X dd_Reader_takeAfterUnit_100 rfl 0 rfl ?_
  obtain ⟨v10, ev10, h⟩ := zb h
  refine z_get (j := 2) X dd_Reader_takeAfterUnit_101 kc_5 ki_5 (by decide) km_476 (zgr_v ev10) ?_
  obtain ⟨v11, ev11, h⟩ := zb h
  refine z_get (j := 1) X dd_Reader_takeAfterUnit_104 kc_4 ki_4 (by decide) km_448 (zgi_v ev11) ?_
  refine z_if_le (tgt := 118) X dd_Reader_takeAfterUnit_107 (by decide) (fun q12 => ?_) (fun q12 => ?_)
  · rw [if_pos q12] at h
    refine z_aload_n X dd_Reader_takeAfterUnit_118 rfl 0 rfl ?_
    obtain ⟨v13, ev13, h⟩ := zb h
    refine z_get (j := 18) X dd_Reader_takeAfterUnit_119 kc_5 ki_5 (by decide) km_492 (zgi_v ev13) ?_
    refine z_if_ne (tgt := 133) X dd_Reader_takeAfterUnit_122 (by decide) (fun q14 => ?_) (fun q14 => ?_)
    · rw [if_neg q14] at h
      refine z_aload_n X dd_Reader_takeAfterUnit_133 rfl 0 rfl ?_
      obtain ⟨v15, ev15, h⟩ := zb h
      refine z_get (j := 18) X dd_Reader_takeAfterUnit_134 kc_5 ki_5 (by decide) km_492 (zgi_v ev15) ?_
      refine z_iconst (v := 1) X dd_Reader_takeAfterUnit_137 (by decide) ?_
      refine z_icmp_ne (tgt := 158) X dd_Reader_takeAfterUnit_138 (by decide) (fun q16 => ?_) (fun q16 => ?_)
      · rw [if_neg q16] at h
        refine z_aload_n X dd_Reader_takeAfterUnit_158 rfl 0 rfl ?_
        obtain ⟨v17, ev17, h⟩ := zb h
        refine z_get (j := 2) X dd_Reader_takeAfterUnit_159 kc_5 ki_5 (by decide) km_476 (zgr_v ev17) ?_
        refine z_iconst (v := 5) X dd_Reader_takeAfterUnit_162 (by decide) ?_
        obtain ⟨w19, ew19, h⟩ := zb h
        obtain ⟨q18, eq18, h⟩ := zb h
        refine z_callVv X [.int 5] rfl dd_Reader_takeAfterUnit_163 (c_Operators_unwind l eq18) (cwV 1 X.1.2.2.2.2 (zg_V km_1059 km_1060 km_1061 km_132 km_1062) rfl rfl rfl (by decide +kernel) ⟨Nat.le_of_ble_eq_true rfl, Nat.le_of_ble_eq_true rfl⟩) (zob_s ew19) kc_4 rfl (Nat.le_of_ble_eq_true rfl) ⟨Nat.le_of_ble_eq_true rfl, Nat.le_of_ble_eq_true rfl⟩ ?_
        refine z_aload_n X dd_Reader_takeAfterUnit_166 rfl 0 rfl ?_
        obtain ⟨v20, ev20, h⟩ := zb h
        refine z_get (j := 4) X dd_Reader_takeAfterUnit_167 kc_5 ki_5 (by decide) km_478 (zgr_v ev20) ?_
        obtain ⟨w22, ew22, h⟩ := zb h
        obtain ⟨q21, eq21, h⟩ := zb h
        refine z_callVv X [] rfl dd_Reader_takeAfterUnit_170 (c_Text_endItem l eq21) (cwV 0 X.1.2.2.2.2 (zg_V km_1202 km_1203 km_1204 km_128 km_1205) rfl rfl rfl (by decide +kernel) ⟨Nat.le_of_ble_eq_true rfl, Nat.le_of_ble_eq_true rfl⟩) (zob_s ew22) kc_2 rfl (Nat.le_of_ble_eq_true rfl) ⟨Nat.le_of_ble_eq_true rfl, Nat.le_of_ble_eq_true rfl⟩ ?_
        refine z_aload_n X dd_Reader_takeAfterUnit_173 rfl 0 rfl ?_
        refine z_bipush (v := 23) X dd_Reader_takeAfterUnit_174 (by decide) ?_
        obtain ⟨w24, ew24, h⟩ := zb h
        obtain ⟨q23, eq23, h⟩ := zb h
        refine z_callVv X [.int 23] rfl dd_Reader_takeAfterUnit_176 (c_Reader_passOn l eq23) (cwV 1 X.1.2.2.2.2 (zg_V km_1068 km_1070 km_22 km_130 km_1071) rfl rfl rfl (by decide +kernel) ⟨Nat.le_of_ble_eq_true rfl, Nat.le_of_ble_eq_true rfl⟩) (zob_s ew24) kc_5 rfl (Nat.le_of_ble_eq_true rfl) ⟨Nat.le_of_ble_eq_true rfl, Nat.le_of_ble_eq_true rfl⟩ ?_
        refine z_sub [] rfl ?_
        exact t_Reader_takeAfterUnit_179 X H h
      · rw [if_pos q16] at h
        refine z_aload_n X dd_Reader_takeAfterUnit_141 rfl 0 rfl ?_
        obtain ⟨v25, ev25, h⟩ := zb h
        refine z_get (j := 2) X dd_Reader_takeAfterUnit_142 kc_5 ki_5 (by decide) km_476 (zgr_v ev25) ?_
        refine z_iconst (v := 3) X dd_Reader_takeAfterUnit_145 (by decide) ?_
        obtain ⟨w27, ew27, h⟩ := zb h
        obtain ⟨q26, eq26, h⟩ := zb h
        refine z_callVv X [.int 3] rfl dd_Reader_takeAfterUnit_146 (c_Operators_unwind l eq26) (cwV 1 X.1.2.2.2.2 (zg_V km_1059 km_1060 km_1061 km_132 km_1062) rfl rfl rfl (by decide +kernel) ⟨Nat.le_of_ble_eq_true rfl, Nat.le_of_ble_eq_true rfl⟩) (zob_s ew27) kc_4 rfl (Nat.le_of_ble_eq_true rfl) ⟨Nat.le_of_ble_eq_true rfl, Nat.le_of_ble_eq_true rfl⟩ ?_
        refine z_aload_n X dd_Reader_takeAfterUnit_149 rfl 0 rfl ?_
        refine z_bipush (v := 17) X dd_Reader_takeAfterUnit_150 (by decide) ?_
        obtain ⟨w29, ew29, h⟩ := zb h
        obtain ⟨q28, eq28, h⟩ := zb h
        refine z_callVv X [.int 17] rfl dd_Reader_takeAfterUnit_152 (c_Reader_passOn l eq28) (cwV 1 X.1.2.2.2.2 (zg_V km_1068 km_1070 km_22 km_130 km_1071) rfl rfl rfl (by decide +kernel) ⟨Nat.le_of_ble_eq_true rfl, Nat.le_of_ble_eq_true rfl⟩) (zob_s ew29) kc_5 rfl (Nat.le_of_ble_eq_true rfl) ⟨Nat.le_of_ble_eq_true rfl, Nat.le_of_ble_eq_true rfl⟩ ?_
        refine z_goto (tgt := 179) X dd_Reader_takeAfterUnit_155 (by decide) ?_
        refine z_sub [] rfl ?_
        exact t_Reader_takeAfterUnit_179 X H h
    · rw [if_pos q14] at h
      refine z_aload_n X dd_Reader_takeAfterUnit_125 rfl 0 rfl ?_
      refine z_iload_n X dd_Reader_takeAfterUnit_126 rfl 1 rfl ?_
      obtain ⟨w31, ew31, h⟩ := zb h
      obtain ⟨q30, eq30, h⟩ := zb h
      refine z_callVv X [.int x1] rfl dd_Reader_takeAfterUnit_127 (c_Reader_takeComparison l eq30) (cwV 1 X.1.2.2.2.2 (zg_V km_1195 km_1197 km_38 km_130 km_1198) rfl rfl rfl (by decide +kernel) ⟨Nat.le_of_ble_eq_true rfl, Nat.le_of_ble_eq_true rfl⟩) (zob_s ew31) kc_5 rfl (Nat.le_of_ble_eq_true rfl) ⟨Nat.le_of_ble_eq_true rfl, Nat.le_of_ble_eq_true rfl⟩ ?_
      refine z_goto (tgt := 179) X dd_Reader_takeAfterUnit_130 (by decide) ?_
      refine z_sub [] rfl ?_
      exact t_Reader_takeAfterUnit_179 X H h
  · rw [if_neg q12] at h
    refine z_aload_n X dd_Reader_takeAfterUnit_110 rfl 0 rfl ?_
    refine z_iconst (v := 2) X dd_Reader_takeAfterUnit_111 (by decide) ?_
    obtain ⟨w33, ew33, h⟩ := zb h
    obtain ⟨q32, eq32, h⟩ := zb h
    refine z_callVv X [.int 2] rfl dd_Reader_takeAfterUnit_112 (c_Reader_fail l eq32) (cwV 1 X.1.2.2.2.2 (zg_V km_998 km_1000 km_11 km_130 km_1001) rfl rfl rfl (by decide +kernel) ⟨Nat.le_of_ble_eq_true rfl, Nat.le_of_ble_eq_true rfl⟩) (zob_s ew33) kc_5 rfl (Nat.le_of_ble_eq_true rfl) ⟨Nat.le_of_ble_eq_true rfl, Nat.le_of_ble_eq_true rfl⟩ ?_
    refine z_goto (tgt := 179) X dd_Reader_takeAfterUnit_115 (by decide) ?_
    refine z_sub [] rfl ?_
    exact t_Reader_takeAfterUnit_179 X H h
set_option maxRecDepth 100000 in
set_option maxHeartbeats 4000000 in
theorem c_Reader_takeAfterUnit (l : Launch) {nf : Nat} {a0 : Nat} {a1 : Int32} {c : Zc} {res : Zc} (h : f_Reader_takeAfterUnit nf a0 a1 c = some res) : zM l yy_Reader_takeAfterUnit ww_Reader_takeAfterUnit 4 89 0 0 [.ref a0, .int a1] c (fun D cid B => zQv D cid B res c.length 0) := by
  refine z_met (cc := bb_Reader_takeAfterUnit) (maxL := 2) (ret := none) (by decide +kernel) rfl (Nat.le_of_ble_eq_true rfl) ?_
  intro p e s m args below meth cd D cid B X h1 h2 h3 h4
  have X : zX p s m args cd D cid B bb_Reader_takeAfterUnit 2 rr_Reader zT := X
  have H : zH s meth B c.length none "takeAfterUnit" := ⟨h1, h2, h4, h3⟩
  unfold f_Reader_takeAfterUnit at h
  show Zz p l e (zRm 4 89 0 0) s m args below meth cd _ D cid B 2 0 0 c 0 [(0, .ref a0), (1, .int a1)] []
  refine z_iload_n X dd_Reader_takeAfterUnit_0 rfl 1 rfl ?_
  refine z_bipush (v := 42) X dd_Reader_takeAfterUnit_1 (by decide) ?_
  refine z_icmp_ne (tgt := 26) X dd_Reader_takeAfterUnit_3 (by decide) (fun q1 => ?_) (fun q1 => ?_)
  · rw [if_neg q1] at h
    refine z_iload_n X dd_Reader_takeAfterUnit_26 rfl 1 rfl ?_
    refine z_bipush (v := 43) X dd_Reader_takeAfterUnit_27 (by decide) ?_
    refine z_icmp_eq (tgt := 38) X dd_Reader_takeAfterUnit_29 (by decide) (fun q2 => ?_) (fun q2 => ?_)
    · rw [if_pos q2] at h
      exact t_Reader_takeAfterUnit_38 X H h
    · rw [if_neg q2] at h
      refine z_iload_n X dd_Reader_takeAfterUnit_32 rfl 1 rfl ?_
      refine z_bipush (v := 45) X dd_Reader_takeAfterUnit_33 (by decide) ?_
      refine z_icmp_ne (tgt := 68) X dd_Reader_takeAfterUnit_35 (by decide) (fun q8 => ?_) (fun q8 => ?_)
      · rw [if_neg q8] at h
        refine z_iload_n X dd_Reader_takeAfterUnit_68 rfl 1 rfl ?_
        refine z_bipush (v := 41) X dd_Reader_takeAfterUnit_69 (by decide) ?_
        refine z_icmp_ne (tgt := 100) X dd_Reader_takeAfterUnit_71 (by decide) (fun q9 => ?_) (fun q9 => ?_)
        · rw [if_neg q9] at h
          exact t_Reader_takeAfterUnit_100 X H h
        · rw [if_pos q9] at h
          refine z_aload_n X dd_Reader_takeAfterUnit_74 rfl 0 rfl ?_
          obtain ⟨v34, ev34, h⟩ := zb h
          refine z_get (j := 2) X dd_Reader_takeAfterUnit_75 kc_5 ki_5 (by decide) km_476 (zgr_v ev34) ?_
          obtain ⟨v35, ev35, h⟩ := zb h
          refine z_get (j := 1) X dd_Reader_takeAfterUnit_78 kc_4 ki_4 (by decide) km_448 (zgi_v ev35) ?_
          refine z_if_le (tgt := 100) X dd_Reader_takeAfterUnit_81 (by decide) (fun q36 => ?_) (fun q36 => ?_)
          · rw [if_pos q36] at h
            exact t_Reader_takeAfterUnit_100 X H h
          · rw [if_neg q36] at h
            refine z_aload_n X dd_Reader_takeAfterUnit_84 rfl 0 rfl ?_
            obtain ⟨v37, ev37, h⟩ := zb h
            refine z_get (j := 2) X dd_Reader_takeAfterUnit_85 kc_5 ki_5 (by decide) km_476 (zgr_v ev37) ?_
            obtain ⟨w39, ew39, h⟩ := zb h
            obtain ⟨q38, eq38, h⟩ := zb h
            refine z_callVv X [] rfl dd_Reader_takeAfterUnit_88 (c_Operators_closeParen l eq38) (cwV 0 X.1.2.2.2.2 (zg_V km_1191 km_1192 km_1193 km_132 km_1194) rfl rfl rfl (by decide +kernel) ⟨Nat.le_of_ble_eq_true rfl, Nat.le_of_ble_eq_true rfl⟩) (zob_s ew39) kc_4 rfl (Nat.le_of_ble_eq_true rfl) ⟨Nat.le_of_ble_eq_true rfl, Nat.le_of_ble_eq_true rfl⟩ ?_
            refine z_aload_n X dd_Reader_takeAfterUnit_91 rfl 0 rfl ?_
            refine z_bipush (v := 21) X dd_Reader_takeAfterUnit_92 (by decide) ?_
            obtain ⟨c40, ec40, h⟩ := zb h
            refine z_put (j := 8) X dd_Reader_takeAfterUnit_94 kc_5 ki_5 tt_Reader tk_Reader nn_Reader (by decide) km_482 rfl (tk_Reader 8 (by decide)) rfl rfl ec40 ?_
            refine z_goto (tgt := 179) X dd_Reader_takeAfterUnit_97 (by decide) ?_
            refine z_sub [] rfl ?_
            exact t_Reader_takeAfterUnit_179 X H h
      · rw [if_pos q8] at h
        exact t_Reader_takeAfterUnit_38 X H h
  · rw [if_pos q1] at h
    refine z_aload_n X dd_Reader_takeAfterUnit_6 rfl 0 rfl ?_
    obtain ⟨v41, ev41, h⟩ := zb h
    refine z_get (j := 2) X dd_Reader_takeAfterUnit_7 kc_5 ki_5 (by decide) km_476 (zgr_v ev41) ?_
    refine z_bipush (v := 6) X dd_Reader_takeAfterUnit_10 (by decide) ?_
    refine z_bipush (v := 11) X dd_Reader_takeAfterUnit_12 (by decide) ?_
    obtain ⟨w43, ew43, h⟩ := zb h
    obtain ⟨q42, eq42, h⟩ := zb h
    refine z_callVv X [.int 6, .int 11] rfl dd_Reader_takeAfterUnit_14 (c_Operators_between l eq42) (cwV 2 X.1.2.2.2.2 (zg_V km_1153 km_1154 km_1155 km_132 km_1156) rfl rfl rfl (by decide +kernel) ⟨Nat.le_of_ble_eq_true rfl, Nat.le_of_ble_eq_true rfl⟩) (zob_s ew43) kc_4 rfl (Nat.le_of_ble_eq_true rfl) ⟨Nat.le_of_ble_eq_true rfl, Nat.le_of_ble_eq_true rfl⟩ ?_
    refine z_aload_n X dd_Reader_takeAfterUnit_17 rfl 0 rfl ?_
    refine z_bipush (v := 18) X dd_Reader_takeAfterUnit_18 (by decide) ?_
    obtain ⟨c44, ec44, h⟩ := zb h
    refine z_put (j := 8) X dd_Reader_takeAfterUnit_20 kc_5 ki_5 tt_Reader tk_Reader nn_Reader (by decide) km_482 rfl (tk_Reader 8 (by decide)) rfl rfl ec44 ?_
    refine z_goto (tgt := 179) X dd_Reader_takeAfterUnit_23 (by decide) ?_
    refine z_sub [] rfl ?_
    exact t_Reader_takeAfterUnit_179 X H h
theorem dd_Reader_takeItem_0 : decode bb_Reader_takeItem 0 = .ok (.iload_n 1, 1) := by decide +kernel
theorem dd_Reader_takeItem_1 : decode bb_Reader_takeItem 1 = .ok (.bipush 19, 2) := by decide +kernel
theorem dd_Reader_takeItem_3 : decode bb_Reader_takeItem 3 = .ok (.if_icmp .lt 13, 3) := by decide +kernel
theorem dd_Reader_takeItem_6 : decode bb_Reader_takeItem 6 = .ok (.iload_n 1, 1) := by decide +kernel
theorem dd_Reader_takeItem_7 : decode bb_Reader_takeItem 7 = .ok (.bipush 22, 2) := by decide +kernel
theorem dd_Reader_takeItem_9 : decode bb_Reader_takeItem 9 = .ok (.if_icmp .gt 7, 3) := by decide +kernel
theorem dd_Reader_takeItem_12 : decode bb_Reader_takeItem 12 = .ok (.iconst 1, 1) := by decide +kernel
theorem dd_Reader_takeItem_13 : decode bb_Reader_takeItem 13 = .ok (.goto 4, 3) := by decide +kernel
theorem dd_Reader_takeItem_16 : decode bb_Reader_takeItem 16 = .ok (.iconst 0, 1) := by decide +kernel
theorem dd_Reader_takeItem_17 : decode bb_Reader_takeItem 17 = .ok (.istore_n 2, 1) := by decide +kernel
theorem dd_Reader_takeItem_18 : decode bb_Reader_takeItem 18 = .ok (.iload_n 1, 1) := by decide +kernel
theorem dd_Reader_takeItem_19 : decode bb_Reader_takeItem 19 = .ok (.bipush 45, 2) := by decide +kernel
theorem dd_Reader_takeItem_21 : decode bb_Reader_takeItem 21 = .ok (.if_icmp .eq 20, 3) := by decide +kernel
theorem dd_Reader_takeItem_24 : decode bb_Reader_takeItem 24 = .ok (.iload_n 1, 1) := by decide +kernel
theorem dd_Reader_takeItem_25 : decode bb_Reader_takeItem 25 = .ok (.bipush 40, 2) := by decide +kernel
theorem dd_Reader_takeItem_27 : decode bb_Reader_takeItem 27 = .ok (.if_icmp .eq 14, 3) := by decide +kernel
theorem dd_Reader_takeItem_30 : decode bb_Reader_takeItem 30 = .ok (.iload_n 1, 1) := by decide +kernel
theorem dd_Reader_takeItem_31 : decode bb_Reader_takeItem 31 = .ok (.bipush 6, 2) := by decide +kernel
theorem dd_Reader_takeItem_33 : decode bb_Reader_takeItem 33 = .ok (.if_icmp .eq 8, 3) := by decide +kernel
theorem dd_Reader_takeItem_36 : decode bb_Reader_takeItem 36 = .ok (.iload_n 1, 1) := by decide +kernel
theorem dd_Reader_takeItem_37 : decode bb_Reader_takeItem 37 = .ok (.iconst 2, 1) := by decide +kernel
theorem dd_Reader_takeItem_38 : decode bb_Reader_takeItem 38 = .ok (.if_icmp .ne 7, 3) := by decide +kernel
theorem dd_Reader_takeItem_41 : decode bb_Reader_takeItem 41 = .ok (.iconst 1, 1) := by decide +kernel
theorem dd_Reader_takeItem_42 : decode bb_Reader_takeItem 42 = .ok (.goto 4, 3) := by decide +kernel
theorem dd_Reader_takeItem_45 : decode bb_Reader_takeItem 45 = .ok (.iconst 0, 1) := by decide +kernel
theorem dd_Reader_takeItem_46 : decode bb_Reader_takeItem 46 = .ok (.istore_n 3, 1) := by decide +kernel
theorem dd_Reader_takeItem_47 : decode bb_Reader_takeItem 47 = .ok (.iload_n 2, 1) := by decide +kernel
theorem dd_Reader_takeItem_48 : decode bb_Reader_takeItem 48 = .ok (.ifCond .ne 15, 3) := by decide +kernel
theorem dd_Reader_takeItem_51 : decode bb_Reader_takeItem 51 = .ok (.iload_n 3, 1) := by decide +kernel
theorem dd_Reader_takeItem_52 : decode bb_Reader_takeItem 52 = .ok (.ifCond .ne 11, 3) := by decide +kernel
theorem dd_Reader_takeItem_55 : decode bb_Reader_takeItem 55 = .ok (.aload_n 0, 1) := by decide +kernel
theorem dd_Reader_takeItem_56 : decode bb_Reader_takeItem 56 = .ok (.iconst 2, 1) := by decide +kernel
theorem dd_Reader_takeItem_57 : decode bb_Reader_takeItem 57 = .ok (.invokevirtual 133, 3) := by decide +kernel
theorem dd_Reader_takeItem_60 : decode bb_Reader_takeItem 60 = .ok (.goto 86, 3) := by decide +kernel
theorem dd_Reader_takeItem_63 : decode bb_Reader_takeItem 63 = .ok (.aload_n 0, 1) := by decide +kernel
theorem dd_Reader_takeItem_64 : decode bb_Reader_takeItem 64 = .ok (.getfield 69, 3) := by decide +kernel
theorem dd_Reader_takeItem_67 : decode bb_Reader_takeItem 67 = .ok (.getfield 330, 3) := by decide +kernel
theorem dd_Reader_takeItem_70 : decode bb_Reader_takeItem 70 = .ok (.bipush 8, 2) := by decide +kernel
theorem dd_Reader_takeItem_72 : decode bb_Reader_takeItem 72 = .ok (.if_icmp .lt 11, 3) := by decide +kernel
theorem dd_Reader_takeItem_75 : decode bb_Reader_takeItem 75 = .ok (.aload_n 0, 1) := by decide +kernel
theorem dd_Reader_takeItem_76 : decode bb_Reader_takeItem 76 = .ok (.iconst 3, 1) := by decide +kernel
theorem dd_Reader_takeItem_77 : decode bb_Reader_takeItem 77 = .ok (.invokevirtual 133, 3) := by decide +kernel
theorem dd_Reader_takeItem_80 : decode bb_Reader_takeItem 80 = .ok (.goto 66, 3) := by decide +kernel
theorem dd_Reader_takeItem_83 : decode bb_Reader_takeItem 83 = .ok (.iload_n 1, 1) := by decide +kernel
theorem dd_Reader_takeItem_84 : decode bb_Reader_takeItem 84 = .ok (.bipush 19, 2) := by decide +kernel
theorem dd_Reader_takeItem_86 : decode bb_Reader_takeItem 86 = .ok (.if_icmp .ne 28, 3) := by decide +kernel
theorem dd_Reader_takeItem_89 : decode bb_Reader_takeItem 89 = .ok (.aload_n 0, 1) := by decide +kernel
theorem dd_Reader_takeItem_90 : decode bb_Reader_takeItem 90 = .ok (.getfield 69, 3) := by decide +kernel
theorem dd_Reader_takeItem_93 : decode bb_Reader_takeItem 93 = .ok (.bipush 19, 2) := by decide +kernel
theorem dd_Reader_takeItem_95 : decode bb_Reader_takeItem 95 = .ok (.invokevirtual 333, 3) := by decide +kernel
theorem dd_Reader_takeItem_98 : decode bb_Reader_takeItem 98 = .ok (.aload_n 0, 1) := by decide +kernel
theorem dd_Reader_takeItem_99 : decode bb_Reader_takeItem 99 = .ok (.getfield 69, 3) := by decide +kernel
theorem dd_Reader_takeItem_102 : decode bb_Reader_takeItem 102 = .ok (.invokevirtual 324, 3) := by decide +kernel
theorem dd_Reader_takeItem_105 : decode bb_Reader_takeItem 105 = .ok (.aload_n 0, 1) := by decide +kernel
theorem dd_Reader_takeItem_106 : decode bb_Reader_takeItem 106 = .ok (.bipush 23, 2) := by decide +kernel
theorem dd_Reader_takeItem_108 : decode bb_Reader_takeItem 108 = .ok (.putfield 33, 3) := by decide +kernel
theorem dd_Reader_takeItem_111 : decode bb_Reader_takeItem 111 = .ok (.goto 35, 3) := by decide +kernel
theorem dd_Reader_takeItem_114 : decode bb_Reader_takeItem 114 = .ok (.aload_n 0, 1) := by decide +kernel
theorem dd_Reader_takeItem_115 : decode bb_Reader_takeItem 115 = .ok (.iconst 2, 1) := by decide +kernel
theorem dd_Reader_takeItem_116 : decode bb_Reader_takeItem 116 = .ok (.putfield 63, 3) := by decide +kernel
theorem dd_Reader_takeItem_119 : decode bb_Reader_takeItem 119 = .ok (.aload_n 0, 1) := by decide +kernel
theorem dd_Reader_takeItem_120 : decode bb_Reader_takeItem 120 = .ok (.getfield 69, 3) := by decide +kernel
theorem dd_Reader_takeItem_123 : decode bb_Reader_takeItem 123 = .ok (.iload_n 2, 1) := by decide +kernel
theorem dd_Reader_takeItem_124 : decode bb_Reader_takeItem 124 = .ok (.ifCond .eq 7, 3) := by decide +kernel
theorem dd_Reader_takeItem_127 : decode bb_Reader_takeItem 127 = .ok (.iload_n 1, 1) := by decide +kernel
theorem dd_Reader_takeItem_128 : decode bb_Reader_takeItem 128 = .ok (.goto 4, 3) := by decide +kernel
theorem dd_Reader_takeItem_131 : decode bb_Reader_takeItem 131 = .ok (.iconst 2, 1) := by decide +kernel
theorem dd_Reader_takeItem_132 : decode bb_Reader_takeItem 132 = .ok (.invokevirtual 333, 3) := by decide +kernel
theorem dd_Reader_takeItem_135 : decode bb_Reader_takeItem 135 = .ok (.aload_n 0, 1) := by decide +kernel
theorem dd_Reader_takeItem_136 : decode bb_Reader_takeItem 136 = .ok (.bipush 18, 2) := by decide +kernel
theorem dd_Reader_takeItem_138 : decode bb_Reader_takeItem 138 = .ok (.invokevirtual 230, 3) := by decide +kernel
theorem dd_Reader_takeItem_141 : decode bb_Reader_takeItem 141 = .ok (.aload_n 0, 1) := by decide +kernel
theorem dd_Reader_takeItem_142 : decode bb_Reader_takeItem 142 = .ok (.iload_n 2, 1) := by decide +kernel
theorem dd_Reader_takeItem_143 : decode bb_Reader_takeItem 143 = .ok (.putfield 66, 3) := by decide +kernel
theorem dd_Reader_takeItem_146 : decode bb_Reader_takeItem 146 = .ok (.return_, 1) := by decide +kernel
set_option maxRecDepth 100000 in
set_option maxHeartbeats 4000000 in
theorem t_Reader_takeItem_146  (X : zX p s m args cd D cid B bb_Reader_takeItem 4 rr_Reader zT) (H : zH s meth B n0 none "takeItem") {nf : Nat}  {c : Zc} {res : Zc} (h : f_Reader_takeItem_146 nf  c = some res) : Zz p l e (zRm 2 43 0 0) s m args below meth cd (MQ below (zQv D cid B res n0 0) args s 0 0 (fun q => B ≤ q)) D cid B 4 0 0 c 146 [] [] := by
  unfold f_Reader_takeItem_146 at h
  obtain rfl := Option.some.inj h
  exact z_vret X H.1 H.2.1 H.2.2.1 dd_Reader_takeItem_146
set_option maxRecDepth 100000 in
set_option maxHeartbeats 4000000 in
theorem t_Reader_takeItem_132  (X : zX p s m args cd D cid B bb_Reader_takeItem 4 rr_Reader zT) (H : zH s meth B n0 none "takeItem") {nf : Nat} {x0 : Nat} {x2 : Int32} {s0 : Nat} {s1 : Int32} {c : Zc} {res : Zc} (h : f_Reader_takeItem_132 nf x0 x2 s0 s1 c = some res) : Zz p l e (zRm 2 43 0 0) s m args below meth cd (MQ below (zQv D cid B res n0 0) args s 0 0 (fun q => B ≤ q)) D cid B 4 0 0 c 132 [(0, .ref x0), (2, .int x2)] [.int s1, .ref s0] := by
  unfold f_Reader_takeItem_132 at h
  obtain ⟨w12, ew12, h⟩ := zb h
  obtain ⟨q11, eq11, h⟩ := zb h
  refine z_callVv X [.int s1] rfl dd_Reader_takeItem_132 (c_Text_openItem l eq11) (cwV 1 X.1.2.2.2.2 (zg_V km_1210 km_1211 km_1212 km_128 km_1213) rfl rfl rfl (by decide +kernel) ⟨Nat.le_of_ble_eq_true rfl, Nat.le_of_ble_eq_true rfl⟩) (zob_s ew12) kc_2 rfl (Nat.le_of_ble_eq_true rfl) ⟨Nat.le_of_ble_eq_true rfl, Nat.le_of_ble_eq_true rfl⟩ ?_
  refine z_aload_n X dd_Reader_takeItem_135 rfl 0 rfl ?_
  refine z_bipush (v := 18) X dd_Reader_takeItem_136 (by decide) ?_
  obtain ⟨w14, ew14, h⟩ := zb h
  obtain ⟨q13, eq13, h⟩ := zb h
  refine z_callVv X [.int 18] rfl dd_Reader_takeItem_138 (c_Reader_passOn l eq13) (cwV 1 X.1.2.2.2.2 (zg_V km_1068 km_1070 km_22 km_130 km_1071) rfl rfl rfl (by decide +kernel) ⟨Nat.le_of_ble_eq_true rfl, Nat.le_of_ble_eq_true rfl⟩) (zob_s ew14) kc_5 rfl (Nat.le_of_ble_eq_true rfl) ⟨Nat.le_of_ble_eq_true rfl, Nat.le_of_ble_eq_true rfl⟩ ?_
  refine z_aload_n X dd_Reader_takeItem_141 rfl 0 rfl ?_
  refine z_iload_n X dd_Reader_takeItem_142 rfl 1 rfl ?_
  obtain ⟨c15, ec15, h⟩ := zb h
  obtain ⟨bc15, ec15⟩ := zpz_s ec15
  refine z_put (j := 19) X dd_Reader_takeItem_143 kc_5 ki_5 tt_Reader tk_Reader nn_Reader (by decide) km_493 rfl (tk_Reader 19 (by decide)) (zn_z bc15) (zf_z bc15) ec15 ?_
  refine z_sub [] rfl ?_
  exact t_Reader_takeItem_146 X H h
set_option maxRecDepth 100000 in
set_option maxHeartbeats 4000000 in
theorem t_Reader_takeItem_63  (X : zX p s m args cd D cid B bb_Reader_takeItem 4 rr_Reader zT) (H : zH s meth B n0 none "takeItem") {nf : Nat} {x0 : Nat} {x1 : Int32} {x2 : Int32} {c : Zc} {res : Zc} (h : f_Reader_takeItem_63 nf x0 x1 x2 c = some res) : Zz p l e (zRm 2 43 0 0) s m args below meth cd (MQ below (zQv D cid B res n0 0) args s 0 0 (fun q => B ≤ q)) D cid B 4 0 0 c 63 [(0, .ref x0), (1, .int x1), (2, .int x2)] [] := by
  unfold f_Reader_takeItem_63 at h
  refine z_aload_n X dd_Reader_takeItem_63 rfl 0 rfl ?_
  obtain ⟨v4, ev4, h⟩ := zb h
  refine z_get (j := 4) X dd_Reader_takeItem_64 kc_5 ki_5 (by decide) km_478 (zgr_v ev4) ?_
  obtain ⟨v5, ev5, h⟩ := zb h
  refine z_get (j := 15) X dd_Reader_takeItem_67 kc_2 ki_2 (by decide) km_347 (zgi_v ev5) ?_
  refine z_bipush (v := 8) X dd_Reader_takeItem_70 (by decide) ?_
  refine z_icmp_lt (tgt := 83) X dd_Reader_takeItem_72 (by decide) (fun q6 => ?_) (fun q6 => ?_)
  · rw [if_pos q6] at h
    refine z_iload_n X dd_Reader_takeItem_83 rfl 1 rfl ?_
    refine z_bipush (v := 19) X dd_Reader_takeItem_84 (by decide) ?_
    refine z_icmp_ne (tgt := 114) X dd_Reader_takeItem_86 (by decide) (fun q7 => ?_) (fun q7 => ?_)
    · rw [if_neg q7] at h
      refine z_aload_n X dd_Reader_takeItem_114 rfl 0 rfl ?_
      refine z_iconst (v := 2) X dd_Reader_takeItem_115 (by decide) ?_
      obtain ⟨c8, ec8, h⟩ := zb h
      refine z_put (j := 18) X dd_Reader_takeItem_116 kc_5 ki_5 tt_Reader tk_Reader nn_Reader (by decide) km_492 rfl (tk_Reader 18 (by decide)) rfl rfl ec8 ?_
      refine z_aload_n X dd_Reader_takeItem_119 rfl 0 rfl ?_
      obtain ⟨v9, ev9, h⟩ := zb h
      refine z_get (j := 4) X dd_Reader_takeItem_120 kc_5 ki_5 (by decide) km_478 (zgr_v ev9) ?_
      refine z_iload_n X dd_Reader_takeItem_123 rfl 2 rfl ?_
      refine z_if_eq (tgt := 131) X dd_Reader_takeItem_124 (by decide) (fun q10 => ?_) (fun q10 => ?_)
      · rw [if_pos q10] at h
        refine z_iconst (v := 2) X dd_Reader_takeItem_131 (by decide) ?_
        refine z_sub [0, 2] rfl ?_
        exact t_Reader_takeItem_132 X H h
      · rw [if_neg q10] at h
        refine z_iload_n X dd_Reader_takeItem_127 rfl 1 rfl ?_
        refine z_goto (tgt := 132) X dd_Reader_takeItem_128 (by decide) ?_
        refine z_sub [0, 2] rfl ?_
        exact t_Reader_takeItem_132 X H h
    · rw [if_pos q7] at h
      refine z_aload_n X dd_Reader_takeItem_89 rfl 0 rfl ?_
      obtain ⟨v16, ev16, h⟩ := zb h
      refine z_get (j := 4) X dd_Reader_takeItem_90 kc_5 ki_5 (by decide) km_478 (zgr_v ev16) ?_
      refine z_bipush (v := 19) X dd_Reader_takeItem_93 (by decide) ?_
      obtain ⟨w18, ew18, h⟩ := zb h
      obtain ⟨q17, eq17, h⟩ := zb h
      refine z_callVv X [.int 19] rfl dd_Reader_takeItem_95 (c_Text_openItem l eq17) (cwV 1 X.1.2.2.2.2 (zg_V km_1210 km_1211 km_1212 km_128 km_1213) rfl rfl rfl (by decide +kernel) ⟨Nat.le_of_ble_eq_true rfl, Nat.le_of_ble_eq_true rfl⟩) (zob_s ew18) kc_2 rfl (Nat.le_of_ble_eq_true rfl) ⟨Nat.le_of_ble_eq_true rfl, Nat.le_of_ble_eq_true rfl⟩ ?_
      refine z_aload_n X dd_Reader_takeItem_98 rfl 0 rfl ?_
      obtain ⟨v19, ev19, h⟩ := zb h
      refine z_get (j := 4) X dd_Reader_takeItem_99 kc_5 ki_5 (by decide) km_478 (zgr_v ev19) ?_
      obtain ⟨w21, ew21, h⟩ := zb h
      obtain ⟨q20, eq20, h⟩ := zb h
      refine z_callVv X [] rfl dd_Reader_takeItem_102 (c_Text_endItem l eq20) (cwV 0 X.1.2.2.2.2 (zg_V km_1202 km_1203 km_1204 km_128 km_1205) rfl rfl rfl (by decide +kernel) ⟨Nat.le_of_ble_eq_true rfl, Nat.le_of_ble_eq_true rfl⟩) (zob_s ew21) kc_2 rfl (Nat.le_of_ble_eq_true rfl) ⟨Nat.le_of_ble_eq_true rfl, Nat.le_of_ble_eq_true rfl⟩ ?_
      refine z_aload_n X dd_Reader_takeItem_105 rfl 0 rfl ?_
      refine z_bipush (v := 23) X dd_Reader_takeItem_106 (by decide) ?_
      obtain ⟨c22, ec22, h⟩ := zb h
      refine z_put (j := 8) X dd_Reader_takeItem_108 kc_5 ki_5 tt_Reader tk_Reader nn_Reader (by decide) km_482 rfl (tk_Reader 8 (by decide)) rfl rfl ec22 ?_
      refine z_goto (tgt := 146) X dd_Reader_takeItem_111 (by decide) ?_
      refine z_sub [] rfl ?_
      exact t_Reader_takeItem_146 X H h
  · rw [if_neg q6] at h
    refine z_aload_n X dd_Reader_takeItem_75 rfl 0 rfl ?_
    refine z_iconst (v := 3) X dd_Reader_takeItem_76 (by decide) ?_
    obtain ⟨w24, ew24, h⟩ := zb h
    obtain ⟨q23, eq23, h⟩ := zb h
    refine z_callVv X [.int 3] rfl dd_Reader_takeItem_77 (c_Reader_fail l eq23) (cwV 1 X.1.2.2.2.2 (zg_V km_998 km_1000 km_11 km_130 km_1001) rfl rfl rfl (by decide +kernel) ⟨Nat.le_of_ble_eq_true rfl, Nat.le_of_ble_eq_true rfl⟩) (zob_s ew24) kc_5 rfl (Nat.le_of_ble_eq_true rfl) ⟨Nat.le_of_ble_eq_true rfl, Nat.le_of_ble_eq_true rfl⟩ ?_
    refine z_goto (tgt := 146) X dd_Reader_takeItem_80 (by decide) ?_
    refine z_sub [] rfl ?_
    exact t_Reader_takeItem_146 X H h
set_option maxRecDepth 100000 in
set_option maxHeartbeats 4000000 in
theorem t_Reader_takeItem_46  (X : zX p s m args cd D cid B bb_Reader_takeItem 4 rr_Reader zT) (H : zH s meth B n0 none "takeItem") {nf : Nat} {x0 : Nat} {x1 : Int32} {x2 : Int32} {s0 : Int32} {c : Zc} {res : Zc} (h : f_Reader_takeItem_46 nf x0 x1 x2 s0 c = some res) : Zz p l e (zRm 2 43 0 0) s m args below meth cd (MQ below (zQv D cid B res n0 0) args s 0 0 (fun q => B ≤ q)) D cid B 4 0 0 c 46 [(0, .ref x0), (1, .int x1), (2, .int x2)] [.int s0] := by
  unfold f_Reader_takeItem_46 at h
  refine z_istore_n (lv' := [(3, .int s0), (0, .ref x0), (1, .int x1), (2, .int x2)]) X dd_Reader_takeItem_46 rfl (by decide) rfl ?_
  refine z_iload_n X dd_Reader_takeItem_47 rfl 3 rfl ?_
  refine z_if_ne (tgt := 63) X dd_Reader_takeItem_48 (by decide) (fun q3 => ?_) (fun q3 => ?_)
  · rw [if_neg q3] at h
    refine z_sub [1, 2, 3] rfl ?_
    exact t_Reader_takeItem_63 X H h
  · rw [if_pos q3] at h
    refine z_iload_n X dd_Reader_takeItem_51 rfl 0 rfl ?_
    refine z_if_ne (tgt := 63) X dd_Reader_takeItem_52 (by decide) (fun q25 => ?_) (fun q25 => ?_)
    · rw [if_neg q25] at h
      refine z_sub [1, 2, 3] rfl ?_
      exact t_Reader_takeItem_63 X H h
    · rw [if_pos q25] at h
      refine z_aload_n X dd_Reader_takeItem_55 rfl 1 rfl ?_
      refine z_iconst (v := 2) X dd_Reader_takeItem_56 (by decide) ?_
      obtain ⟨w27, ew27, h⟩ := zb h
      obtain ⟨q26, eq26, h⟩ := zb h
      refine z_callVv X [.int 2] rfl dd_Reader_takeItem_57 (c_Reader_fail l eq26) (cwV 1 X.1.2.2.2.2 (zg_V km_998 km_1000 km_11 km_130 km_1001) rfl rfl rfl (by decide +kernel) ⟨Nat.le_of_ble_eq_true rfl, Nat.le_of_ble_eq_true rfl⟩) (zob_s ew27) kc_5 rfl (Nat.le_of_ble_eq_true rfl) ⟨Nat.le_of_ble_eq_true rfl, Nat.le_of_ble_eq_true rfl⟩ ?_
      refine z_goto (tgt := 146) X dd_Reader_takeItem_60 (by decide) ?_
      refine z_sub [] rfl ?_
      exact t_Reader_takeItem_146 X H h
set_option maxRecDepth 100000 in
set_option maxHeartbeats 4000000 in
theorem t_Reader_takeItem_41  (X : zX p s m args cd D cid B bb_Reader_takeItem 4 rr_Reader zT) (H : zH s meth B n0 none "takeItem") {nf : Nat} {x0 : Nat} {x1 : Int32} {x2 : Int32} {c : Zc} {res : Zc} (h : f_Reader_takeItem_41 nf x0 x1 x2 c = some res) : Zz p l e (zRm 2 43 0 0) s m args below meth cd (MQ below (zQv D cid B res n0 0) args s 0 0 (fun q => B ≤ q)) D cid B 4 0 0 c 41 [(0, .ref x0), (1, .int x1), (2, .int x2)] [] := by
  unfold f_Reader_takeItem_41 at h
  refine z_iconst (v := 1) X dd_Reader_takeItem_41 (by decide) ?_
  refine z_goto (tgt := 46) X dd_Reader_takeItem_42 (by decide) ?_
  exact t_Reader_takeItem_46 X H h
set_option maxRecDepth 100000 in
set_option maxHeartbeats 4000000 in
theorem t_Reader_takeItem_17  (X : zX p s m args cd D cid B bb_Reader_takeItem 4 rr_Reader zT) (H : zH s meth B n0 none "takeItem") {nf : Nat} {x0 : Nat} {x1 : Int32} {s0 : Int32} {c : Zc} {res : Zc} (h : f_Reader_takeItem_17 nf x0 x1 s0 c = some res) : Zz p l e (zRm 2 43 0 0) s m args below meth cd (MQ below (zQv D cid B res n0 0) args s 0 0 (fun q => B ≤ q)) D cid B 4 0 0 c 17 [(0, .ref x0), (1, .int x1)] [.int s0] := by
  unfold f_Reader_takeItem_17 at h
  refine z_istore_n (lv' := [(2, .int s0), (0, .ref x0), (1, .int x1)]) X dd_Reader_takeItem_17 rfl (by decide) rfl ?_
  refine z_iload_n X dd_Reader_takeItem_18 rfl 2 rfl ?_
  refine z_bipush (v := 45) X dd_Reader_takeItem_19 (by decide) ?_
  refine z_icmp_eq (tgt := 41) X dd_Reader_takeItem_21 (by decide) (fun q2 => ?_) (fun q2 => ?_)
  · rw [if_pos q2] at h
    refine z_sub [1, 2, 0] rfl ?_
    exact t_Reader_takeItem_41 X H h
  · rw [if_neg q2] at h
    refine z_iload_n X dd_Reader_takeItem_24 rfl 2 rfl ?_
    refine z_bipush (v := 40) X dd_Reader_takeItem_25 (by decide) ?_
    refine z_icmp_eq (tgt := 41) X dd_Reader_takeItem_27 (by decide) (fun q28 => ?_) (fun q28 => ?_)
    · rw [if_pos q28] at h
      refine z_sub [1, 2, 0] rfl ?_
      exact t_Reader_takeItem_41 X H h
    · rw [if_neg q28] at h
      refine z_iload_n X dd_Reader_takeItem_30 rfl 2 rfl ?_
      refine z_bipush (v := 6) X dd_Reader_takeItem_31 (by decide) ?_
      refine z_icmp_eq (tgt := 41) X dd_Reader_takeItem_33 (by decide) (fun q29 => ?_) (fun q29 => ?_)
      · rw [if_pos q29] at h
        refine z_sub [1, 2, 0] rfl ?_
        exact t_Reader_takeItem_41 X H h
      · rw [if_neg q29] at h
        refine z_iload_n X dd_Reader_takeItem_36 rfl 2 rfl ?_
        refine z_iconst (v := 2) X dd_Reader_takeItem_37 (by decide) ?_
        refine z_icmp_ne (tgt := 45) X dd_Reader_takeItem_38 (by decide) (fun q30 => ?_) (fun q30 => ?_)
        · rw [if_neg q30] at h
          refine z_iconst (v := 0) X dd_Reader_takeItem_45 (by decide) ?_
          refine z_sub [1, 2, 0] rfl ?_
          exact t_Reader_takeItem_46 X H h
        · rw [if_pos q30] at h
          refine z_sub [1, 2, 0] rfl ?_
          exact t_Reader_takeItem_41 X H h
set_option maxRecDepth 100000 in
set_option maxHeartbeats 4000000 in
theorem t_Reader_takeItem_16  (X : zX p s m args cd D cid B bb_Reader_takeItem 4 rr_Reader zT) (H : zH s meth B n0 none "takeItem") {nf : Nat} {x0 : Nat} {x1 : Int32} {c : Zc} {res : Zc} (h : f_Reader_takeItem_16 nf x0 x1 c = some res) : Zz p l e (zRm 2 43 0 0) s m args below meth cd (MQ below (zQv D cid B res n0 0) args s 0 0 (fun q => B ≤ q)) D cid B 4 0 0 c 16 [(0, .ref x0), (1, .int x1)] [] := by
  unfold f_Reader_takeItem_16 at h
  refine z_iconst (v := 0) X dd_Reader_takeItem_16 (by decide) ?_
  exact t_Reader_takeItem_17 X H h
set_option maxRecDepth 100000 in
set_option maxHeartbeats 4000000 in
theorem c_Reader_takeItem (l : Launch) {nf : Nat} {a0 : Nat} {a1 : Int32} {c : Zc} {res : Zc} (h : f_Reader_takeItem nf a0 a1 c = some res) : zM l yy_Reader_takeItem ww_Reader_takeItem 2 43 0 0 [.ref a0, .int a1] c (fun D cid B => zQv D cid B res c.length 0) := by
  refine z_met (cc := bb_Reader_takeItem) (maxL := 4) (ret := none) (by decide +kernel) rfl (Nat.le_of_ble_eq_true rfl) ?_
  intro p e s m args below meth cd D cid B X h1 h2 h3 h4
  have X : zX p s m args cd D cid B bb_Reader_takeItem 4 rr_Reader zT := X
  have H : zH s meth B c.length none "takeItem" := ⟨h1, h2, h4, h3⟩
  unfold f_Reader_takeItem at h
  show Zz p l e (zRm 2 43 0 0) s m args below meth cd _ D cid B 4 0 0 c 0 [(0, .ref a0), (1, .int a1)] []
  refine z_iload_n X dd_Reader_takeItem_0 rfl 1 rfl ?_
  refine z_bipush (v := 19) X dd_Reader_takeItem_1 (by decide) ?_
  refine z_icmp_lt (tgt := 16) X dd_Reader_takeItem_3 (by decide) (fun q1 => ?_) (fun q1 => ?_)
  · rw [if_pos q1] at h
    exact t_Reader_takeItem_16 X H h
  · rw [if_neg q1] at h
    refine z_iload_n X dd_Reader_takeItem_6 rfl 1 rfl ?_
    refine z_bipush (v := 22) X dd_Reader_takeItem_7 (by decide) ?_
    refine z_icmp_gt (tgt := 16) X dd_Reader_takeItem_9 (by decide) (fun q31 => ?_) (fun q31 => ?_)
    · rw [if_pos q31] at h
      exact t_Reader_takeItem_16 X H h
    · rw [if_neg q31] at h
      refine z_iconst (v := 1) X dd_Reader_takeItem_12 (by decide) ?_
      refine z_goto (tgt := 17) X dd_Reader_takeItem_13 (by decide) ?_
      exact t_Reader_takeItem_17 X H h
theorem dd_Reader_takeLimit_0 : decode bb_Reader_takeLimit 0 = .ok (.iload_n 1, 1) := by decide +kernel
theorem dd_Reader_takeLimit_1 : decode bb_Reader_takeLimit 1 = .ok (.ifCond .ne 9, 3) := by decide +kernel
theorem dd_Reader_takeLimit_4 : decode bb_Reader_takeLimit 4 = .ok (.aload_n 0, 1) := by decide +kernel
theorem dd_Reader_takeLimit_5 : decode bb_Reader_takeLimit 5 = .ok (.bipush 6, 2) := by decide +kernel
theorem dd_Reader_takeLimit_7 : decode bb_Reader_takeLimit 7 = .ok (.invokevirtual 133, 3) := by decide +kernel
theorem dd_Reader_takeLimit_10 : decode bb_Reader_takeLimit 10 = .ok (.aload_n 0, 1) := by decide +kernel
theorem dd_Reader_takeLimit_11 : decode bb_Reader_takeLimit 11 = .ok (.getfield 69, 3) := by decide +kernel
theorem dd_Reader_takeLimit_14 : decode bb_Reader_takeLimit 14 = .ok (.iload_n 1, 1) := by decide +kernel
theorem dd_Reader_takeLimit_15 : decode bb_Reader_takeLimit 15 = .ok (.putfield 348, 3) := by decide +kernel
theorem dd_Reader_takeLimit_18 : decode bb_Reader_takeLimit 18 = .ok (.aload_n 0, 1) := by decide +kernel
theorem dd_Reader_takeLimit_19 : decode bb_Reader_takeLimit 19 = .ok (.bipush 28, 2) := by decide +kernel
theorem dd_Reader_takeLimit_21 : decode bb_Reader_takeLimit 21 = .ok (.putfield 33, 3) := by decide +kernel
theorem dd_Reader_takeLimit_24 : decode bb_Reader_takeLimit 24 = .ok (.return_, 1) := by decide +kernel
set_option maxRecDepth 100000 in
set_option maxHeartbeats 4000000 in
theorem t_Reader_takeLimit_10  (X : zX p s m args cd D cid B bb_Reader_takeLimit 2 rr_Reader zT) (H : zH s meth B n0 none "takeLimit") {nf : Nat} {x0 : Nat} {x1 : Int32} {c : Zc} {res : Zc} (h : f_Reader_takeLimit_10 nf x0 x1 c = some res) : Zz p l e (zRm 2 43 0 0) s m args below meth cd (MQ below (zQv D cid B res n0 0) args s 0 0 (fun q => B ≤ q)) D cid B 2 0 0 c 10 [(0, .ref x0), (1, .int x1)] [] := by
  unfold f_Reader_takeLimit_10 at h
  refine z_aload_n X dd_Reader_takeLimit_10 rfl 0 rfl ?_
  obtain ⟨v2, ev2, h⟩ := zb h
  refine z_get (j := 4) X dd_Reader_takeLimit_11 kc_5 ki_5 (by decide) km_478 (zgr_v ev2) ?_
  refine z_iload_n X dd_Reader_takeLimit_14 rfl 1 rfl ?_
  obtain ⟨c3, ec3, h⟩ := zb h
  refine z_put (j := 18) X dd_Reader_takeLimit_15 kc_2 ki_2 tt_Text tk_Text nn_Text (by decide) km_354 rfl (tk_Text 18 (by decide)) rfl rfl ec3 ?_
  refine z_aload_n X dd_Reader_takeLimit_18 rfl 0 rfl ?_
  refine z_bipush (v := 28) X dd_Reader_takeLimit_19 (by decide) ?_
  obtain ⟨c4, ec4, h⟩ := zb h
  refine z_put (j := 8) X dd_Reader_takeLimit_21 kc_5 ki_5 tt_Reader tk_Reader nn_Reader (by decide) km_482 rfl (tk_Reader 8 (by decide)) rfl rfl ec4 ?_
  obtain rfl := Option.some.inj h
  exact z_vret X H.1 H.2.1 H.2.2.1 dd_Reader_takeLimit_24
set_option maxRecDepth 100000 in
set_option maxHeartbeats 4000000 in
theorem c_Reader_takeLimit (l : Launch) {nf : Nat} {a0 : Nat} {a1 : Int32} {c : Zc} {res : Zc} (h : f_Reader_takeLimit nf a0 a1 c = some res) : zM l yy_Reader_takeLimit ww_Reader_takeLimit 2 43 0 0 [.ref a0, .int a1] c (fun D cid B => zQv D cid B res c.length 0) := by
  refine z_met (cc := bb_Reader_takeLimit) (maxL := 2) (ret := none) (by decide +kernel) rfl (Nat.le_of_ble_eq_true rfl) ?_
  intro p e s m args below meth cd D cid B X h1 h2 h3 h4
  have X : zX p s m args cd D cid B bb_Reader_takeLimit 2 rr_Reader zT := X
  have H : zH s meth B c.length none "takeLimit" := ⟨h1, h2, h4, h3⟩
  unfold f_Reader_takeLimit at h
  show Zz p l e (zRm 2 43 0 0) s m args below meth cd _ D cid B 2 0 0 c 0 [(0, .ref a0), (1, .int a1)] []
  refine z_iload_n X dd_Reader_takeLimit_0 rfl 1 rfl ?_
  refine z_if_ne (tgt := 10) X dd_Reader_takeLimit_1 (by decide) (fun q1 => ?_) (fun q1 => ?_)
  · rw [if_neg q1] at h
    exact t_Reader_takeLimit_10 X H h
  · rw [if_pos q1] at h
    refine z_aload_n X dd_Reader_takeLimit_4 rfl 0 rfl ?_
    refine z_bipush (v := 6) X dd_Reader_takeLimit_5 (by decide) ?_
    obtain ⟨w6, ew6, h⟩ := zb h
    obtain ⟨q5, eq5, h⟩ := zb h
    refine z_callVv X [.int 6] rfl dd_Reader_takeLimit_7 (c_Reader_fail l eq5) (cwV 1 X.1.2.2.2.2 (zg_V km_998 km_1000 km_11 km_130 km_1001) rfl rfl rfl (by decide +kernel) ⟨Nat.le_of_ble_eq_true rfl, Nat.le_of_ble_eq_true rfl⟩) (zob_s ew6) kc_5 rfl (Nat.le_of_ble_eq_true rfl) ⟨Nat.le_of_ble_eq_true rfl, Nat.le_of_ble_eq_true rfl⟩ ?_
    exact t_Reader_takeLimit_10 X H h
theorem dd_Reader_givenSlot_0 : decode bb_Reader_givenSlot 0 = .ok (.aload_n 0, 1) := by decide +kernel
theorem dd_Reader_givenSlot_1 : decode bb_Reader_givenSlot 1 = .ok (.iload_n 1, 1) := by decide +kernel
theorem dd_Reader_givenSlot_2 : decode bb_Reader_givenSlot 2 = .ok (.invokevirtual 304, 3) := by decide +kernel
theorem dd_Reader_givenSlot_5 : decode bb_Reader_givenSlot 5 = .ok (.aload_n 0, 1) := by decide +kernel
theorem dd_Reader_givenSlot_6 : decode bb_Reader_givenSlot 6 = .ok (.getfield 36, 3) := by decide +kernel
theorem dd_Reader_givenSlot_9 : decode bb_Reader_givenSlot 9 = .ok (.ifCond .ne 22, 3) := by decide +kernel
theorem dd_Reader_givenSlot_12 : decode bb_Reader_givenSlot 12 = .ok (.aload_n 0, 1) := by decide +kernel
theorem dd_Reader_givenSlot_13 : decode bb_Reader_givenSlot 13 = .ok (.getfield 45, 3) := by decide +kernel
theorem dd_Reader_givenSlot_16 : decode bb_Reader_givenSlot 16 = .ok (.aload_n 0, 1) := by decide +kernel
theorem dd_Reader_givenSlot_17 : decode bb_Reader_givenSlot 17 = .ok (.getfield 57, 3) := by decide +kernel
theorem dd_Reader_givenSlot_20 : decode bb_Reader_givenSlot 20 = .ok (.ishr, 1) := by decide +kernel
theorem dd_Reader_givenSlot_21 : decode bb_Reader_givenSlot 21 = .ok (.iconst 1, 1) := by decide +kernel
theorem dd_Reader_givenSlot_22 : decode bb_Reader_givenSlot 22 = .ok (.iand, 1) := by decide +kernel
theorem dd_Reader_givenSlot_23 : decode bb_Reader_givenSlot 23 = .ok (.ifCond .eq 8, 3) := by decide +kernel
theorem dd_Reader_givenSlot_26 : decode bb_Reader_givenSlot 26 = .ok (.aload_n 0, 1) := by decide +kernel
theorem dd_Reader_givenSlot_27 : decode bb_Reader_givenSlot 27 = .ok (.iconst 5, 1) := by decide +kernel
theorem dd_Reader_givenSlot_28 : decode bb_Reader_givenSlot 28 = .ok (.invokevirtual 133, 3) := by decide +kernel
theorem dd_Reader_givenSlot_31 : decode bb_Reader_givenSlot 31 = .ok (.aload_n 0, 1) := by decide +kernel
theorem dd_Reader_givenSlot_32 : decode bb_Reader_givenSlot 32 = .ok (.getfield 36, 3) := by decide +kernel
theorem dd_Reader_givenSlot_35 : decode bb_Reader_givenSlot 35 = .ok (.ifCond .ne 10, 3) := by decide +kernel
theorem dd_Reader_givenSlot_38 : decode bb_Reader_givenSlot 38 = .ok (.aload_n 0, 1) := by decide +kernel
theorem dd_Reader_givenSlot_39 : decode bb_Reader_givenSlot 39 = .ok (.getfield 57, 3) := by decide +kernel
theorem dd_Reader_givenSlot_42 : decode bb_Reader_givenSlot 42 = .ok (.goto 4, 3) := by decide +kernel
theorem dd_Reader_givenSlot_45 : decode bb_Reader_givenSlot 45 = .ok (.iconst 0, 1) := by decide +kernel
theorem dd_Reader_givenSlot_46 : decode bb_Reader_givenSlot 46 = .ok (.ireturn, 1) := by decide +kernel
set_option maxRecDepth 100000 in
set_option maxHeartbeats 4000000 in
theorem t_Reader_givenSlot_46  (X : zX p s m args cd D cid B bb_Reader_givenSlot 2 rr_Reader zT) (H : zH s meth B n0 (some (.int)) "givenSlot") {nf : Nat} {s0 : Int32} {c : Zc} {res : Int32 × Zc} (h : f_Reader_givenSlot_46 nf s0 c = some res) : Zz p l e (zRm 3 64 0 0) s m args below meth cd (MQ below (zQi D cid B res.1 res.2 n0 0) args s 0 0 (fun q => B ≤ q)) D cid B 2 0 0 c 46 [] [.int s0] := by
  unfold f_Reader_givenSlot_46 at h
  obtain rfl := Option.some.inj h
  exact z_iret X H.1 H.2.1 H.2.2.1 dd_Reader_givenSlot_46
set_option maxRecDepth 100000 in
set_option maxHeartbeats 4000000 in
theorem t_Reader_givenSlot_31  (X : zX p s m args cd D cid B bb_Reader_givenSlot 2 rr_Reader zT) (H : zH s meth B n0 (some (.int)) "givenSlot") {nf : Nat} {x0 : Nat} {c : Zc} {res : Int32 × Zc} (h : f_Reader_givenSlot_31 nf x0 c = some res) : Zz p l e (zRm 3 64 0 0) s m args below meth cd (MQ below (zQi D cid B res.1 res.2 n0 0) args s 0 0 (fun q => B ≤ q)) D cid B 2 0 0 c 31 [(0, .ref x0)] [] := by
  unfold f_Reader_givenSlot_31 at h
  refine z_aload_n X dd_Reader_givenSlot_31 rfl 0 rfl ?_
  obtain ⟨v5, ev5, h⟩ := zb h
  refine z_get (j := 9) X dd_Reader_givenSlot_32 kc_5 ki_5 (by decide) km_483 (zgi_v ev5) ?_
  refine z_if_ne (tgt := 45) X dd_Reader_givenSlot_35 (by decide) (fun q6 => ?_) (fun q6 => ?_)
  · rw [if_neg q6] at h
    refine z_iconst (v := 0) X dd_Reader_givenSlot_45 (by decide) ?_
    refine z_sub [] rfl ?_
    exact t_Reader_givenSlot_46 X H h
  · rw [if_pos q6] at h
    refine z_aload_n X dd_Reader_givenSlot_38 rfl 0 rfl ?_
    obtain ⟨v7, ev7, h⟩ := zb h
    refine z_get (j := 16) X dd_Reader_givenSlot_39 kc_5 ki_5 (by decide) km_490 (zgi_v ev7) ?_
    refine z_goto (tgt := 46) X dd_Reader_givenSlot_42 (by decide) ?_
    refine z_sub [] rfl ?_
    exact t_Reader_givenSlot_46 X H h
set_option maxRecDepth 100000 in
set_option maxHeartbeats 4000000 in
theorem c_Reader_givenSlot (l : Launch) {nf : Nat} {a0 : Nat} {a1 : Int32} {c : Zc} {res : Int32 × Zc} (h : f_Reader_givenSlot nf a0 a1 c = some res) : zM l yy_Reader_givenSlot ww_Reader_givenSlot 3 64 0 0 [.ref a0, .int a1] c (fun D cid B => zQi D cid B res.1 res.2 c.length 0) := by
  refine z_met (cc := bb_Reader_givenSlot) (maxL := 2) (ret := (some (.int))) (by decide +kernel) rfl (Nat.le_of_ble_eq_true rfl) ?_
  intro p e s m args below meth cd D cid B X h1 h2 h3 h4
  have X : zX p s m args cd D cid B bb_Reader_givenSlot 2 rr_Reader zT := X
  have H : zH s meth B c.length (some (.int)) "givenSlot" := ⟨h1, h2, h4, h3⟩
  unfold f_Reader_givenSlot at h
  show Zz p l e (zRm 3 64 0 0) s m args below meth cd _ D cid B 2 0 0 c 0 [(0, .ref a0), (1, .int a1)] []
  refine z_aload_n X dd_Reader_givenSlot_0 rfl 0 rfl ?_
  refine z_iload_n X dd_Reader_givenSlot_1 rfl 1 rfl ?_
  obtain ⟨w2, ew2, h⟩ := zb h
  obtain ⟨q1, eq1, h⟩ := zb h
  refine z_callVv X [.int a1] rfl dd_Reader_givenSlot_2 (c_Reader_findVariable l eq1) (cwV 1 X.1.2.2.2.2 (zg_V km_1174 km_1176 km_35 km_130 km_1177) rfl rfl rfl (by decide +kernel) ⟨Nat.le_of_ble_eq_true rfl, Nat.le_of_ble_eq_true rfl⟩) (zob_s ew2) kc_5 rfl (Nat.le_of_ble_eq_true rfl) ⟨Nat.le_of_ble_eq_true rfl, Nat.le_of_ble_eq_true rfl⟩ ?_
  refine z_aload_n X dd_Reader_givenSlot_5 rfl 0 rfl ?_
  obtain ⟨v3, ev3, h⟩ := zb h
  refine z_get (j := 9) X dd_Reader_givenSlot_6 kc_5 ki_5 (by decide) km_483 (zgi_v ev3) ?_
  refine z_if_ne (tgt := 31) X dd_Reader_givenSlot_9 (by decide) (fun q4 => ?_) (fun q4 => ?_)
  · rw [if_neg q4] at h
    refine z_sub [0] rfl ?_
    exact t_Reader_givenSlot_31 X H h
  · rw [if_pos q4] at h
    refine z_aload_n X dd_Reader_givenSlot_12 rfl 0 rfl ?_
    obtain ⟨v8, ev8, h⟩ := zb h
    refine z_get (j := 12) X dd_Reader_givenSlot_13 kc_5 ki_5 (by decide) km_486 (zgi_v ev8) ?_
    refine z_aload_n X dd_Reader_givenSlot_16 rfl 0 rfl ?_
    obtain ⟨v9, ev9, h⟩ := zb h
    refine z_get (j := 16) X dd_Reader_givenSlot_17 kc_5 ki_5 (by decide) km_490 (zgi_v ev9) ?_
    refine z_ishr X dd_Reader_givenSlot_20 ?_
    refine z_iconst (v := 1) X dd_Reader_givenSlot_21 (by decide) ?_
    refine z_iand X dd_Reader_givenSlot_22 ?_
    refine z_if_eq (tgt := 31) X dd_Reader_givenSlot_23 (by decide) (fun q10 => ?_) (fun q10 => ?_)
    · rw [if_pos q10] at h
      refine z_sub [0] rfl ?_
      exact t_Reader_givenSlot_31 X H h
    · rw [if_neg q10] at h
      refine z_aload_n X dd_Reader_givenSlot_26 rfl 0 rfl ?_
      refine z_iconst (v := 5) X dd_Reader_givenSlot_27 (by decide) ?_
      obtain ⟨w12, ew12, h⟩ := zb h
      obtain ⟨q11, eq11, h⟩ := zb h
      refine z_callVv X [.int 5] rfl dd_Reader_givenSlot_28 (c_Reader_fail l eq11) (cwV 1 X.1.2.2.2.2 (zg_V km_998 km_1000 km_11 km_130 km_1001) rfl rfl rfl (by decide +kernel) ⟨Nat.le_of_ble_eq_true rfl, Nat.le_of_ble_eq_true rfl⟩) (zob_s ew12) kc_5 rfl (Nat.le_of_ble_eq_true rfl) ⟨Nat.le_of_ble_eq_true rfl, Nat.le_of_ble_eq_true rfl⟩ ?_
      refine z_sub [0] rfl ?_
      exact t_Reader_givenSlot_31 X H h
theorem dd_Reader_takeTail_0 : decode bb_Reader_takeTail 0 = .ok (.aload_n 0, 1) := by decide +kernel
theorem dd_Reader_takeTail_1 : decode bb_Reader_takeTail 1 = .ok (.getfield 33, 3) := by decide +kernel
theorem dd_Reader_takeTail_4 : decode bb_Reader_takeTail 4 = .ok (.bipush 23, 2) := by decide +kernel
theorem dd_Reader_takeTail_6 : decode bb_Reader_takeTail 6 = .ok (.if_icmp .ne 18, 3) := by decide +kernel
theorem dd_Reader_takeTail_9 : decode bb_Reader_takeTail 9 = .ok (.iload_n 1, 1) := by decide +kernel
theorem dd_Reader_takeTail_10 : decode bb_Reader_takeTail 10 = .ok (.bipush 44, 2) := by decide +kernel
theorem dd_Reader_takeTail_12 : decode bb_Reader_takeTail 12 = .ok (.if_icmp .ne 12, 3) := by decide +kernel
theorem dd_Reader_takeTail_15 : decode bb_Reader_takeTail 15 = .ok (.aload_n 0, 1) := by decide +kernel
theorem dd_Reader_takeTail_16 : decode bb_Reader_takeTail 16 = .ok (.bipush 22, 2) := by decide +kernel
theorem dd_Reader_takeTail_18 : decode bb_Reader_takeTail 18 = .ok (.putfield 33, 3) := by decide +kernel
theorem dd_Reader_takeTail_21 : decode bb_Reader_takeTail 21 = .ok (.goto 205, 3) := by decide +kernel
theorem dd_Reader_takeTail_24 : decode bb_Reader_takeTail 24 = .ok (.aload_n 0, 1) := by decide +kernel
theorem dd_Reader_takeTail_25 : decode bb_Reader_takeTail 25 = .ok (.getfield 33, 3) := by decide +kernel
theorem dd_Reader_takeTail_28 : decode bb_Reader_takeTail 28 = .ok (.bipush 23, 2) := by decide +kernel
theorem dd_Reader_takeTail_30 : decode bb_Reader_takeTail 30 = .ok (.if_icmp .ne 18, 3) := by decide +kernel
theorem dd_Reader_takeTail_33 : decode bb_Reader_takeTail 33 = .ok (.iload_n 1, 1) := by decide +kernel
theorem dd_Reader_takeTail_34 : decode bb_Reader_takeTail 34 = .ok (.bipush 13, 2) := by decide +kernel
theorem dd_Reader_takeTail_36 : decode bb_Reader_takeTail 36 = .ok (.if_icmp .ne 12, 3) := by decide +kernel
theorem dd_Reader_takeTail_39 : decode bb_Reader_takeTail 39 = .ok (.aload_n 0, 1) := by decide +kernel
theorem dd_Reader_takeTail_40 : decode bb_Reader_takeTail 40 = .ok (.bipush 24, 2) := by decide +kernel
theorem dd_Reader_takeTail_42 : decode bb_Reader_takeTail 42 = .ok (.putfield 33, 3) := by decide +kernel
theorem dd_Reader_takeTail_45 : decode bb_Reader_takeTail 45 = .ok (.goto 181, 3) := by decide +kernel
theorem dd_Reader_takeTail_48 : decode bb_Reader_takeTail 48 = .ok (.aload_n 0, 1) := by decide +kernel
theorem dd_Reader_takeTail_49 : decode bb_Reader_takeTail 49 = .ok (.getfield 33, 3) := by decide +kernel
theorem dd_Reader_takeTail_52 : decode bb_Reader_takeTail 52 = .ok (.bipush 24, 2) := by decide +kernel
theorem dd_Reader_takeTail_54 : decode bb_Reader_takeTail 54 = .ok (.if_icmp .ne 28, 3) := by decide +kernel
theorem dd_Reader_takeTail_57 : decode bb_Reader_takeTail 57 = .ok (.iload_n 1, 1) := by decide +kernel
theorem dd_Reader_takeTail_58 : decode bb_Reader_takeTail 58 = .ok (.bipush 6, 2) := by decide +kernel
theorem dd_Reader_takeTail_60 : decode bb_Reader_takeTail 60 = .ok (.if_icmp .ne 22, 3) := by decide +kernel
theorem dd_Reader_takeTail_63 : decode bb_Reader_takeTail 63 = .ok (.aload_n 0, 1) := by decide +kernel
theorem dd_Reader_takeTail_64 : decode bb_Reader_takeTail 64 = .ok (.aload_n 0, 1) := by decide +kernel
theorem dd_Reader_takeTail_65 : decode bb_Reader_takeTail 65 = .ok (.getfield 18, 3) := by decide +kernel
theorem dd_Reader_takeTail_68 : decode bb_Reader_takeTail 68 = .ok (.getfield 178, 3) := by decide +kernel
theorem dd_Reader_takeTail_71 : decode bb_Reader_takeTail 71 = .ok (.aload_n 0, 1) := by decide +kernel
theorem dd_Reader_takeTail_72 : decode bb_Reader_takeTail 72 = .ok (.getfield 30, 3) := by decide +kernel
theorem dd_Reader_takeTail_75 : decode bb_Reader_takeTail 75 = .ok (.iaload, 1) := by decide +kernel
theorem dd_Reader_takeTail_76 : decode bb_Reader_takeTail 76 = .ok (.invokevirtual 336, 3) := by decide +kernel
theorem dd_Reader_takeTail_79 : decode bb_Reader_takeTail 79 = .ok (.goto 147, 3) := by decide +kernel
theorem dd_Reader_takeTail_82 : decode bb_Reader_takeTail 82 = .ok (.aload_n 0, 1) := by decide +kernel
theorem dd_Reader_takeTail_83 : decode bb_Reader_takeTail 83 = .ok (.getfield 33, 3) := by decide +kernel
theorem dd_Reader_takeTail_86 : decode bb_Reader_takeTail 86 = .ok (.bipush 25, 2) := by decide +kernel
theorem dd_Reader_takeTail_88 : decode bb_Reader_takeTail 88 = .ok (.if_icmp .ne 40, 3) := by decide +kernel
theorem dd_Reader_takeTail_91 : decode bb_Reader_takeTail 91 = .ok (.iload_n 1, 1) := by decide +kernel
theorem dd_Reader_takeTail_92 : decode bb_Reader_takeTail 92 = .ok (.iconst 2, 1) := by decide +kernel
theorem dd_Reader_takeTail_93 : decode bb_Reader_takeTail 93 = .ok (.if_icmp .ne 35, 3) := by decide +kernel
theorem dd_Reader_takeTail_96 : decode bb_Reader_takeTail 96 = .ok (.aload_n 0, 1) := by decide +kernel
theorem dd_Reader_takeTail_97 : decode bb_Reader_takeTail 97 = .ok (.getfield 69, 3) := by decide +kernel
theorem dd_Reader_takeTail_100 : decode bb_Reader_takeTail 100 = .ok (.aload_n 0, 1) := by decide +kernel
theorem dd_Reader_takeTail_101 : decode bb_Reader_takeTail 101 = .ok (.aload_n 0, 1) := by decide +kernel
theorem dd_Reader_takeTail_102 : decode bb_Reader_takeTail 102 = .ok (.getfield 18, 3) := by decide +kernel
theorem dd_Reader_takeTail_105 : decode bb_Reader_takeTail 105 = .ok (.getfield 178, 3) := by decide +kernel
theorem dd_Reader_takeTail_108 : decode bb_Reader_takeTail 108 = .ok (.aload_n 0, 1) := by decide +kernel
theorem dd_Reader_takeTail_109 : decode bb_Reader_takeTail 109 = .ok (.getfield 30, 3) := by decide +kernel
theorem dd_Reader_takeTail_112 : decode bb_Reader_takeTail 112 = .ok (.iaload, 1) := by decide +kernel
theorem dd_Reader_takeTail_113 : decode bb_Reader_takeTail 113 = .ok (.invokevirtual 339, 3) := by decide +kernel
theorem dd_Reader_takeTail_116 : decode bb_Reader_takeTail 116 = .ok (.putfield 342, 3) := by decide +kernel
theorem dd_Reader_takeTail_119 : decode bb_Reader_takeTail 119 = .ok (.aload_n 0, 1) := by decide +kernel
theorem dd_Reader_takeTail_120 : decode bb_Reader_takeTail 120 = .ok (.bipush 26, 2) := by decide +kernel
theorem dd_Reader_takeTail_122 : decode bb_Reader_takeTail 122 = .ok (.putfield 33, 3) := by decide +kernel
theorem dd_Reader_takeTail_125 : decode bb_Reader_takeTail 125 = .ok (.goto 101, 3) := by decide +kernel
theorem dd_Reader_takeTail_128 : decode bb_Reader_takeTail 128 = .ok (.aload_n 0, 1) := by decide +kernel
theorem dd_Reader_takeTail_129 : decode bb_Reader_takeTail 129 = .ok (.getfield 33, 3) := by decide +kernel
theorem dd_Reader_takeTail_132 : decode bb_Reader_takeTail 132 = .ok (.bipush 26, 2) := by decide +kernel
theorem dd_Reader_takeTail_134 : decode bb_Reader_takeTail 134 = .ok (.if_icmp .ne 18, 3) := by decide +kernel
theorem dd_Reader_takeTail_137 : decode bb_Reader_takeTail 137 = .ok (.iload_n 1, 1) := by decide +kernel
theorem dd_Reader_takeTail_138 : decode bb_Reader_takeTail 138 = .ok (.bipush 44, 2) := by decide +kernel
theorem dd_Reader_takeTail_140 : decode bb_Reader_takeTail 140 = .ok (.if_icmp .ne 12, 3) := by decide +kernel
theorem dd_Reader_takeTail_143 : decode bb_Reader_takeTail 143 = .ok (.aload_n 0, 1) := by decide +kernel
theorem dd_Reader_takeTail_144 : decode bb_Reader_takeTail 144 = .ok (.bipush 27, 2) := by decide +kernel
theorem dd_Reader_takeTail_146 : decode bb_Reader_takeTail 146 = .ok (.putfield 33, 3) := by decide +kernel
theorem dd_Reader_takeTail_149 : decode bb_Reader_takeTail 149 = .ok (.goto 77, 3) := by decide +kernel
theorem dd_Reader_takeTail_152 : decode bb_Reader_takeTail 152 = .ok (.aload_n 0, 1) := by decide +kernel
theorem dd_Reader_takeTail_153 : decode bb_Reader_takeTail 153 = .ok (.getfield 33, 3) := by decide +kernel
theorem dd_Reader_takeTail_156 : decode bb_Reader_takeTail 156 = .ok (.bipush 27, 2) := by decide +kernel
theorem dd_Reader_takeTail_158 : decode bb_Reader_takeTail 158 = .ok (.if_icmp .ne 40, 3) := by decide +kernel
theorem dd_Reader_takeTail_161 : decode bb_Reader_takeTail 161 = .ok (.iload_n 1, 1) := by decide +kernel
theorem dd_Reader_takeTail_162 : decode bb_Reader_takeTail 162 = .ok (.iconst 2, 1) := by decide +kernel
theorem dd_Reader_takeTail_163 : decode bb_Reader_takeTail 163 = .ok (.if_icmp .ne 35, 3) := by decide +kernel
theorem dd_Reader_takeTail_166 : decode bb_Reader_takeTail 166 = .ok (.aload_n 0, 1) := by decide +kernel
theorem dd_Reader_takeTail_167 : decode bb_Reader_takeTail 167 = .ok (.getfield 69, 3) := by decide +kernel
theorem dd_Reader_takeTail_170 : decode bb_Reader_takeTail 170 = .ok (.aload_n 0, 1) := by decide +kernel
theorem dd_Reader_takeTail_171 : decode bb_Reader_takeTail 171 = .ok (.aload_n 0, 1) := by decide +kernel
theorem dd_Reader_takeTail_172 : decode bb_Reader_takeTail 172 = .ok (.getfield 18, 3) := by decide +kernel
theorem dd_Reader_takeTail_175 : decode bb_Reader_takeTail 175 = .ok (.getfield 178, 3) := by decide +kernel
theorem dd_Reader_takeTail_178 : decode bb_Reader_takeTail 178 = .ok (.aload_n 0, 1) := by decide +kernel
theorem dd_Reader_takeTail_179 : decode bb_Reader_takeTail 179 = .ok (.getfield 30, 3) := by decide +kernel
theorem dd_Reader_takeTail_182 : decode bb_Reader_takeTail 182 = .ok (.iaload, 1) := by decide +kernel
theorem dd_Reader_takeTail_183 : decode bb_Reader_takeTail 183 = .ok (.invokevirtual 339, 3) := by decide +kernel
theorem dd_Reader_takeTail_186 : decode bb_Reader_takeTail 186 = .ok (.putfield 345, 3) := by decide +kernel
theorem dd_Reader_takeTail_189 : decode bb_Reader_takeTail 189 = .ok (.aload_n 0, 1) := by decide +kernel
theorem dd_Reader_takeTail_190 : decode bb_Reader_takeTail 190 = .ok (.bipush 28, 2) := by decide +kernel
theorem dd_Reader_takeTail_192 : decode bb_Reader_takeTail 192 = .ok (.putfield 33, 3) := by decide +kernel
theorem dd_Reader_takeTail_195 : decode bb_Reader_takeTail 195 = .ok (.goto 31, 3) := by decide +kernel
theorem dd_Reader_takeTail_198 : decode bb_Reader_takeTail 198 = .ok (.iload_n 1, 1) := by decide +kernel
theorem dd_Reader_takeTail_199 : decode bb_Reader_takeTail 199 = .ok (.iconst 1, 1) := by decide +kernel
theorem dd_Reader_takeTail_200 : decode bb_Reader_takeTail 200 = .ok (.if_icmp .ne 21, 3) := by decide +kernel
theorem dd_Reader_takeTail_203 : decode bb_Reader_takeTail 203 = .ok (.aload_n 0, 1) := by decide +kernel
theorem dd_Reader_takeTail_204 : decode bb_Reader_takeTail 204 = .ok (.getfield 33, 3) := by decide +kernel
theorem dd_Reader_takeTail_207 : decode bb_Reader_takeTail 207 = .ok (.bipush 23, 2) := by decide +kernel
theorem dd_Reader_takeTail_209 : decode bb_Reader_takeTail 209 = .ok (.if_icmp .eq 17, 3) := by decide +kernel
theorem dd_Reader_takeTail_212 : decode bb_Reader_takeTail 212 = .ok (.aload_n 0, 1) := by decide +kernel
theorem dd_Reader_takeTail_213 : decode bb_Reader_takeTail 213 = .ok (.getfield 33, 3) := by decide +kernel
theorem dd_Reader_takeTail_216 : decode bb_Reader_takeTail 216 = .ok (.bipush 28, 2) := by decide +kernel
theorem dd_Reader_takeTail_218 : decode bb_Reader_takeTail 218 = .ok (.if_icmp .eq 8, 3) := by decide +kernel
theorem dd_Reader_takeTail_221 : decode bb_Reader_takeTail 221 = .ok (.aload_n 0, 1) := by decide +kernel
theorem dd_Reader_takeTail_222 : decode bb_Reader_takeTail 222 = .ok (.iconst 2, 1) := by decide +kernel
theorem dd_Reader_takeTail_223 : decode bb_Reader_takeTail 223 = .ok (.invokevirtual 133, 3) := by decide +kernel
theorem dd_Reader_takeTail_226 : decode bb_Reader_takeTail 226 = .ok (.return_, 1) := by decide +kernel
set_option maxRecDepth 100000 in
set_option maxHeartbeats 4000000 in
theorem t_Reader_takeTail_226  (X : zX p s m args cd D cid B bb_Reader_takeTail 2 rr_Reader zT) (H : zH s meth B n0 none "takeTail") {nf : Nat}  {c : Zc} {res : Zc} (h : f_Reader_takeTail_226 nf  c = some res) : Zz p l e (zRm 4 85 0 0) s m args below meth cd (MQ below (zQv D cid B res n0 0) args s 0 0 (fun q => B ≤ q)) D cid B 2 0 0 c 226 [] [] := by
  unfold f_Reader_takeTail_226 at h
  obtain rfl := Option.some.inj h
  exact z_vret X H.1 H.2.1 H.2.2.1 dd_Reader_takeTail_226
set_option maxRecDepth 100000 in
set_option maxHeartbeats 4000000 in
theorem t_Reader_takeTail_221  (X : zX p s m args cd D cid B bb_Reader_takeTail 2 rr_Reader zT) (H : zH s meth B n0 none "takeTail") {nf : Nat} {x0 : Nat} {c : Zc} {res : Zc} (h : f_Reader_takeTail_221 nf x0 c = some res) : Zz p l e (zRm 4 85 0 0) s m args below meth cd (MQ below (zQv D cid B res n0 0) args s 0 0 (fun q => B ≤ q)) D cid B 2 0 0 c 221 [(0, .ref x0)] [] := by
  unfold f_Reader_takeTail_221 at h
  refine z_aload_n X dd_Reader_takeTail_221 rfl 0 rfl ?_
  refine z_iconst (v := 2) X dd_Reader_takeTail_222 (by decide) ?_
  obtain ⟨w15, ew15, h⟩ := zb h
  obtain ⟨q14, eq14, h⟩ := zb h
  refine z_callVv X [.int 2] rfl dd_Reader_takeTail_223 (c_Reader_fail l eq14) (cwV 1 X.1.2.2.2.2 (zg_V km_998 km_1000 km_11 km_130 km_1001) rfl rfl rfl (by decide +kernel) ⟨Nat.le_of_ble_eq_true rfl, Nat.le_of_ble_eq_true rfl⟩) (zob_s ew15) kc_5 rfl (Nat.le_of_ble_eq_true rfl) ⟨Nat.le_of_ble_eq_true rfl, Nat.le_of_ble_eq_true rfl⟩ ?_
  refine z_sub [] rfl ?_
  exact t_Reader_takeTail_226 X H h
set_option maxRecDepth 100000 in
set_option maxHeartbeats 4000000 in
theorem t_Reader_takeTail_198  (X : zX p s m args cd D cid B bb_Reader_takeTail 2 rr_Reader zT) (H : zH s meth B n0 none "takeTail") {nf : Nat} {x0 : Nat} {x1 : Int32} {c : Zc} {res : Zc} (h : f_Reader_takeTail_198 nf x0 x1 c = some res) : Zz p l e (zRm 4 85 0 0) s m args below meth cd (MQ below (zQv D cid B res n0 0) args s 0 0 (fun q => B ≤ q)) D cid B 2 0 0 c 198 [(0, .ref x0), (1, .int x1)] [] := by
  unfold f_Reader_takeTail_198 at h
  refine z_iload_n X dd_Reader_takeTail_198 rfl 1 rfl ?_
  refine z_iconst (v := 1) X dd_Reader_takeTail_199 (by decide) ?_
  refine z_icmp_ne (tgt := 221) X dd_Reader_takeTail_200 (by decide) (fun q13 => ?_) (fun q13 => ?_)
  · rw [if_neg q13] at h
    refine z_sub [0] rfl ?_
    exact t_Reader_takeTail_221 X H h
  · rw [if_pos q13] at h
    refine z_aload_n X dd_Reader_takeTail_203 rfl 0 rfl ?_
    obtain ⟨v16, ev16, h⟩ := zb h
    refine z_get (j := 8) X dd_Reader_takeTail_204 kc_5 ki_5 (by decide) km_482 (zgi_v ev16) ?_
    refine z_bipush (v := 23) X dd_Reader_takeTail_207 (by decide) ?_
    refine z_icmp_eq (tgt := 226) X dd_Reader_takeTail_209 (by decide) (fun q17 => ?_) (fun q17 => ?_)
    · rw [if_pos q17] at h
      refine z_sub [] rfl ?_
      exact t_Reader_takeTail_226 X H h
    · rw [if_neg q17] at h
      refine z_aload_n X dd_Reader_takeTail_212 rfl 0 rfl ?_
      obtain ⟨v18, ev18, h⟩ := zb h
      refine z_get (j := 8) X dd_Reader_takeTail_213 kc_5 ki_5 (by decide) km_482 (zgi_v ev18) ?_
      refine z_bipush (v := 28) X dd_Reader_takeTail_216 (by decide) ?_
      refine z_icmp_eq (tgt := 226) X dd_Reader_takeTail_218 (by decide) (fun q19 => ?_) (fun q19 => ?_)
      · rw [if_pos q19] at h
        refine z_sub [] rfl ?_
        exact t_Reader_takeTail_226 X H h
      · rw [if_neg q19] at h
        refine z_sub [0] rfl ?_
        exact t_Reader_takeTail_221 X H h
set_option maxRecDepth 100000 in
set_option maxHeartbeats 4000000 in
theorem t_Reader_takeTail_152  (X : zX p s m args cd D cid B bb_Reader_takeTail 2 rr_Reader zT) (H : zH s meth B n0 none "takeTail") {nf : Nat} {x0 : Nat} {x1 : Int32} {c : Zc} {res : Zc} (h : f_Reader_takeTail_152 nf x0 x1 c = some res) : Zz p l e (zRm 4 85 0 0) s m args below meth cd (MQ below (zQv D cid B res n0 0) args s 0 0 (fun q => B ≤ q)) D cid B 2 0 0 c 152 [(0, .ref x0), (1, .int x1)] [] := by
  unfold f_Reader_takeTail_152 at h
  refine z_aload_n X dd_Reader_takeTail_152 rfl 0 rfl ?_
  obtain ⟨v11, ev11, h⟩ := zb h
  refine z_get (j := 8) X dd_Reader_takeTail_153 kc_5 ki_5 (by decide) km_482 (zgi_v ev11) ?_
  refine z_bipush (v := 27) X dd_Reader_takeTail_156 (by decide) ?_
  refine z_icmp_ne (tgt := 198) X dd_Reader_takeTail_158 (by decide) (fun q12 => ?_) (fun q12 => ?_)
  · rw [if_neg q12] at h
    exact t_Reader_takeTail_198 X H h
  · rw [if_pos q12] at h
    refine z_iload_n X dd_Reader_takeTail_161 rfl 1 rfl ?_
    refine z_iconst (v := 2) X dd_Reader_takeTail_162 (by decide) ?_
    refine z_icmp_ne (tgt := 198) X dd_Reader_takeTail_163 (by decide) (fun q20 => ?_) (fun q20 => ?_)
    · rw [if_neg q20] at h
      exact t_Reader_takeTail_198 X H h
    · rw [if_pos q20] at h
      refine z_aload_n X dd_Reader_takeTail_166 rfl 0 rfl ?_
      obtain ⟨v21, ev21, h⟩ := zb h
      refine z_get (j := 4) X dd_Reader_takeTail_167 kc_5 ki_5 (by decide) km_478 (zgr_v ev21) ?_
      refine z_aload_n X dd_Reader_takeTail_170 rfl 0 rfl ?_
      refine z_aload_n X dd_Reader_takeTail_171 rfl 0 rfl ?_
      obtain ⟨v22, ev22, h⟩ := zb h
      refine z_get (j := 1) X dd_Reader_takeTail_172 kc_5 ki_5 (by decide) km_475 (zgr_v ev22) ?_
      obtain ⟨v23, ev23, h⟩ := zb h
      refine z_get (j := 1) X dd_Reader_takeTail_175 kc_3 ki_3 (by decide) km_419 (zgr_v ev23) ?_
      refine z_aload_n X dd_Reader_takeTail_178 rfl 0 rfl ?_
      obtain ⟨v24, ev24, h⟩ := zb h
      refine z_get (j := 7) X dd_Reader_takeTail_179 kc_5 ki_5 (by decide) km_481 (zgi_v ev24) ?_
      obtain ⟨v25, ev25, h⟩ := zb h
      refine z_iaload X dd_Reader_takeTail_182 rfl ev25 ?_
      obtain ⟨w27, ew27, h⟩ := zb h
      obtain ⟨q26, eq26, h⟩ := zb h
      refine z_callVi X [.int v25] rfl dd_Reader_takeTail_183 (c_Reader_givenSlot l eq26) (cwV 1 X.1.2.2.2.2 (zg_V km_1222 km_1224 km_42 km_130 km_1225) rfl rfl rfl (by decide +kernel) ⟨Nat.le_of_ble_eq_true rfl, Nat.le_of_ble_eq_true rfl⟩) (zob_s ew27) kc_5 rfl (Nat.le_of_ble_eq_true rfl) ⟨Nat.le_of_ble_eq_true rfl, Nat.le_of_ble_eq_true rfl⟩ ?_
      obtain ⟨c28, ec28, h⟩ := zb h
      refine z_put (j := 20) X dd_Reader_takeTail_186 kc_2 ki_2 tt_Text tk_Text nn_Text (by decide) km_360 rfl (tk_Text 20 (by decide)) rfl rfl ec28 ?_
      refine z_aload_n X dd_Reader_takeTail_189 rfl 0 rfl ?_
      refine z_bipush (v := 28) X dd_Reader_takeTail_190 (by decide) ?_
      obtain ⟨c29, ec29, h⟩ := zb h
      refine z_put (j := 8) X dd_Reader_takeTail_192 kc_5 ki_5 tt_Reader tk_Reader nn_Reader (by decide) km_482 rfl (tk_Reader 8 (by decide)) rfl rfl ec29 ?_
      refine z_goto (tgt := 226) X dd_Reader_takeTail_195 (by decide) ?_
      refine z_sub [] rfl ?_
      exact t_Reader_takeTail_226 X H h
set_option maxRecDepth 100000 in
set_option maxHeartbeats 4000000 in
theorem t_Reader_takeTail_128  (X : zX p s m args cd D cid B bb_Reader_takeTail 2 rr_Reader zT) (H : zH s meth B n0 none "takeTail") {nf : Nat} {x0 : Nat} {x1 : Int32} {c : Zc} {res : Zc} (h : f_Reader_takeTail_128 nf x0 x1 c = some res) : Zz p l e (zRm 4 85 0 0) s m args below meth cd (MQ below (zQv D cid B res n0 0) args s 0 0 (fun q => B ≤ q)) D cid B 2 0 0 c 128 [(0, .ref x0), (1, .int x1)] [] := by
  unfold f_Reader_takeTail_128 at h
  refine z_aload_n X dd_Reader_takeTail_128 rfl 0 rfl ?_
  obtain ⟨v9, ev9, h⟩ := zb h
  refine z_get (j := 8) X dd_Reader_takeTail_129 kc_5 ki_5 (by decide) km_482 (zgi_v ev9) ?_
  refine z_bipush (v := 26) X dd_Reader_takeTail_132 (by decide) ?_
  refine z_icmp_ne (tgt := 152) X dd_Reader_takeTail_134 (by decide) (fun q10 => ?_) (fun q10 => ?_)
  · rw [if_neg q10] at h
    exact t_Reader_takeTail_152 X H h
  · rw [if_pos q10] at h
    refine z_iload_n X dd_Reader_takeTail_137 rfl 1 rfl ?_
    refine z_bipush (v := 44) X dd_Reader_takeTail_138 (by decide) ?_
    refine z_icmp_ne (tgt := 152) X dd_Reader_takeTail_140 (by decide) (fun q30 => ?_) (fun q30 => ?_)
    · rw [if_neg q30] at h
      exact t_Reader_takeTail_152 X H h
    · rw [if_pos q30] at h
      refine z_aload_n X dd_Reader_takeTail_143 rfl 0 rfl ?_
      refine z_bipush (v := 27) X dd_Reader_takeTail_144 (by decide) ?_
      obtain ⟨c31, ec31, h⟩ := zb h
      refine z_put (j := 8) X dd_Reader_takeTail_146 kc_5 ki_5 tt_Reader tk_Reader nn_Reader (by decide) km_482 rfl (tk_Reader 8 (by decide)) rfl rfl ec31 ?_
      refine z_goto (tgt := 226) X dd_Reader_takeTail_149 (by decide) ?_
      refine z_sub [] rfl ?_
      exact t_Reader_takeTail_226 X H h
set_option maxRecDepth 100000 in
set_option maxHeartbeats 4000000 in
theorem t_Reader_takeTail_82  (X : zX p s m args cd D cid B bb_Reader_takeTail 2 rr_Reader zT) (H : zH s meth B n0 none "takeTail") {nf : Nat} {x0 : Nat} {x1 : Int32} {c : Zc} {res : Zc} (h : f_Reader_takeTail_82 nf x0 x1 c = some res) : Zz p l e (zRm 4 85 0 0) s m args below meth cd (MQ below (zQv D cid B res n0 0) args s 0 0 (fun q => B ≤ q)) D cid B 2 0 0 c 82 [(0, .ref x0), (1, .int x1)] [] := by
  unfold f_Reader_takeTail_82 at h
  refine z_aload_n X dd_Reader_takeTail_82 rfl 0 rfl ?_
  obtain ⟨v7, ev7, h⟩ := zb h
  refine z_get (j := 8) X dd_Reader_takeTail_83 kc_5 ki_5 (by decide) km_482 (zgi_v ev7) ?_
  refine z_bipush (v := 25) X dd_Reader_takeTail_86 (by decide) ?_
  refine z_icmp_ne (tgt := 128) X dd_Reader_takeTail_88 (by decide) (fun q8 => ?_) (fun q8 => ?_)
  · rw [if_neg q8] at h
    exact t_Reader_takeTail_128 X H h
  · rw [if_pos q8] at h
    refine z_iload_n X dd_Reader_takeTail_91 rfl 1 rfl ?_
    refine z_iconst (v := 2) X dd_Reader_takeTail_92 (by decide) ?_
    refine z_icmp_ne (tgt := 128) X dd_Reader_takeTail_93 (by decide) (fun q32 => ?_) (fun q32 => ?_)
    · rw [if_neg q32] at h
      exact t_Reader_takeTail_128 X H h
    · rw [if_pos q32] at h
      refine z_aload_n X dd_Reader_takeTail_96 rfl 0 rfl ?_
      obtain ⟨v33, ev33, h⟩ := zb h
      refine z_get (j := 4) X dd_Reader_takeTail_97 kc_5 ki_5 (by decide) km_478 (zgr_v ev33) ?_
      refine z_aload_n X dd_Reader_takeTail_100 rfl 0 rfl ?_
      refine z_aload_n X dd_Reader_takeTail_101 rfl 0 rfl ?_
      obtain ⟨v34, ev34, h⟩ := zb h
      refine z_get (j := 1) X dd_Reader_takeTail_102 kc_5 ki_5 (by decide) km_475 (zgr_v ev34) ?_
      obtain ⟨v35, ev35, h⟩ := zb h
      refine z_get (j := 1) X dd_Reader_takeTail_105 kc_3 ki_3 (by decide) km_419 (zgr_v ev35) ?_
      refine z_aload_n X dd_Reader_takeTail_108 rfl 0 rfl ?_
      obtain ⟨v36, ev36, h⟩ := zb h
      refine z_get (j := 7) X dd_Reader_takeTail_109 kc_5 ki_5 (by decide) km_481 (zgi_v ev36) ?_
      obtain ⟨v37, ev37, h⟩ := zb h
      refine z_iaload X dd_Reader_takeTail_112 rfl ev37 ?_
      obtain ⟨w39, ew39, h⟩ := zb h
      obtain ⟨q38, eq38, h⟩ := zb h
      refine z_callVi X [.int v37] rfl dd_Reader_takeTail_113 (c_Reader_givenSlot l eq38) (cwV 1 X.1.2.2.2.2 (zg_V km_1222 km_1224 km_42 km_130 km_1225) rfl rfl rfl (by decide +kernel) ⟨Nat.le_of_ble_eq_true rfl, Nat.le_of_ble_eq_true rfl⟩) (zob_s ew39) kc_5 rfl (Nat.le_of_ble_eq_true rfl) ⟨Nat.le_of_ble_eq_true rfl, Nat.le_of_ble_eq_true rfl⟩ ?_
      obtain ⟨c40, ec40, h⟩ := zb h
      refine z_put (j := 19) X dd_Reader_takeTail_116 kc_2 ki_2 tt_Text tk_Text nn_Text (by decide) km_357 rfl (tk_Text 19 (by decide)) rfl rfl ec40 ?_
      refine z_aload_n X dd_Reader_takeTail_119 rfl 0 rfl ?_
      refine z_bipush (v := 26) X dd_Reader_takeTail_120 (by decide) ?_
      obtain ⟨c41, ec41, h⟩ := zb h
      refine z_put (j := 8) X dd_Reader_takeTail_122 kc_5 ki_5 tt_Reader tk_Reader nn_Reader (by decide) km_482 rfl (tk_Reader 8 (by decide)) rfl rfl ec41 ?_
      refine z_goto (tgt := 226) X dd_Reader_takeTail_125 (by decide) ?_
      refine z_sub [] rfl ?_
      exact t_Reader_takeTail_226 X H h
set_option maxRecDepth 100000 in
set_option maxHeartbeats 4000000 in
theorem t_Reader_takeTail_48  (X : zX p s m args cd D cid B bb_Reader_takeTail 2 rr_Reader zT) (H : zH s meth B n0 none "takeTail") {nf : Nat} {x0 : Nat} {x1 : Int32} {c : Zc} {res : Zc} (h : f_Reader_takeTail_48 nf x0 x1 c = some res) : Zz p l e (zRm 4 85 0 0) s m args below meth cd (MQ below (zQv D cid B res n0 0) args s 0 0 (fun q => B ≤ q)) D cid B 2 0 0 c 48 [(0, .ref x0), (1, .int x1)] [] := by
  unfold f_Reader_takeTail_48 at h
  refine z_aload_n X dd_Reader_takeTail_48 rfl 0 rfl ?_
  obtain ⟨v5, ev5, h⟩ := zb h
  refine z_get (j := 8) X dd_Reader_takeTail_49 kc_5 ki_5 (by decide) km_482 (zgi_v ev5) ?_
  refine z_bipush (v := 24) X dd_Reader_takeTail_52 (by decide) ?_
  refine z_icmp_ne (tgt := 82) X dd_Reader_takeTail_54 (by decide) (fun q6 => ?_) (fun q6 => ?_)
  · rw [if_neg q6] at h
    exact t_Reader_takeTail_82 X H h
  · rw [if_pos q6] at h
    refine z_iload_n X dd_Reader_takeTail_57 rfl 1 rfl ?_
    refine z_bipush (v := 6) X dd_Reader_takeTail_58 (by decide) ?_
    refine z_icmp_ne (tgt := 82) X dd_Reader_takeTail_60 (by decide) (fun q42 => ?_) (fun q42 => ?_)
    · rw [if_neg q42] at h
      exact t_Reader_takeTail_82 X H h
    · rw [if_pos q42] at h
      refine z_aload_n X dd_Reader_takeTail_63 rfl 0 rfl ?_
      refine z_aload_n X dd_Reader_takeTail_64 rfl 0 rfl ?_
      obtain ⟨v43, ev43, h⟩ := zb h
      refine z_get (j := 1) X dd_Reader_takeTail_65 kc_5 ki_5 (by decide) km_475 (zgr_v ev43) ?_
      obtain ⟨v44, ev44, h⟩ := zb h
      refine z_get (j := 1) X dd_Reader_takeTail_68 kc_3 ki_3 (by decide) km_419 (zgr_v ev44) ?_
      refine z_aload_n X dd_Reader_takeTail_71 rfl 0 rfl ?_
      obtain ⟨v45, ev45, h⟩ := zb h
      refine z_get (j := 7) X dd_Reader_takeTail_72 kc_5 ki_5 (by decide) km_481 (zgi_v ev45) ?_
      obtain ⟨v46, ev46, h⟩ := zb h
      refine z_iaload X dd_Reader_takeTail_75 rfl ev46 ?_
      obtain ⟨w48, ew48, h⟩ := zb h
      obtain ⟨q47, eq47, h⟩ := zb h
      refine z_callVv X [.int v46] rfl dd_Reader_takeTail_76 (c_Reader_takeLimit l eq47) (cwV 1 X.1.2.2.2.2 (zg_V km_1218 km_1220 km_41 km_130 km_1221) rfl rfl rfl (by decide +kernel) ⟨Nat.le_of_ble_eq_true rfl, Nat.le_of_ble_eq_true rfl⟩) (zob_s ew48) kc_5 rfl (Nat.le_of_ble_eq_true rfl) ⟨Nat.le_of_ble_eq_true rfl, Nat.le_of_ble_eq_true rfl⟩ ?_
      refine z_goto (tgt := 226) X dd_Reader_takeTail_79 (by decide) ?_
      refine z_sub [] rfl ?_
      exact t_Reader_takeTail_226 X H h
set_option maxRecDepth 100000 in
set_option maxHeartbeats 4000000 in
theorem t_Reader_takeTail_24  (X : zX p s m args cd D cid B bb_Reader_takeTail 2 rr_Reader zT) (H : zH s meth B n0 none "takeTail") {nf : Nat} {x0 : Nat} {x1 : Int32} {c : Zc} {res : Zc} (h : f_Reader_takeTail_24 nf x0 x1 c = some res) : Zz p l e (zRm 4 85 0 0) s m args below meth cd (MQ below (zQv D cid B res n0 0) args s 0 0 (fun q => B ≤ q)) D cid B 2 0 0 c 24 [(0, .ref x0), (1, .int x1)] [] := by
  unfold f_Reader_takeTail_24 at h
  refine z_aload_n X dd_Reader_takeTail_24 rfl 0 rfl ?_
  obtain ⟨v3, ev3, h⟩ := zb h
  refine z_get (j := 8) X dd_Reader_takeTail_25 kc_5 ki_5 (by decide) km_482 (zgi_v ev3) ?_
  refine z_bipush (v := 23) X dd_Reader_takeTail_28 (by decide) ?_
  refine z_icmp_ne (tgt := 48) X dd_Reader_takeTail_30 (by decide) (fun q4 => ?_) (fun q4 => ?_)
  · rw [if_neg q4] at h
    exact t_Reader_takeTail_48 X H h
  · rw [if_pos q4] at h
    refine z_iload_n X dd_Reader_takeTail_33 rfl 1 rfl ?_
    refine z_bipush (v := 13) X dd_Reader_takeTail_34 (by decide) ?_
    refine z_icmp_ne (tgt := 48) X dd_Reader_takeTail_36 (by decide) (fun q49 => ?_) (fun q49 => ?_)
    · rw [if_neg q49] at h
      exact t_Reader_takeTail_48 X H h
    · rw [if_pos q49] at h
      refine z_aload_n X dd_Reader_takeTail_39 rfl 0 rfl ?_
      refine z_bipush (v := 24) X dd_Reader_takeTail_40 (by decide) ?_
      obtain ⟨c50, ec50, h⟩ := zb h
      refine z_put (j := 8) X dd_Reader_takeTail_42 kc_5 ki_5 tt_Reader tk_Reader nn_Reader (by decide) km_482 rfl (tk_Reader 8 (by decide)) rfl rfl ec50 ?_
      refine z_goto (tgt := 226) X dd_Reader_takeTail_45 (by decide) ?_
      refine z_sub [] rfl ?_
      exact t_Reader_takeTail_226 X H h
set_option maxRecDepth 100000 in
set_option maxHeartbeats 4000000 in
theorem c_Reader_takeTail (l : Launch) {nf : Nat} {a0 : Nat} {a1 : Int32} {c : Zc} {res : Zc} (h : f_Reader_takeTail nf a0 a1 c = some res) : zM l yy_Reader_takeTail ww_Reader_takeTail 4 85 0 0 [.ref a0, .int a1] c (fun D cid B => zQv D cid B res c.length 0) := by
  refine z_met (cc := bb_Reader_takeTail) (maxL := 2) (ret := none) (by decide +kernel) rfl (Nat.le_of_ble_eq_true rfl) ?_
  intro p e s m args below meth cd D cid B X h1 h2 h3 h4
  have X : zX p s m args cd D cid B bb_Reader_takeTail 2 rr_Reader zT := X
  have H : zH s meth B c.length none "takeTail" := ⟨h1, h2, h4, h3⟩
  unfold f_Reader_takeTail at h
  show Zz p l e (zRm 4 85 0 0) s m args below meth cd _ D cid B 2 0 0 c 0 [(0, .ref a0), (1, .int a1)] []
  refine z_aload_n X dd_Reader_takeTail_0 rfl 0 rfl ?_
  obtain ⟨v1, ev1, h⟩ := zb h
  refine z_get (j := 8) X dd_Reader_takeTail_1 kc_5 ki_5 (by decide) km_482 (zgi_v ev1) ?_
  refine z_bipush (v := 23) X dd_Reader_takeTail_4 (by decide) ?_
  refine z_icmp_ne (tgt := 24) X dd_Reader_takeTail_6 (by decide) (fun q2 => ?_) (fun q2 => ?_)
  · rw [if_neg q2] at h
    exact t_Reader_takeTail_24 X H h
  · rw [if_pos q2] at h
    refine z_iload_n X dd_Reader_takeTail_9 rfl 1 rfl ?_
    refine z_bipush (v := 44) X dd_Reader_takeTail_10 (by decide) ?_
    refine z_icmp_ne (tgt := 24) X dd_Reader_takeTail_12 (by decide) (fun q51 => ?_) (fun q51 => ?_)
    · rw [if_neg q51] at h
      exact t_Reader_takeTail_24 X H h
    · rw [if_pos q51] at h
      refine z_aload_n X dd_Reader_takeTail_15 rfl 0 rfl ?_
      refine z_bipush (v := 22) X dd_Reader_takeTail_16 (by decide) ?_
      obtain ⟨c52, ec52, h⟩ := zb h
      refine z_put (j := 8) X dd_Reader_takeTail_18 kc_5 ki_5 tt_Reader tk_Reader nn_Reader (by decide) km_482 rfl (tk_Reader 8 (by decide)) rfl rfl ec52 ?_
      refine z_goto (tgt := 226) X dd_Reader_takeTail_21 (by decide) ?_
      refine z_sub [] rfl ?_
      exact t_Reader_takeTail_226 X H h
end ZzM
