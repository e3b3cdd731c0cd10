section ZzM
variable {p : Program} {l : Launch} {e : Env} {s : State} {m : MethodId} {args : Array Value} {below : List Frame} {meth : Method} {cd : Code} {Q : State → Prop} {D : va_G} {cid : Nat → ClassId} {B n0 : Nat}
theorem dd_Mo_single_0 : decode bb_Mo_single 0 = .ok (.aload_n 0, 1) := by decide +kernel
theorem dd_Mo_single_1 : decode bb_Mo_single 1 = .ok (.getfield 104, 3) := by decide +kernel
theorem dd_Mo_single_4 : decode bb_Mo_single 4 = .ok (.iload_n 1, 1) := by decide +kernel
theorem dd_Mo_single_5 : decode bb_Mo_single 5 = .ok (.iaload, 1) := by decide +kernel
theorem dd_Mo_single_6 : decode bb_Mo_single 6 = .ok (.istore_n 2, 1) := by decide +kernel
theorem dd_Mo_single_7 : decode bb_Mo_single 7 = .ok (.aload_n 0, 1) := by decide +kernel
theorem dd_Mo_single_8 : decode bb_Mo_single 8 = .ok (.invokevirtual 310, 3) := by decide +kernel
theorem dd_Mo_single_11 : decode bb_Mo_single 11 = .ok (.iload_n 2, 1) := by decide +kernel
theorem dd_Mo_single_12 : decode bb_Mo_single 12 = .ok (.bipush 16, 2) := by decide +kernel
theorem dd_Mo_single_14 : decode bb_Mo_single 14 = .ok (.if_icmp .ne 17, 3) := by decide +kernel
theorem dd_Mo_single_17 : decode bb_Mo_single 17 = .ok (.aload_n 0, 1) := by decide +kernel
theorem dd_Mo_single_18 : decode bb_Mo_single 18 = .ok (.iconst 3, 1) := by decide +kernel
theorem dd_Mo_single_19 : decode bb_Mo_single 19 = .ok (.aload_n 0, 1) := by decide +kernel
theorem dd_Mo_single_20 : decode bb_Mo_single 20 = .ok (.getfield 49, 3) := by decide +kernel
theorem dd_Mo_single_23 : decode bb_Mo_single 23 = .ok (.aload_n 0, 1) := by decide +kernel
theorem dd_Mo_single_24 : decode bb_Mo_single 24 = .ok (.getfield 300, 3) := by decide +kernel
theorem dd_Mo_single_27 : decode bb_Mo_single 27 = .ok (.iaload, 1) := by decide +kernel
theorem dd_Mo_single_28 : decode bb_Mo_single 28 = .ok (.invokevirtual 303, 3) := by decide +kernel
theorem dd_Mo_single_31 : decode bb_Mo_single 31 = .ok (.aload_n 0, 1) := by decide +kernel
theorem dd_Mo_single_32 : decode bb_Mo_single 32 = .ok (.bipush 94, 2) := by decide +kernel
theorem dd_Mo_single_34 : decode bb_Mo_single 34 = .ok (.invokevirtual 316, 3) := by decide +kernel
theorem dd_Mo_single_37 : decode bb_Mo_single 37 = .ok (.istore_n 3, 1) := by decide +kernel
theorem dd_Mo_single_38 : decode bb_Mo_single 38 = .ok (.aload_n 0, 1) := by decide +kernel
theorem dd_Mo_single_39 : decode bb_Mo_single 39 = .ok (.getfield 294, 3) := by decide +kernel
theorem dd_Mo_single_42 : decode bb_Mo_single 42 = .ok (.ifCond .eq 4, 3) := by decide +kernel
theorem dd_Mo_single_45 : decode bb_Mo_single 45 = .ok (.return_, 1) := by decide +kernel
theorem dd_Mo_single_46 : decode bb_Mo_single 46 = .ok (.bipush 12, 2) := by decide +kernel
theorem dd_Mo_single_48 : decode bb_Mo_single 48 = .ok (.istore 4, 2) := by decide +kernel
theorem dd_Mo_single_50 : decode bb_Mo_single 50 = .ok (.aload_n 0, 1) := by decide +kernel
theorem dd_Mo_single_51 : decode bb_Mo_single 51 = .ok (.invokevirtual 306, 3) := by decide +kernel
theorem dd_Mo_single_54 : decode bb_Mo_single 54 = .ok (.iconst 5, 1) := by decide +kernel
theorem dd_Mo_single_55 : decode bb_Mo_single 55 = .ok (.if_icmp .ne 50, 3) := by decide +kernel
theorem dd_Mo_single_58 : decode bb_Mo_single 58 = .ok (.aload_n 0, 1) := by decide +kernel
theorem dd_Mo_single_59 : decode bb_Mo_single 59 = .ok (.invokevirtual 310, 3) := by decide +kernel
theorem dd_Mo_single_62 : decode bb_Mo_single 62 = .ok (.aload_n 0, 1) := by decide +kernel
theorem dd_Mo_single_63 : decode bb_Mo_single 63 = .ok (.getfield 46, 3) := by decide +kernel
theorem dd_Mo_single_66 : decode bb_Mo_single 66 = .ok (.aload_n 0, 1) := by decide +kernel
theorem dd_Mo_single_67 : decode bb_Mo_single 67 = .ok (.getfield 300, 3) := by decide +kernel
theorem dd_Mo_single_70 : decode bb_Mo_single 70 = .ok (.iaload, 1) := by decide +kernel
theorem dd_Mo_single_71 : decode bb_Mo_single 71 = .ok (.istore 4, 2) := by decide +kernel
theorem dd_Mo_single_73 : decode bb_Mo_single 73 = .ok (.aload_n 0, 1) := by decide +kernel
theorem dd_Mo_single_74 : decode bb_Mo_single 74 = .ok (.getfield 325, 3) := by decide +kernel
theorem dd_Mo_single_77 : decode bb_Mo_single 77 = .ok (.ifCond .le 46, 3) := by decide +kernel
theorem dd_Mo_single_80 : decode bb_Mo_single 80 = .ok (.iload 4, 2) := by decide +kernel
theorem dd_Mo_single_82 : decode bb_Mo_single 82 = .ok (.bipush 8, 2) := by decide +kernel
theorem dd_Mo_single_84 : decode bb_Mo_single 84 = .ok (.if_icmp .lt 39, 3) := by decide +kernel
theorem dd_Mo_single_87 : decode bb_Mo_single 87 = .ok (.aload_n 0, 1) := by decide +kernel
theorem dd_Mo_single_88 : decode bb_Mo_single 88 = .ok (.bipush 6, 2) := by decide +kernel
theorem dd_Mo_single_90 : decode bb_Mo_single 90 = .ok (.aload_n 0, 1) := by decide +kernel
theorem dd_Mo_single_91 : decode bb_Mo_single 91 = .ok (.getfield 49, 3) := by decide +kernel
theorem dd_Mo_single_94 : decode bb_Mo_single 94 = .ok (.aload_n 0, 1) := by decide +kernel
theorem dd_Mo_single_95 : decode bb_Mo_single 95 = .ok (.getfield 300, 3) := by decide +kernel
theorem dd_Mo_single_98 : decode bb_Mo_single 98 = .ok (.iaload, 1) := by decide +kernel
theorem dd_Mo_single_99 : decode bb_Mo_single 99 = .ok (.invokevirtual 303, 3) := by decide +kernel
theorem dd_Mo_single_102 : decode bb_Mo_single 102 = .ok (.goto 21, 3) := by decide +kernel
theorem dd_Mo_single_105 : decode bb_Mo_single 105 = .ok (.aload_n 0, 1) := by decide +kernel
theorem dd_Mo_single_106 : decode bb_Mo_single 106 = .ok (.getfield 43, 3) := by decide +kernel
theorem dd_Mo_single_109 : decode bb_Mo_single 109 = .ok (.aload_n 0, 1) := by decide +kernel
theorem dd_Mo_single_110 : decode bb_Mo_single 110 = .ok (.getfield 300, 3) := by decide +kernel
theorem dd_Mo_single_113 : decode bb_Mo_single 113 = .ok (.iaload, 1) := by decide +kernel
theorem dd_Mo_single_114 : decode bb_Mo_single 114 = .ok (.bipush 95, 2) := by decide +kernel
theorem dd_Mo_single_116 : decode bb_Mo_single 116 = .ok (.if_icmp .eq 7, 3) := by decide +kernel
theorem dd_Mo_single_119 : decode bb_Mo_single 119 = .ok (.aload_n 0, 1) := by decide +kernel
theorem dd_Mo_single_120 : decode bb_Mo_single 120 = .ok (.invokevirtual 319, 3) := by decide +kernel
theorem dd_Mo_single_123 : decode bb_Mo_single 123 = .ok (.aload_n 0, 1) := by decide +kernel
theorem dd_Mo_single_124 : decode bb_Mo_single 124 = .ok (.invokevirtual 313, 3) := by decide +kernel
theorem dd_Mo_single_127 : decode bb_Mo_single 127 = .ok (.aload_n 0, 1) := by decide +kernel
theorem dd_Mo_single_128 : decode bb_Mo_single 128 = .ok (.getfield 294, 3) := by decide +kernel
theorem dd_Mo_single_131 : decode bb_Mo_single 131 = .ok (.ifCond .ne 50, 3) := by decide +kernel
theorem dd_Mo_single_134 : decode bb_Mo_single 134 = .ok (.aload_n 0, 1) := by decide +kernel
theorem dd_Mo_single_135 : decode bb_Mo_single 135 = .ok (.getfield 107, 3) := by decide +kernel
theorem dd_Mo_single_138 : decode bb_Mo_single 138 = .ok (.bipush 16, 2) := by decide +kernel
theorem dd_Mo_single_140 : decode bb_Mo_single 140 = .ok (.iload_n 1, 1) := by decide +kernel
theorem dd_Mo_single_141 : decode bb_Mo_single 141 = .ok (.imul, 1) := by decide +kernel
theorem dd_Mo_single_142 : decode bb_Mo_single 142 = .ok (.iload_n 2, 1) := by decide +kernel
theorem dd_Mo_single_143 : decode bb_Mo_single 143 = .ok (.iadd, 1) := by decide +kernel
theorem dd_Mo_single_144 : decode bb_Mo_single 144 = .ok (.iload 4, 2) := by decide +kernel
theorem dd_Mo_single_146 : decode bb_Mo_single 146 = .ok (.iastore, 1) := by decide +kernel
theorem dd_Mo_single_147 : decode bb_Mo_single 147 = .ok (.aload_n 0, 1) := by decide +kernel
theorem dd_Mo_single_148 : decode bb_Mo_single 148 = .ok (.getfield 110, 3) := by decide +kernel
theorem dd_Mo_single_151 : decode bb_Mo_single 151 = .ok (.bipush 16, 2) := by decide +kernel
theorem dd_Mo_single_153 : decode bb_Mo_single 153 = .ok (.iload_n 1, 1) := by decide +kernel
theorem dd_Mo_single_154 : decode bb_Mo_single 154 = .ok (.imul, 1) := by decide +kernel
theorem dd_Mo_single_155 : decode bb_Mo_single 155 = .ok (.iload_n 2, 1) := by decide +kernel
theorem dd_Mo_single_156 : decode bb_Mo_single 156 = .ok (.iadd, 1) := by decide +kernel
theorem dd_Mo_single_157 : decode bb_Mo_single 157 = .ok (.iload_n 3, 1) := by decide +kernel
theorem dd_Mo_single_158 : decode bb_Mo_single 158 = .ok (.bastore, 1) := by decide +kernel
theorem dd_Mo_single_159 : decode bb_Mo_single 159 = .ok (.aload_n 0, 1) := by decide +kernel
theorem dd_Mo_single_160 : decode bb_Mo_single 160 = .ok (.getfield 104, 3) := by decide +kernel
theorem dd_Mo_single_163 : decode bb_Mo_single 163 = .ok (.iload_n 1, 1) := by decide +kernel
theorem dd_Mo_single_164 : decode bb_Mo_single 164 = .ok (.dup2, 1) := by decide +kernel
theorem dd_Mo_single_165 : decode bb_Mo_single 165 = .ok (.iaload, 1) := by decide +kernel
theorem dd_Mo_single_166 : decode bb_Mo_single 166 = .ok (.iconst 1, 1) := by decide +kernel
theorem dd_Mo_single_167 : decode bb_Mo_single 167 = .ok (.iadd, 1) := by decide +kernel
theorem dd_Mo_single_168 : decode bb_Mo_single 168 = .ok (.iastore, 1) := by decide +kernel
theorem dd_Mo_single_169 : decode bb_Mo_single 169 = .ok (.aload_n 0, 1) := by decide +kernel
theorem dd_Mo_single_170 : decode bb_Mo_single 170 = .ok (.iload_n 1, 1) := by decide +kernel
theorem dd_Mo_single_171 : decode bb_Mo_single 171 = .ok (.iconst 0, 1) := by decide +kernel
theorem dd_Mo_single_172 : decode bb_Mo_single 172 = .ok (.iconst 1, 1) := by decide +kernel
theorem dd_Mo_single_173 : decode bb_Mo_single 173 = .ok (.iload_n 2, 1) := by decide +kernel
theorem dd_Mo_single_174 : decode bb_Mo_single 174 = .ok (.ishl, 1) := by decide +kernel
theorem dd_Mo_single_175 : decode bb_Mo_single 175 = .ok (.iconst 1, 1) := by decide +kernel
theorem dd_Mo_single_176 : decode bb_Mo_single 176 = .ok (.iload_n 2, 1) := by decide +kernel
theorem dd_Mo_single_177 : decode bb_Mo_single 177 = .ok (.ishl, 1) := by decide +kernel
theorem dd_Mo_single_178 : decode bb_Mo_single 178 = .ok (.invokevirtual 382, 3) := by decide +kernel
theorem dd_Mo_single_181 : decode bb_Mo_single 181 = .ok (.return_, 1) := by decide +kernel
set_option maxRecDepth 100000 in
set_option maxHeartbeats 4000000 in
theorem t_Mo_single_181  (X : zX p s m args cd D cid B bb_Mo_single 5 rr_Mo zT) (H : zH s meth B n0 none "single") {nf : Nat}  {c : Zc} {res : Zc} (h : f_Mo_single_181 nf  c = some res) : Zz p l e (zRm 5 109 0 0) s m args below meth cd (MQ below (zQv D cid B res n0 0) args s 0 0 (fun q => B ≤ q)) D cid B 5 0 0 c 181 [] [] := by
  unfold f_Mo_single_181 at h
  obtain rfl := Option.some.inj h
  exact z_vret X H.1 H.2.1 H.2.2.1 dd_Mo_single_181
set_option maxRecDepth 100000 in
set_option maxHeartbeats 4000000 in
theorem t_Mo_single_123  (X : zX p s m args cd D cid B bb_Mo_single 5 rr_Mo zT) (H : zH s meth B n0 none "single") {nf : Nat} {x0 : Nat} {x1 : Int32} {x2 : Int32} {x3 : Int32} {x4 : Int32} {c : Zc} {res : Zc} (h : f_Mo_single_123 nf x0 x1 x2 x3 x4 c = some res) : Zz p l e (zRm 5 109 0 0) s m args below meth cd (MQ below (zQv D cid B res n0 0) args s 0 0 (fun q => B ≤ q)) D cid B 5 0 0 c 123 [(0, .ref x0), (1, .int x1), (2, .int x2), (3, .int x3), (4, .int x4)] [] := by
  unfold f_Mo_single_123 at h
  refine z_aload_n X dd_Mo_single_123 rfl 0 rfl ?_
  obtain ⟨w18, ew18, h⟩ := zb h
  obtain ⟨q17, eq17, h⟩ := zb h
  refine z_callVv X [] rfl dd_Mo_single_124 (c_Mo_pass l eq17) (cwV 0 X.1.2.2.2.2 (zg_V km_1920 km_1922 km_72 km_138 km_1923) rfl rfl rfl (by decide +kernel) ⟨Nat.le_of_ble_eq_true rfl, Nat.le_of_ble_eq_true rfl⟩) (zob_s ew18) kc_12 rfl (Nat.le_of_ble_eq_true rfl) ⟨Nat.le_of_ble_eq_true rfl, Nat.le_of_ble_eq_true rfl⟩ ?_
  refine z_aload_n X dd_Mo_single_127 rfl 0 rfl ?_
  obtain ⟨v19, ev19, h⟩ := zb h
  refine z_get (j := 19) X dd_Mo_single_128 kc_12 ki_12 (by decide) km_1540 (zgi_v ev19) ?_
  refine z_if_ne (tgt := 181) X dd_Mo_single_131 (by decide) (fun q20 => ?_) (fun q20 => ?_)
  · rw [if_neg q20] at h
    refine z_sub [] rfl ?_
    exact t_Mo_single_181 X H h
  · rw [if_pos q20] at h
    refine z_aload_n X dd_Mo_single_134 rfl 0 rfl ?_
    obtain ⟨v21, ev21, h⟩ := zb h
    refine z_get (j := 40) X dd_Mo_single_135 kc_12 ki_12 (by decide) km_1561 (zgr_v ev21) ?_
    refine z_bipush (v := 16) X dd_Mo_single_138 (by decide) ?_
    refine z_iload_n X dd_Mo_single_140 rfl 1 rfl ?_
    refine z_imul X dd_Mo_single_141 ?_
    refine z_iload_n X dd_Mo_single_142 rfl 2 rfl ?_
    refine z_iadd X dd_Mo_single_143 ?_
    refine z_iload X dd_Mo_single_144 4 rfl ?_
    obtain ⟨c22, ec22, h⟩ := zb h
    refine z_iastore X dd_Mo_single_146 rfl ec22 ?_
    refine z_aload_n X dd_Mo_single_147 rfl 0 rfl ?_
    obtain ⟨v23, ev23, h⟩ := zb h
    refine z_get (j := 41) X dd_Mo_single_148 kc_12 ki_12 (by decide) km_1562 (zgr_v ev23) ?_
    refine z_bipush (v := 16) X dd_Mo_single_151 (by decide) ?_
    refine z_iload_n X dd_Mo_single_153 rfl 1 rfl ?_
    refine z_imul X dd_Mo_single_154 ?_
    refine z_iload_n X dd_Mo_single_155 rfl 2 rfl ?_
    refine z_iadd X dd_Mo_single_156 ?_
    refine z_iload_n X dd_Mo_single_157 rfl 3 rfl ?_
    obtain ⟨c24, ec24, h⟩ := zb h
    refine z_zastore X dd_Mo_single_158 rfl ec24 ?_
    refine z_aload_n X dd_Mo_single_159 rfl 0 rfl ?_
    obtain ⟨v25, ev25, h⟩ := zb h
    refine z_get (j := 39) X dd_Mo_single_160 kc_12 ki_12 (by decide) km_1560 (zgr_v ev25) ?_
    refine z_iload_n X dd_Mo_single_163 rfl 1 rfl ?_
    refine z_dup2_11 X dd_Mo_single_164 rfl rfl ?_
    obtain ⟨v26, ev26, h⟩ := zb h
    refine z_iaload X dd_Mo_single_165 rfl ev26 ?_
    refine z_iconst (v := 1) X dd_Mo_single_166 (by decide) ?_
    refine z_iadd X dd_Mo_single_167 ?_
    obtain ⟨c27, ec27, h⟩ := zb h
    refine z_iastore X dd_Mo_single_168 rfl ec27 ?_
    refine z_aload_n X dd_Mo_single_169 rfl 0 rfl ?_
    refine z_iload_n X dd_Mo_single_170 rfl 1 rfl ?_
    refine z_iconst (v := 0) X dd_Mo_single_171 (by decide) ?_
    refine z_iconst (v := 1) X dd_Mo_single_172 (by decide) ?_
    refine z_iload_n X dd_Mo_single_173 rfl 2 rfl ?_
    refine z_ishl X dd_Mo_single_174 ?_
    refine z_iconst (v := 1) X dd_Mo_single_175 (by decide) ?_
    refine z_iload_n X dd_Mo_single_176 rfl 2 rfl ?_
    refine z_ishl X dd_Mo_single_177 ?_
    obtain ⟨w29, ew29, h⟩ := zb h
    obtain ⟨q28, eq28, h⟩ := zb h
    refine z_callVv X [.int x1, .int 0, .int (1 <<< (x2 &&& 31)), .int (1 <<< (x2 &&& 31))] rfl dd_Mo_single_178 (c_Mo_step l eq28) (cwV 4 X.1.2.2.2.2 (zg_V km_1980 km_1982 km_87 km_138 km_1983) rfl rfl rfl (by decide +kernel) ⟨Nat.le_of_ble_eq_true rfl, Nat.le_of_ble_eq_true rfl⟩) (zob_s ew29) kc_12 rfl (Nat.le_of_ble_eq_true rfl) ⟨Nat.le_of_ble_eq_true rfl, Nat.le_of_ble_eq_true rfl⟩ ?_
    refine z_sub [] rfl ?_
    exact t_Mo_single_181 X H h
set_option maxRecDepth 100000 in
set_option maxHeartbeats 4000000 in
theorem t_Mo_single_31  (X : zX p s m args cd D cid B bb_Mo_single 5 rr_Mo zT) (H : zH s meth B n0 none "single") {nf : Nat} {x0 : Nat} {x1 : Int32} {x2 : Int32} {c : Zc} {res : Zc} (h : f_Mo_single_31 nf x0 x1 x2 c = some res) : Zz p l e (zRm 5 109 0 0) s m args below meth cd (MQ below (zQv D cid B res n0 0) args s 0 0 (fun q => B ≤ q)) D cid B 5 0 0 c 31 [(0, .ref x0), (1, .int x1), (2, .int x2)] [] := by
  unfold f_Mo_single_31 at h
  refine z_aload_n X dd_Mo_single_31 rfl 0 rfl ?_
  refine z_bipush (v := 94) X dd_Mo_single_32 (by decide) ?_
  obtain ⟨w7, ew7, h⟩ := zb h
  obtain ⟨q6, eq6, h⟩ := zb h
  refine z_callVi X [.int 94] rfl dd_Mo_single_34 (c_Mo_takes l eq6) (cwV 1 X.1.2.2.2.2 (zg_V km_1908 km_1910 km_69 km_138 km_1911) rfl rfl rfl (by decide +kernel) ⟨Nat.le_of_ble_eq_true rfl, Nat.le_of_ble_eq_true rfl⟩) (zob_s ew7) kc_12 rfl (Nat.le_of_ble_eq_true rfl) ⟨Nat.le_of_ble_eq_true rfl, Nat.le_of_ble_eq_true rfl⟩ ?_
  refine z_istore_n (lv' := [(3, .int q6.1), (0, .ref x0), (1, .int x1), (2, .int x2)]) X dd_Mo_single_37 rfl (by decide) rfl ?_
  refine z_aload_n X dd_Mo_single_38 rfl 1 rfl ?_
  obtain ⟨v8, ev8, h⟩ := zb h
  refine z_get (j := 19) X dd_Mo_single_39 kc_12 ki_12 (by decide) km_1540 (zgi_v ev8) ?_
  refine z_if_eq (tgt := 46) X dd_Mo_single_42 (by decide) (fun q9 => ?_) (fun q9 => ?_)
  · rw [if_pos q9] at h
    refine z_bipush (v := 12) X dd_Mo_single_46 (by decide) ?_
    refine z_istore (lv' := [(4, .int 12), (3, .int q6.1), (0, .ref x0), (1, .int x1), (2, .int x2)]) X dd_Mo_single_48 (by decide) rfl ?_
    refine z_aload_n X dd_Mo_single_50 rfl 2 rfl ?_
    obtain ⟨w11, ew11, h⟩ := zb h
    obtain ⟨q10, eq10, h⟩ := zb h
    refine z_callVi X [] rfl dd_Mo_single_51 (c_Mo_kind l eq10) (cwV 0 X.1.2.2.2.2 (zg_V km_1912 km_1914 km_70 km_138 km_1915) rfl rfl rfl (by decide +kernel) ⟨Nat.le_of_ble_eq_true rfl, Nat.le_of_ble_eq_true rfl⟩) (zob_s ew11) kc_12 rfl (Nat.le_of_ble_eq_true rfl) ⟨Nat.le_of_ble_eq_true rfl, Nat.le_of_ble_eq_true rfl⟩ ?_
    refine z_iconst (v := 5) X dd_Mo_single_54 (by decide) ?_
    refine z_icmp_ne (tgt := 105) X dd_Mo_single_55 (by decide) (fun q12 => ?_) (fun q12 => ?_)
    · rw [if_neg q12] at h
      refine z_aload_n X dd_Mo_single_105 rfl 2 rfl ?_
      obtain ⟨v13, ev13, h⟩ := zb h
      refine z_get (j := 14) X dd_Mo_single_106 kc_12 ki_12 (by decide) km_1535 (zgr_v ev13) ?_
      refine z_aload_n X dd_Mo_single_109 rfl 2 rfl ?_
      obtain ⟨v14, ev14, h⟩ := zb h
      refine z_get (j := 18) X dd_Mo_single_110 kc_12 ki_12 (by decide) km_1539 (zgi_v ev14) ?_
      obtain ⟨v15, ev15, h⟩ := zb h
      refine z_iaload X dd_Mo_single_113 rfl ev15 ?_
      refine z_bipush (v := 95) X dd_Mo_single_114 (by decide) ?_
      refine z_icmp_eq (tgt := 123) X dd_Mo_single_116 (by decide) (fun q16 => ?_) (fun q16 => ?_)
      · rw [if_pos q16] at h
        refine z_sub [2, 3, 4, 1, 0] rfl ?_
        exact t_Mo_single_123 X H h
      · rw [if_neg q16] at h
        refine z_aload_n X dd_Mo_single_119 rfl 2 rfl ?_
        obtain ⟨w31, ew31, h⟩ := zb h
        obtain ⟨q30, eq30, h⟩ := zb h
        refine z_callVv X [] rfl dd_Mo_single_120 (c_Mo_wrong l eq30) (cwV 0 X.1.2.2.2.2 (zg_V km_1928 km_1930 km_74 km_138 km_1931) rfl rfl rfl (by decide +kernel) ⟨Nat.le_of_ble_eq_true rfl, Nat.le_of_ble_eq_true rfl⟩) (zob_s ew31) kc_12 rfl (Nat.le_of_ble_eq_true rfl) ⟨Nat.le_of_ble_eq_true rfl, Nat.le_of_ble_eq_true rfl⟩ ?_
        refine z_sub [2, 3, 4, 1, 0] rfl ?_
        exact t_Mo_single_123 X H h
    · rw [if_pos q12] at h
      refine z_aload_n X dd_Mo_single_58 rfl 2 rfl ?_
      obtain ⟨w33, ew33, h⟩ := zb h
      obtain ⟨q32, eq32, h⟩ := zb h
      refine z_callVv X [] rfl dd_Mo_single_59 (c_Mo_stands l eq32) (cwV 0 X.1.2.2.2.2 (zg_V km_1924 km_1926 km_73 km_138 km_1927) rfl rfl rfl (by decide +kernel) ⟨Nat.le_of_ble_eq_true rfl, Nat.le_of_ble_eq_true rfl⟩) (zob_s ew33) kc_12 rfl (Nat.le_of_ble_eq_true rfl) ⟨Nat.le_of_ble_eq_true rfl, Nat.le_of_ble_eq_true rfl⟩ ?_
      refine z_aload_n X dd_Mo_single_62 rfl 2 rfl ?_
      obtain ⟨v34, ev34, h⟩ := zb h
      refine z_get (j := 15) X dd_Mo_single_63 kc_12 ki_12 (by decide) km_1536 (zgr_v ev34) ?_
      refine z_aload_n X dd_Mo_single_66 rfl 2 rfl ?_
      obtain ⟨v35, ev35, h⟩ := zb h
      refine z_get (j := 18) X dd_Mo_single_67 kc_12 ki_12 (by decide) km_1539 (zgi_v ev35) ?_
      obtain ⟨v36, ev36, h⟩ := zb h
      refine z_iaload X dd_Mo_single_70 rfl ev36 ?_
      refine z_istore (lv' := [(4, .int v36), (3, .int q6.1), (0, .ref x0), (1, .int x1), (2, .int x2)]) X dd_Mo_single_71 (by decide) rfl ?_
      refine z_aload_n X dd_Mo_single_73 rfl 2 rfl ?_
      obtain ⟨v37, ev37, h⟩ := zb h
      refine z_get (j := 56) X dd_Mo_single_74 kc_12 ki_12 (by decide) km_1577 (zgi_v ev37) ?_
      refine z_if_le (tgt := 123) X dd_Mo_single_77 (by decide) (fun q38 => ?_) (fun q38 => ?_)
      · rw [if_pos q38] at h
        refine z_sub [2, 3, 4, 1, 0] rfl ?_
        exact t_Mo_single_123 X H h
      · rw [if_neg q38] at h
        refine z_iload X dd_Mo_single_80 0 rfl ?_
        refine z_bipush (v := 8) X dd_Mo_single_82 (by decide) ?_
        refine z_icmp_lt (tgt := 123) X dd_Mo_single_84 (by decide) (fun q39 => ?_) (fun q39 => ?_)
        · rw [if_pos q39] at h
          refine z_sub [2, 3, 4, 1, 0] rfl ?_
          exact t_Mo_single_123 X H h
        · rw [if_neg q39] at h
          refine z_aload_n X dd_Mo_single_87 rfl 2 rfl ?_
          refine z_bipush (v := 6) X dd_Mo_single_88 (by decide) ?_
          refine z_aload_n X dd_Mo_single_90 rfl 2 rfl ?_
          obtain ⟨v40, ev40, h⟩ := zb h
          refine z_get (j := 16) X dd_Mo_single_91 kc_12 ki_12 (by decide) km_1537 (zgr_v ev40) ?_
          refine z_aload_n X dd_Mo_single_94 rfl 2 rfl ?_
          obtain ⟨v41, ev41, h⟩ := zb h
          refine z_get (j := 18) X dd_Mo_single_95 kc_12 ki_12 (by decide) km_1539 (zgi_v ev41) ?_
          obtain ⟨v42, ev42, h⟩ := zb h
          refine z_iaload X dd_Mo_single_98 rfl ev42 ?_
          obtain ⟨w44, ew44, h⟩ := zb h
          obtain ⟨q43, eq43, h⟩ := zb h
          refine z_callVv X [.int 6, .int v42] rfl dd_Mo_single_99 (c_Mo_refuse l eq43) (cwV 2 X.1.2.2.2.2 (zg_V km_1916 km_1918 km_71 km_138 km_1919) rfl rfl rfl (by decide +kernel) ⟨Nat.le_of_ble_eq_true rfl, Nat.le_of_ble_eq_true rfl⟩) (zob_s ew44) kc_12 rfl (Nat.le_of_ble_eq_true rfl) ⟨Nat.le_of_ble_eq_true rfl, Nat.le_of_ble_eq_true rfl⟩ ?_
          refine z_goto (tgt := 123) X dd_Mo_single_102 (by decide) ?_
          refine z_sub [2, 3, 4, 1, 0] rfl ?_
          exact t_Mo_single_123 X H h
  · rw [if_neg q9] at h
    obtain rfl := Option.some.inj h
    exact z_vret X H.1 H.2.1 H.2.2.1 dd_Mo_single_45
set_option maxRecDepth 100000 in
set_option maxHeartbeats 4000000 in
theorem c_Mo_single (l : Launch) {nf : Nat} {a0 : Nat} {a1 : Int32} {c : Zc} {res : Zc} (h : f_Mo_single nf a0 a1 c = some res) : zM l yy_Mo_single ww_Mo_single 5 109 0 0 [.ref a0, .int a1] c (fun D cid B => zQv D cid B res c.length 0) := by
  refine z_met (cc := bb_Mo_single) (maxL := 5) (ret := none) (by decide +kernel) rfl (Nat.le_of_ble_eq_true rfl) ?_
  intro p e s m args below meth cd D cid B X h1 h2 h3 h4
  have X : zX p s m args cd D cid B bb_Mo_single 5 rr_Mo zT := X
  have H : zH s meth B c.length none "single" := ⟨h1, h2, h4, h3⟩
  unfold f_Mo_single at h
  show Zz p l e (zRm 5 109 0 0) s m args below meth cd _ D cid B 5 0 0 c 0 [(0, .ref a0), (1, .int a1)] []
  refine z_aload_n X dd_Mo_single_0 rfl 0 rfl ?_
  obtain ⟨v1, ev1, h⟩ := zb h
  refine z_get (j := 39) X dd_Mo_single_1 kc_12 ki_12 (by decide) km_1560 (zgr_v ev1) ?_
  refine z_iload_n X dd_Mo_single_4 rfl 1 rfl ?_
  obtain ⟨v2, ev2, h⟩ := zb h
  refine z_iaload X dd_Mo_single_5 rfl ev2 ?_
  refine z_istore_n (lv' := [(2, .int v2), (0, .ref a0), (1, .int a1)]) X dd_Mo_single_6 rfl (by decide) rfl ?_
  refine z_aload_n X dd_Mo_single_7 rfl 1 rfl ?_
  obtain ⟨w4, ew4, h⟩ := zb h
  obtain ⟨q3, eq3, h⟩ := zb h
  refine z_callVv X [] rfl dd_Mo_single_8 (c_Mo_stands l eq3) (cwV 0 X.1.2.2.2.2 (zg_V km_1924 km_1926 km_73 km_138 km_1927) rfl rfl rfl (by decide +kernel) ⟨Nat.le_of_ble_eq_true rfl, Nat.le_of_ble_eq_true rfl⟩) (zob_s ew4) kc_12 rfl (Nat.le_of_ble_eq_true rfl) ⟨Nat.le_of_ble_eq_true rfl, Nat.le_of_ble_eq_true rfl⟩ ?_
  refine z_iload_n X dd_Mo_single_11 rfl 0 rfl ?_
  refine z_bipush (v := 16) X dd_Mo_single_12 (by decide) ?_
  refine z_icmp_ne (tgt := 31) X dd_Mo_single_14 (by decide) (fun q5 => ?_) (fun q5 => ?_)
  · rw [if_neg q5] at h
    refine z_sub [1, 2, 0] rfl ?_
    exact t_Mo_single_31 X H h
  · rw [if_pos q5] at h
    refine z_aload_n X dd_Mo_single_17 rfl 1 rfl ?_
    refine z_iconst (v := 3) X dd_Mo_single_18 (by decide) ?_
    refine z_aload_n X dd_Mo_single_19 rfl 1 rfl ?_
    obtain ⟨v45, ev45, h⟩ := zb h
    refine z_get (j := 16) X dd_Mo_single_20 kc_12 ki_12 (by decide) km_1537 (zgr_v ev45) ?_
    refine z_aload_n X dd_Mo_single_23 rfl 1 rfl ?_
    obtain ⟨v46, ev46, h⟩ := zb h
    refine z_get (j := 18) X dd_Mo_single_24 kc_12 ki_12 (by decide) km_1539 (zgi_v ev46) ?_
    obtain ⟨v47, ev47, h⟩ := zb h
    refine z_iaload X dd_Mo_single_27 rfl ev47 ?_
    obtain ⟨w49, ew49, h⟩ := zb h
    obtain ⟨q48, eq48, h⟩ := zb h
    refine z_callVv X [.int 3, .int v47] rfl dd_Mo_single_28 (c_Mo_refuse l eq48) (cwV 2 X.1.2.2.2.2 (zg_V km_1916 km_1918 km_71 km_138 km_1919) rfl rfl rfl (by decide +kernel) ⟨Nat.le_of_ble_eq_true rfl, Nat.le_of_ble_eq_true rfl⟩) (zob_s ew49) kc_12 rfl (Nat.le_of_ble_eq_true rfl) ⟨Nat.le_of_ble_eq_true rfl, Nat.le_of_ble_eq_true rfl⟩ ?_
    refine z_sub [1, 2, 0] rfl ?_
    exact t_Mo_single_31 X H h
theorem dd_Mo_endRow_0 : decode bb_Mo_endRow 0 = .ok (.aload_n 0, 1) := by decide +kernel
theorem dd_Mo_endRow_1 : decode bb_Mo_endRow 1 = .ok (.getfield 149, 3) := by decide +kernel
theorem dd_Mo_endRow_4 : decode bb_Mo_endRow 4 = .ok (.iload_n 1, 1) := by decide +kernel
theorem dd_Mo_endRow_5 : decode bb_Mo_endRow 5 = .ok (.dup2, 1) := by decide +kernel
theorem dd_Mo_endRow_6 : decode bb_Mo_endRow 6 = .ok (.baload, 1) := by decide +kernel
theorem dd_Mo_endRow_7 : decode bb_Mo_endRow 7 = .ok (.aload_n 0, 1) := by decide +kernel
theorem dd_Mo_endRow_8 : decode bb_Mo_endRow 8 = .ok (.getfield 158, 3) := by decide +kernel
theorem dd_Mo_endRow_11 : decode bb_Mo_endRow 11 = .ok (.iload_n 1, 1) := by decide +kernel
theorem dd_Mo_endRow_12 : decode bb_Mo_endRow 12 = .ok (.baload, 1) := by decide +kernel
theorem dd_Mo_endRow_13 : decode bb_Mo_endRow 13 = .ok (.ior, 1) := by decide +kernel
theorem dd_Mo_endRow_14 : decode bb_Mo_endRow 14 = .ok (.bastore, 1) := by decide +kernel
theorem dd_Mo_endRow_15 : decode bb_Mo_endRow 15 = .ok (.aload_n 0, 1) := by decide +kernel
theorem dd_Mo_endRow_16 : decode bb_Mo_endRow 16 = .ok (.getfield 152, 3) := by decide +kernel
theorem dd_Mo_endRow_19 : decode bb_Mo_endRow 19 = .ok (.iload_n 1, 1) := by decide +kernel
theorem dd_Mo_endRow_20 : decode bb_Mo_endRow 20 = .ok (.dup2, 1) := by decide +kernel
theorem dd_Mo_endRow_21 : decode bb_Mo_endRow 21 = .ok (.iaload, 1) := by decide +kernel
theorem dd_Mo_endRow_22 : decode bb_Mo_endRow 22 = .ok (.aload_n 0, 1) := by decide +kernel
theorem dd_Mo_endRow_23 : decode bb_Mo_endRow 23 = .ok (.getfield 161, 3) := by decide +kernel
theorem dd_Mo_endRow_26 : decode bb_Mo_endRow 26 = .ok (.iload_n 1, 1) := by decide +kernel
theorem dd_Mo_endRow_27 : decode bb_Mo_endRow 27 = .ok (.iaload, 1) := by decide +kernel
theorem dd_Mo_endRow_28 : decode bb_Mo_endRow 28 = .ok (.ior, 1) := by decide +kernel
theorem dd_Mo_endRow_29 : decode bb_Mo_endRow 29 = .ok (.iastore, 1) := by decide +kernel
theorem dd_Mo_endRow_30 : decode bb_Mo_endRow 30 = .ok (.aload_n 0, 1) := by decide +kernel
theorem dd_Mo_endRow_31 : decode bb_Mo_endRow 31 = .ok (.getfield 155, 3) := by decide +kernel
theorem dd_Mo_endRow_34 : decode bb_Mo_endRow 34 = .ok (.iload_n 1, 1) := by decide +kernel
theorem dd_Mo_endRow_35 : decode bb_Mo_endRow 35 = .ok (.dup2, 1) := by decide +kernel
theorem dd_Mo_endRow_36 : decode bb_Mo_endRow 36 = .ok (.iaload, 1) := by decide +kernel
theorem dd_Mo_endRow_37 : decode bb_Mo_endRow 37 = .ok (.aload_n 0, 1) := by decide +kernel
theorem dd_Mo_endRow_38 : decode bb_Mo_endRow 38 = .ok (.getfield 164, 3) := by decide +kernel
theorem dd_Mo_endRow_41 : decode bb_Mo_endRow 41 = .ok (.iload_n 1, 1) := by decide +kernel
theorem dd_Mo_endRow_42 : decode bb_Mo_endRow 42 = .ok (.iaload, 1) := by decide +kernel
theorem dd_Mo_endRow_43 : decode bb_Mo_endRow 43 = .ok (.ior, 1) := by decide +kernel
theorem dd_Mo_endRow_44 : decode bb_Mo_endRow 44 = .ok (.iastore, 1) := by decide +kernel
theorem dd_Mo_endRow_45 : decode bb_Mo_endRow 45 = .ok (.return_, 1) := by decide +kernel
set_option maxRecDepth 100000 in
set_option maxHeartbeats 4000000 in
theorem c_Mo_endRow (l : Launch) {nf : Nat} {a0 : Nat} {a1 : Int32} {c : Zc} {res : Zc} (h : f_Mo_endRow nf a0 a1 c = some res) : zM l yy_Mo_endRow ww_Mo_endRow 0 0 0 0 [.ref a0, .int a1] c (fun D cid B => zQv D cid B res c.length 0) := by
  refine z_met (cc := bb_Mo_endRow) (maxL := 2) (ret := none) (by decide +kernel) rfl (Nat.le_of_ble_eq_true rfl) ?_
  intro p e s m args below meth cd D cid B X h1 h2 h3 h4
  have X : zX p s m args cd D cid B bb_Mo_endRow 2 rr_Mo zT := X
  have H : zH s meth B c.length none "endRow" := ⟨h1, h2, h4, h3⟩
  unfold f_Mo_endRow at h
  show Zz p l e (zRm 0 0 0 0) s m args below meth cd _ D cid B 2 0 0 c 0 [(0, .ref a0), (1, .int a1)] []
  refine z_aload_n X dd_Mo_endRow_0 rfl 0 rfl ?_
  obtain ⟨v1, ev1, h⟩ := zb h
  refine z_get (j := 58) X dd_Mo_endRow_1 kc_12 ki_12 (by decide) km_1579 (zgr_v ev1) ?_
  refine z_iload_n X dd_Mo_endRow_4 rfl 1 rfl ?_
  refine z_dup2_11 X dd_Mo_endRow_5 rfl rfl ?_
  obtain ⟨v2, ev2, h⟩ := zb h
  refine z_zaload X dd_Mo_endRow_6 rfl ev2 ?_
  refine z_aload_n X dd_Mo_endRow_7 rfl 0 rfl ?_
  obtain ⟨v3, ev3, h⟩ := zb h
  refine z_get (j := 61) X dd_Mo_endRow_8 kc_12 ki_12 (by decide) km_1582 (zgr_v ev3) ?_
  refine z_iload_n X dd_Mo_endRow_11 rfl 1 rfl ?_
  obtain ⟨v4, ev4, h⟩ := zb h
  refine z_zaload X dd_Mo_endRow_12 rfl ev4 ?_
  refine z_ior X dd_Mo_endRow_13 ?_
  obtain ⟨c5, ec5, h⟩ := zb h
  refine z_zastore X dd_Mo_endRow_14 rfl ec5 ?_
  refine z_aload_n X dd_Mo_endRow_15 rfl 0 rfl ?_
  obtain ⟨v6, ev6, h⟩ := zb h
  refine z_get (j := 59) X dd_Mo_endRow_16 kc_12 ki_12 (by decide) km_1580 (zgr_v ev6) ?_
  refine z_iload_n X dd_Mo_endRow_19 rfl 1 rfl ?_
  refine z_dup2_11 X dd_Mo_endRow_20 rfl rfl ?_
  obtain ⟨v7, ev7, h⟩ := zb h
  refine z_iaload X dd_Mo_endRow_21 rfl ev7 ?_
  refine z_aload_n X dd_Mo_endRow_22 rfl 0 rfl ?_
  obtain ⟨v8, ev8, h⟩ := zb h
  refine z_get (j := 62) X dd_Mo_endRow_23 kc_12 ki_12 (by decide) km_1583 (zgr_v ev8) ?_
  refine z_iload_n X dd_Mo_endRow_26 rfl 1 rfl ?_
  obtain ⟨v9, ev9, h⟩ := zb h
  refine z_iaload X dd_Mo_endRow_27 rfl ev9 ?_
  refine z_ior X dd_Mo_endRow_28 ?_
  obtain ⟨c10, ec10, h⟩ := zb h
  refine z_iastore X dd_Mo_endRow_29 rfl ec10 ?_
  refine z_aload_n X dd_Mo_endRow_30 rfl 0 rfl ?_
  obtain ⟨v11, ev11, h⟩ := zb h
  refine z_get (j := 60) X dd_Mo_endRow_31 kc_12 ki_12 (by decide) km_1581 (zgr_v ev11) ?_
  refine z_iload_n X dd_Mo_endRow_34 rfl 1 rfl ?_
  refine z_dup2_11 X dd_Mo_endRow_35 rfl rfl ?_
  obtain ⟨v12, ev12, h⟩ := zb h
  refine z_iaload X dd_Mo_endRow_36 rfl ev12 ?_
  refine z_aload_n X dd_Mo_endRow_37 rfl 0 rfl ?_
  obtain ⟨v13, ev13, h⟩ := zb h
  refine z_get (j := 63) X dd_Mo_endRow_38 kc_12 ki_12 (by decide) km_1584 (zgr_v ev13) ?_
  refine z_iload_n X dd_Mo_endRow_41 rfl 1 rfl ?_
  obtain ⟨v14, ev14, h⟩ := zb h
  refine z_iaload X dd_Mo_endRow_42 rfl ev14 ?_
  refine z_ior X dd_Mo_endRow_43 ?_
  obtain ⟨c15, ec15, h⟩ := zb h
  refine z_iastore X dd_Mo_endRow_44 rfl ec15 ?_
  obtain rfl := Option.some.inj h
  exact z_vret X H.1 H.2.1 H.2.2.1 dd_Mo_endRow_45
theorem dd_Mo_rows_0 : decode bb_Mo_rows 0 = .ok (.aload_n 0, 1) := by decide +kernel
theorem dd_Mo_rows_1 : decode bb_Mo_rows 1 = .ok (.getfield 104, 3) := by decide +kernel
theorem dd_Mo_rows_4 : decode bb_Mo_rows 4 = .ok (.iload_n 1, 1) := by decide +kernel
theorem dd_Mo_rows_5 : decode bb_Mo_rows 5 = .ok (.iconst 0, 1) := by decide +kernel
theorem dd_Mo_rows_6 : decode bb_Mo_rows 6 = .ok (.iastore, 1) := by decide +kernel
theorem dd_Mo_rows_7 : decode bb_Mo_rows 7 = .ok (.iconst 0, 1) := by decide +kernel
theorem dd_Mo_rows_8 : decode bb_Mo_rows 8 = .ok (.istore_n 2, 1) := by decide +kernel
theorem dd_Mo_rows_9 : decode bb_Mo_rows 9 = .ok (.iload_n 2, 1) := by decide +kernel
theorem dd_Mo_rows_10 : decode bb_Mo_rows 10 = .ok (.bipush 16, 2) := by decide +kernel
theorem dd_Mo_rows_12 : decode bb_Mo_rows 12 = .ok (.if_icmp .ge 21, 3) := by decide +kernel
theorem dd_Mo_rows_15 : decode bb_Mo_rows 15 = .ok (.aload_n 0, 1) := by decide +kernel
theorem dd_Mo_rows_16 : decode bb_Mo_rows 16 = .ok (.getfield 113, 3) := by decide +kernel
theorem dd_Mo_rows_19 : decode bb_Mo_rows 19 = .ok (.bipush 16, 2) := by decide +kernel
theorem dd_Mo_rows_21 : decode bb_Mo_rows 21 = .ok (.iload_n 1, 1) := by decide +kernel
theorem dd_Mo_rows_22 : decode bb_Mo_rows 22 = .ok (.imul, 1) := by decide +kernel
theorem dd_Mo_rows_23 : decode bb_Mo_rows 23 = .ok (.iload_n 2, 1) := by decide +kernel
theorem dd_Mo_rows_24 : decode bb_Mo_rows 24 = .ok (.iadd, 1) := by decide +kernel
theorem dd_Mo_rows_25 : decode bb_Mo_rows 25 = .ok (.iconst 0, 1) := by decide +kernel
theorem dd_Mo_rows_26 : decode bb_Mo_rows 26 = .ok (.iastore, 1) := by decide +kernel
theorem dd_Mo_rows_27 : decode bb_Mo_rows 27 = .ok (.iinc 2 1, 3) := by decide +kernel
theorem dd_Mo_rows_30 : decode bb_Mo_rows 30 = .ok (.goto (-21), 3) := by decide +kernel
theorem dd_Mo_rows_33 : decode bb_Mo_rows 33 = .ok (.aload_n 0, 1) := by decide +kernel
theorem dd_Mo_rows_34 : decode bb_Mo_rows 34 = .ok (.iconst 0, 1) := by decide +kernel
theorem dd_Mo_rows_35 : decode bb_Mo_rows 35 = .ok (.putfield 360, 3) := by decide +kernel
theorem dd_Mo_rows_38 : decode bb_Mo_rows 38 = .ok (.aload_n 0, 1) := by decide +kernel
theorem dd_Mo_rows_39 : decode bb_Mo_rows 39 = .ok (.invokevirtual 370, 3) := by decide +kernel
theorem dd_Mo_rows_42 : decode bb_Mo_rows 42 = .ok (.iconst 1, 1) := by decide +kernel
theorem dd_Mo_rows_43 : decode bb_Mo_rows 43 = .ok (.istore_n 2, 1) := by decide +kernel
theorem dd_Mo_rows_44 : decode bb_Mo_rows 44 = .ok (.iload_n 2, 1) := by decide +kernel
theorem dd_Mo_rows_45 : decode bb_Mo_rows 45 = .ok (.ifCond .eq 184, 3) := by decide +kernel
theorem dd_Mo_rows_48 : decode bb_Mo_rows 48 = .ok (.aload_n 0, 1) := by decide +kernel
theorem dd_Mo_rows_49 : decode bb_Mo_rows 49 = .ok (.getfield 294, 3) := by decide +kernel
theorem dd_Mo_rows_52 : decode bb_Mo_rows 52 = .ok (.ifCond .ne 177, 3) := by decide +kernel
theorem dd_Mo_rows_55 : decode bb_Mo_rows 55 = .ok (.aload_n 0, 1) := by decide +kernel
theorem dd_Mo_rows_56 : decode bb_Mo_rows 56 = .ok (.getfield 360, 3) := by decide +kernel
theorem dd_Mo_rows_59 : decode bb_Mo_rows 59 = .ok (.iconst 1, 1) := by decide +kernel
theorem dd_Mo_rows_60 : decode bb_Mo_rows 60 = .ok (.isub, 1) := by decide +kernel
theorem dd_Mo_rows_61 : decode bb_Mo_rows 61 = .ok (.istore_n 3, 1) := by decide +kernel
theorem dd_Mo_rows_62 : decode bb_Mo_rows 62 = .ok (.aload_n 0, 1) := by decide +kernel
theorem dd_Mo_rows_63 : decode bb_Mo_rows 63 = .ok (.invokevirtual 306, 3) := by decide +kernel
theorem dd_Mo_rows_66 : decode bb_Mo_rows 66 = .ok (.istore 4, 2) := by decide +kernel
theorem dd_Mo_rows_68 : decode bb_Mo_rows 68 = .ok (.iload 4, 2) := by decide +kernel
theorem dd_Mo_rows_70 : decode bb_Mo_rows 70 = .ok (.bipush 40, 2) := by decide +kernel
theorem dd_Mo_rows_72 : decode bb_Mo_rows 72 = .ok (.if_icmp .ne 18, 3) := by decide +kernel
theorem dd_Mo_rows_75 : decode bb_Mo_rows 75 = .ok (.aload_n 0, 1) := by decide +kernel
theorem dd_Mo_rows_76 : decode bb_Mo_rows 76 = .ok (.invokevirtual 313, 3) := by decide +kernel
theorem dd_Mo_rows_79 : decode bb_Mo_rows 79 = .ok (.aload_n 0, 1) := by decide +kernel
theorem dd_Mo_rows_80 : decode bb_Mo_rows 80 = .ok (.invokevirtual 373, 3) := by decide +kernel
theorem dd_Mo_rows_83 : decode bb_Mo_rows 83 = .ok (.aload_n 0, 1) := by decide +kernel
theorem dd_Mo_rows_84 : decode bb_Mo_rows 84 = .ok (.invokevirtual 370, 3) := by decide +kernel
theorem dd_Mo_rows_87 : decode bb_Mo_rows 87 = .ok (.goto 139, 3) := by decide +kernel
theorem dd_Mo_rows_90 : decode bb_Mo_rows 90 = .ok (.iload 4, 2) := by decide +kernel
theorem dd_Mo_rows_92 : decode bb_Mo_rows 92 = .ok (.iconst 5, 1) := by decide +kernel
theorem dd_Mo_rows_93 : decode bb_Mo_rows 93 = .ok (.if_icmp .eq 17, 3) := by decide +kernel
theorem dd_Mo_rows_96 : decode bb_Mo_rows 96 = .ok (.iload 4, 2) := by decide +kernel
theorem dd_Mo_rows_98 : decode bb_Mo_rows 98 = .ok (.bipush 95, 2) := by decide +kernel
theorem dd_Mo_rows_100 : decode bb_Mo_rows 100 = .ok (.if_icmp .eq 10, 3) := by decide +kernel
theorem dd_Mo_rows_103 : decode bb_Mo_rows 103 = .ok (.iload 4, 2) := by decide +kernel
theorem dd_Mo_rows_105 : decode bb_Mo_rows 105 = .ok (.bipush 94, 2) := by decide +kernel
theorem dd_Mo_rows_107 : decode bb_Mo_rows 107 = .ok (.if_icmp .ne 11, 3) := by decide +kernel
theorem dd_Mo_rows_110 : decode bb_Mo_rows 110 = .ok (.aload_n 0, 1) := by decide +kernel
theorem dd_Mo_rows_111 : decode bb_Mo_rows 111 = .ok (.iload_n 1, 1) := by decide +kernel
theorem dd_Mo_rows_112 : decode bb_Mo_rows 112 = .ok (.invokevirtual 376, 3) := by decide +kernel
theorem dd_Mo_rows_115 : decode bb_Mo_rows 115 = .ok (.goto 111, 3) := by decide +kernel
theorem dd_Mo_rows_118 : decode bb_Mo_rows 118 = .ok (.aload_n 0, 1) := by decide +kernel
theorem dd_Mo_rows_119 : decode bb_Mo_rows 119 = .ok (.getfield 167, 3) := by decide +kernel
theorem dd_Mo_rows_122 : decode bb_Mo_rows 122 = .ok (.iload_n 3, 1) := by decide +kernel
theorem dd_Mo_rows_123 : decode bb_Mo_rows 123 = .ok (.baload, 1) := by decide +kernel
theorem dd_Mo_rows_124 : decode bb_Mo_rows 124 = .ok (.ifCond .ne 10, 3) := by decide +kernel
theorem dd_Mo_rows_127 : decode bb_Mo_rows 127 = .ok (.aload_n 0, 1) := by decide +kernel
theorem dd_Mo_rows_128 : decode bb_Mo_rows 128 = .ok (.invokevirtual 319, 3) := by decide +kernel
theorem dd_Mo_rows_131 : decode bb_Mo_rows 131 = .ok (.goto 95, 3) := by decide +kernel
theorem dd_Mo_rows_134 : decode bb_Mo_rows 134 = .ok (.iload 4, 2) := by decide +kernel
theorem dd_Mo_rows_136 : decode bb_Mo_rows 136 = .ok (.bipush 124, 2) := by decide +kernel
theorem dd_Mo_rows_138 : decode bb_Mo_rows 138 = .ok (.if_icmp .ne 20, 3) := by decide +kernel
theorem dd_Mo_rows_141 : decode bb_Mo_rows 141 = .ok (.aload_n 0, 1) := by decide +kernel
theorem dd_Mo_rows_142 : decode bb_Mo_rows 142 = .ok (.invokevirtual 313, 3) := by decide +kernel
theorem dd_Mo_rows_145 : decode bb_Mo_rows 145 = .ok (.aload_n 0, 1) := by decide +kernel
theorem dd_Mo_rows_146 : decode bb_Mo_rows 146 = .ok (.iload_n 3, 1) := by decide +kernel
theorem dd_Mo_rows_147 : decode bb_Mo_rows 147 = .ok (.invokevirtual 379, 3) := by decide +kernel
theorem dd_Mo_rows_150 : decode bb_Mo_rows 150 = .ok (.aload_n 0, 1) := by decide +kernel
theorem dd_Mo_rows_151 : decode bb_Mo_rows 151 = .ok (.iload_n 3, 1) := by decide +kernel
theorem dd_Mo_rows_152 : decode bb_Mo_rows 152 = .ok (.invokevirtual 363, 3) := by decide +kernel
theorem dd_Mo_rows_155 : decode bb_Mo_rows 155 = .ok (.goto 71, 3) := by decide +kernel
theorem dd_Mo_rows_158 : decode bb_Mo_rows 158 = .ok (.iload_n 3, 1) := by decide +kernel
theorem dd_Mo_rows_159 : decode bb_Mo_rows 159 = .ok (.ifCond .le 60, 3) := by decide +kernel
theorem dd_Mo_rows_162 : decode bb_Mo_rows 162 = .ok (.aload_n 0, 1) := by decide +kernel
theorem dd_Mo_rows_163 : decode bb_Mo_rows 163 = .ok (.bipush 41, 2) := by decide +kernel
theorem dd_Mo_rows_165 : decode bb_Mo_rows 165 = .ok (.invokevirtual 334, 3) := by decide +kernel
theorem dd_Mo_rows_168 : decode bb_Mo_rows 168 = .ok (.aload_n 0, 1) := by decide +kernel
theorem dd_Mo_rows_169 : decode bb_Mo_rows 169 = .ok (.iload_n 3, 1) := by decide +kernel
theorem dd_Mo_rows_170 : decode bb_Mo_rows 170 = .ok (.invokevirtual 379, 3) := by decide +kernel
theorem dd_Mo_rows_173 : decode bb_Mo_rows 173 = .ok (.aload_n 0, 1) := by decide +kernel
theorem dd_Mo_rows_174 : decode bb_Mo_rows 174 = .ok (.dup, 1) := by decide +kernel
theorem dd_Mo_rows_175 : decode bb_Mo_rows 175 = .ok (.getfield 360, 3) := by decide +kernel
theorem dd_Mo_rows_178 : decode bb_Mo_rows 178 = .ok (.iconst 1, 1) := by decide +kernel
theorem dd_Mo_rows_179 : decode bb_Mo_rows 179 = .ok (.isub, 1) := by decide +kernel
theorem dd_Mo_rows_180 : decode bb_Mo_rows 180 = .ok (.putfield 360, 3) := by decide +kernel
theorem dd_Mo_rows_183 : decode bb_Mo_rows 183 = .ok (.aload_n 0, 1) := by decide +kernel
theorem dd_Mo_rows_184 : decode bb_Mo_rows 184 = .ok (.dup, 1) := by decide +kernel
theorem dd_Mo_rows_185 : decode bb_Mo_rows 185 = .ok (.getfield 322, 3) := by decide +kernel
theorem dd_Mo_rows_188 : decode bb_Mo_rows 188 = .ok (.iconst 1, 1) := by decide +kernel
theorem dd_Mo_rows_189 : decode bb_Mo_rows 189 = .ok (.isub, 1) := by decide +kernel
theorem dd_Mo_rows_190 : decode bb_Mo_rows 190 = .ok (.putfield 322, 3) := by decide +kernel
theorem dd_Mo_rows_193 : decode bb_Mo_rows 193 = .ok (.aload_n 0, 1) := by decide +kernel
theorem dd_Mo_rows_194 : decode bb_Mo_rows 194 = .ok (.iload_n 1, 1) := by decide +kernel
theorem dd_Mo_rows_195 : decode bb_Mo_rows 195 = .ok (.aload_n 0, 1) := by decide +kernel
theorem dd_Mo_rows_196 : decode bb_Mo_rows 196 = .ok (.getfield 149, 3) := by decide +kernel
theorem dd_Mo_rows_199 : decode bb_Mo_rows 199 = .ok (.iload_n 3, 1) := by decide +kernel
theorem dd_Mo_rows_200 : decode bb_Mo_rows 200 = .ok (.baload, 1) := by decide +kernel
theorem dd_Mo_rows_201 : decode bb_Mo_rows 201 = .ok (.aload_n 0, 1) := by decide +kernel
theorem dd_Mo_rows_202 : decode bb_Mo_rows 202 = .ok (.getfield 152, 3) := by decide +kernel
theorem dd_Mo_rows_205 : decode bb_Mo_rows 205 = .ok (.iload_n 3, 1) := by decide +kernel
theorem dd_Mo_rows_206 : decode bb_Mo_rows 206 = .ok (.iaload, 1) := by decide +kernel
theorem dd_Mo_rows_207 : decode bb_Mo_rows 207 = .ok (.aload_n 0, 1) := by decide +kernel
theorem dd_Mo_rows_208 : decode bb_Mo_rows 208 = .ok (.getfield 155, 3) := by decide +kernel
theorem dd_Mo_rows_211 : decode bb_Mo_rows 211 = .ok (.iload_n 3, 1) := by decide +kernel
theorem dd_Mo_rows_212 : decode bb_Mo_rows 212 = .ok (.iaload, 1) := by decide +kernel
theorem dd_Mo_rows_213 : decode bb_Mo_rows 213 = .ok (.invokevirtual 382, 3) := by decide +kernel
theorem dd_Mo_rows_216 : decode bb_Mo_rows 216 = .ok (.goto 10, 3) := by decide +kernel
theorem dd_Mo_rows_219 : decode bb_Mo_rows 219 = .ok (.aload_n 0, 1) := by decide +kernel
theorem dd_Mo_rows_220 : decode bb_Mo_rows 220 = .ok (.iconst 0, 1) := by decide +kernel
theorem dd_Mo_rows_221 : decode bb_Mo_rows 221 = .ok (.invokevirtual 379, 3) := by decide +kernel
theorem dd_Mo_rows_224 : decode bb_Mo_rows 224 = .ok (.iconst 0, 1) := by decide +kernel
theorem dd_Mo_rows_225 : decode bb_Mo_rows 225 = .ok (.istore_n 2, 1) := by decide +kernel
theorem dd_Mo_rows_226 : decode bb_Mo_rows 226 = .ok (.goto (-182), 3) := by decide +kernel
theorem dd_Mo_rows_229 : decode bb_Mo_rows 229 = .ok (.aload_n 0, 1) := by decide +kernel
theorem dd_Mo_rows_230 : decode bb_Mo_rows 230 = .ok (.getfield 95, 3) := by decide +kernel
theorem dd_Mo_rows_233 : decode bb_Mo_rows 233 = .ok (.iload_n 1, 1) := by decide +kernel
theorem dd_Mo_rows_234 : decode bb_Mo_rows 234 = .ok (.aload_n 0, 1) := by decide +kernel
theorem dd_Mo_rows_235 : decode bb_Mo_rows 235 = .ok (.getfield 149, 3) := by decide +kernel
theorem dd_Mo_rows_238 : decode bb_Mo_rows 238 = .ok (.iconst 0, 1) := by decide +kernel
theorem dd_Mo_rows_239 : decode bb_Mo_rows 239 = .ok (.baload, 1) := by decide +kernel
theorem dd_Mo_rows_240 : decode bb_Mo_rows 240 = .ok (.bastore, 1) := by decide +kernel
theorem dd_Mo_rows_241 : decode bb_Mo_rows 241 = .ok (.aload_n 0, 1) := by decide +kernel
theorem dd_Mo_rows_242 : decode bb_Mo_rows 242 = .ok (.getfield 98, 3) := by decide +kernel
theorem dd_Mo_rows_245 : decode bb_Mo_rows 245 = .ok (.iload_n 1, 1) := by decide +kernel
theorem dd_Mo_rows_246 : decode bb_Mo_rows 246 = .ok (.aload_n 0, 1) := by decide +kernel
theorem dd_Mo_rows_247 : decode bb_Mo_rows 247 = .ok (.getfield 152, 3) := by decide +kernel
theorem dd_Mo_rows_250 : decode bb_Mo_rows 250 = .ok (.iconst 0, 1) := by decide +kernel
theorem dd_Mo_rows_251 : decode bb_Mo_rows 251 = .ok (.iaload, 1) := by decide +kernel
theorem dd_Mo_rows_252 : decode bb_Mo_rows 252 = .ok (.iastore, 1) := by decide +kernel
theorem dd_Mo_rows_253 : decode bb_Mo_rows 253 = .ok (.aload_n 0, 1) := by decide +kernel
theorem dd_Mo_rows_254 : decode bb_Mo_rows 254 = .ok (.getfield 101, 3) := by decide +kernel
theorem dd_Mo_rows_257 : decode bb_Mo_rows 257 = .ok (.iload_n 1, 1) := by decide +kernel
theorem dd_Mo_rows_258 : decode bb_Mo_rows 258 = .ok (.aload_n 0, 1) := by decide +kernel
theorem dd_Mo_rows_259 : decode bb_Mo_rows 259 = .ok (.getfield 155, 3) := by decide +kernel
theorem dd_Mo_rows_262 : decode bb_Mo_rows 262 = .ok (.iconst 0, 1) := by decide +kernel
theorem dd_Mo_rows_263 : decode bb_Mo_rows 263 = .ok (.iaload, 1) := by decide +kernel
theorem dd_Mo_rows_264 : decode bb_Mo_rows 264 = .ok (.iastore, 1) := by decide +kernel
theorem dd_Mo_rows_265 : decode bb_Mo_rows 265 = .ok (.return_, 1) := by decide +kernel
set_option maxRecDepth 100000 in
set_option maxHeartbeats 4000000 in
theorem u_Mo_rows_9  (X : zX p s m args cd D cid B bb_Mo_rows 5 rr_Mo zT) (H : zH s meth B n0 none "rows") {nf : Nat} {x0 : Nat} {x1 : Int32} {x2 : Int32} {c : Zc} {r : (Nat × Int32 × Int32 × Zc) ⊕ (Nat × Int32 × Zc)} (h : g_Mo_rows_9 nf x0 x1 x2 c = some r) (k0 : ∀ a, r = .inl a → (fun a : Nat × Int32 × Int32 × Zc => Zz p l e (zRm 6 133 0 0) s m args below meth cd Q D cid B 5 0 0 a.2.2.2 9 [(0, .ref a.1), (1, .int a.2.1), (2, .int a.2.2.1)] []) a) (k1 : ∀ b, r = .inr b → (fun b : Nat × Int32 × Zc => Zz p l e (zRm 6 133 0 0) s m args below meth cd Q D cid B 5 0 0 b.2.2 33 [(0, .ref b.1), (1, .int b.2.1)] []) b) : Zz p l e (zRm 6 133 0 0) s m args below meth cd Q D cid B 5 0 0 c 9 [(0, .ref x0), (1, .int x1), (2, .int x2)] [] := by
  unfold g_Mo_rows_9 at h
  refine z_iload_n X dd_Mo_rows_9 rfl 2 rfl ?_
  refine z_bipush (v := 16) X dd_Mo_rows_10 (by decide) ?_
  refine z_icmp_ge (tgt := 33) X dd_Mo_rows_12 (by decide) (fun q3 => ?_) (fun q3 => ?_)
  · rw [if_pos q3] at h
    refine z_sub [0, 1] rfl ?_
    obtain rfl := Option.some.inj h
    exact k1 _ rfl
  · rw [if_neg q3] at h
    refine z_aload_n X dd_Mo_rows_15 rfl 0 rfl ?_
    obtain ⟨v4, ev4, h⟩ := zb h
    refine z_get (j := 42) X dd_Mo_rows_16 kc_12 ki_12 (by decide) km_1563 (zgr_v ev4) ?_
    refine z_bipush (v := 16) X dd_Mo_rows_19 (by decide) ?_
    refine z_iload_n X dd_Mo_rows_21 rfl 1 rfl ?_
    refine z_imul X dd_Mo_rows_22 ?_
    refine z_iload_n X dd_Mo_rows_23 rfl 2 rfl ?_
    refine z_iadd X dd_Mo_rows_24 ?_
    refine z_iconst (v := 0) X dd_Mo_rows_25 (by decide) ?_
    obtain ⟨c5, ec5, h⟩ := zb h
    refine z_iastore X dd_Mo_rows_26 rfl ec5 ?_
    refine z_iinc (v := (x2 + 1)) (lv' := [(2, .int (x2 + 1)), (0, .ref x0), (1, .int x1)]) X dd_Mo_rows_27 2 rfl rfl (by decide) rfl ?_
    refine z_goto (tgt := 9) X dd_Mo_rows_30 (by decide) ?_
    refine z_sub [1, 2, 0] rfl ?_
    obtain rfl := Option.some.inj h
    exact k0 _ rfl
set_option maxRecDepth 100000 in
set_option maxHeartbeats 4000000 in
theorem t_Mo_rows_226  (X : zX p s m args cd D cid B bb_Mo_rows 5 rr_Mo zT) (H : zH s meth B n0 none "rows") {nf : Nat} {x0 : Nat} {x1 : Int32} {x2 : Int32} {c : Zc} {r : (Nat × Int32 × Int32 × Zc) ⊕ (Nat × Int32 × Zc)} (h : f_Mo_rows_226 nf x0 x1 x2 c = some r) (k0 : ∀ a, r = .inl a → (fun a : Nat × Int32 × Int32 × Zc => Zz p l e (zRm 6 133 0 0) s m args below meth cd Q D cid B 5 0 0 a.2.2.2 44 [(0, .ref a.1), (1, .int a.2.1), (2, .int a.2.2.1)] []) a) (k1 : ∀ b, r = .inr b → (fun b : Nat × Int32 × Zc => Zz p l e (zRm 6 133 0 0) s m args below meth cd Q D cid B 5 0 0 b.2.2 229 [(0, .ref b.1), (1, .int b.2.1)] []) b) : Zz p l e (zRm 6 133 0 0) s m args below meth cd Q D cid B 5 0 0 c 226 [(0, .ref x0), (1, .int x1), (2, .int x2)] [] := by
  unfold f_Mo_rows_226 at h
  refine z_goto (tgt := 44) X dd_Mo_rows_226 (by decide) ?_
  obtain rfl := Option.some.inj h
  exact k0 _ rfl
set_option maxRecDepth 100000 in
set_option maxHeartbeats 4000000 in
theorem t_Mo_rows_110  (X : zX p s m args cd D cid B bb_Mo_rows 5 rr_Mo zT) (H : zH s meth B n0 none "rows") {nf : Nat} {x0 : Nat} {x1 : Int32} {x2 : Int32} {c : Zc} {r : (Nat × Int32 × Int32 × Zc) ⊕ (Nat × Int32 × Zc)} (h : f_Mo_rows_110 nf x0 x1 x2 c = some r) (k0 : ∀ a, r = .inl a → (fun a : Nat × Int32 × Int32 × Zc => Zz p l e (zRm 6 133 0 0) s m args below meth cd Q D cid B 5 0 0 a.2.2.2 44 [(0, .ref a.1), (1, .int a.2.1), (2, .int a.2.2.1)] []) a) (k1 : ∀ b, r = .inr b → (fun b : Nat × Int32 × Zc => Zz p l e (zRm 6 133 0 0) s m args below meth cd Q D cid B 5 0 0 b.2.2 229 [(0, .ref b.1), (1, .int b.2.1)] []) b) : Zz p l e (zRm 6 133 0 0) s m args below meth cd Q D cid B 5 0 0 c 110 [(0, .ref x0), (1, .int x1), (2, .int x2)] [] := by
  unfold f_Mo_rows_110 at h
  refine z_aload_n X dd_Mo_rows_110 rfl 0 rfl ?_
  refine z_iload_n X dd_Mo_rows_111 rfl 1 rfl ?_
  obtain ⟨w18, ew18, h⟩ := zb h
  obtain ⟨q17, eq17, h⟩ := zb h
  refine z_callVv X [.int x1] rfl dd_Mo_rows_112 (c_Mo_single l eq17) (cwV 1 X.1.2.2.2.2 (zg_V km_1976 km_1978 km_86 km_138 km_1979) rfl rfl rfl (by decide +kernel) ⟨Nat.le_of_ble_eq_true rfl, Nat.le_of_ble_eq_true rfl⟩) (zob_s ew18) kc_12 rfl (Nat.le_of_ble_eq_true rfl) ⟨Nat.le_of_ble_eq_true rfl, Nat.le_of_ble_eq_true rfl⟩ ?_
  refine z_goto (tgt := 226) X dd_Mo_rows_115 (by decide) ?_
  exact t_Mo_rows_226 X H h k0 k1
set_option maxRecDepth 100000 in
set_option maxHeartbeats 4000000 in
theorem u_Mo_rows_44  (X : zX p s m args cd D cid B bb_Mo_rows 5 rr_Mo zT) (H : zH s meth B n0 none "rows") {nf : Nat} {x0 : Nat} {x1 : Int32} {x2 : Int32} {c : Zc} {r : (Nat × Int32 × Int32 × Zc) ⊕ (Nat × Int32 × Zc)} (h : g_Mo_rows_44 nf x0 x1 x2 c = some r) (k0 : ∀ a, r = .inl a → (fun a : Nat × Int32 × Int32 × Zc => Zz p l e (zRm 6 133 0 0) s m args below meth cd Q D cid B 5 0 0 a.2.2.2 44 [(0, .ref a.1), (1, .int a.2.1), (2, .int a.2.2.1)] []) a) (k1 : ∀ b, r = .inr b → (fun b : Nat × Int32 × Zc => Zz p l e (zRm 6 133 0 0) s m args below meth cd Q D cid B 5 0 0 b.2.2 229 [(0, .ref b.1), (1, .int b.2.1)] []) b) : Zz p l e (zRm 6 133 0 0) s m args below meth cd Q D cid B 5 0 0 c 44 [(0, .ref x0), (1, .int x1), (2, .int x2)] [] := by
  unfold g_Mo_rows_44 at h
  refine z_iload_n X dd_Mo_rows_44 rfl 2 rfl ?_
  refine z_if_eq (tgt := 229) X dd_Mo_rows_45 (by decide) (fun q9 => ?_) (fun q9 => ?_)
  · rw [if_pos q9] at h
    refine z_sub [0, 1] rfl ?_
    obtain rfl := Option.some.inj h
    exact k1 _ rfl
  · rw [if_neg q9] at h
    refine z_aload_n X dd_Mo_rows_48 rfl 0 rfl ?_
    obtain ⟨v10, ev10, h⟩ := zb h
    refine z_get (j := 19) X dd_Mo_rows_49 kc_12 ki_12 (by decide) km_1540 (zgi_v ev10) ?_
    refine z_if_ne (tgt := 229) X dd_Mo_rows_52 (by decide) (fun q11 => ?_) (fun q11 => ?_)
    · rw [if_neg q11] at h
      refine z_sub [0, 1] rfl ?_
      obtain rfl := Option.some.inj h
      exact k1 _ rfl
    · rw [if_pos q11] at h
      refine z_aload_n X dd_Mo_rows_55 rfl 0 rfl ?_
      obtain ⟨v12, ev12, h⟩ := zb h
      refine z_get (j := 65) X dd_Mo_rows_56 kc_12 ki_12 (by decide) km_1586 (zgi_v ev12) ?_
      refine z_iconst (v := 1) X dd_Mo_rows_59 (by decide) ?_
      refine z_isub X dd_Mo_rows_60 ?_
      refine z_istore_n (lv' := [(3, .int (v12 - 1)), (0, .ref x0), (1, .int x1), (2, .int x2)]) X dd_Mo_rows_61 rfl (by decide) rfl ?_
      refine z_aload_n X dd_Mo_rows_62 rfl 1 rfl ?_
      obtain ⟨w14, ew14, h⟩ := zb h
      obtain ⟨q13, eq13, h⟩ := zb h
      refine z_callVi X [] rfl dd_Mo_rows_63 (c_Mo_kind l eq13) (cwV 0 X.1.2.2.2.2 (zg_V km_1912 km_1914 km_70 km_138 km_1915) rfl rfl rfl (by decide +kernel) ⟨Nat.le_of_ble_eq_true rfl, Nat.le_of_ble_eq_true rfl⟩) (zob_s ew14) kc_12 rfl (Nat.le_of_ble_eq_true rfl) ⟨Nat.le_of_ble_eq_true rfl, Nat.le_of_ble_eq_true rfl⟩ ?_
      refine z_istore (lv' := [(4, .int q13.1), (3, .int (v12 - 1)), (0, .ref x0), (1, .int x1), (2, .int x2)]) X dd_Mo_rows_66 (by decide) rfl ?_
      refine z_iload X dd_Mo_rows_68 0 rfl ?_
      refine z_bipush (v := 40) X dd_Mo_rows_70 (by decide) ?_
      refine z_icmp_ne (tgt := 90) X dd_Mo_rows_72 (by decide) (fun q15 => ?_) (fun q15 => ?_)
      · rw [if_neg q15] at h
        refine z_iload X dd_Mo_rows_90 0 rfl ?_
        refine z_iconst (v := 5) X dd_Mo_rows_92 (by decide) ?_
        refine z_icmp_eq (tgt := 110) X dd_Mo_rows_93 (by decide) (fun q16 => ?_) (fun q16 => ?_)
        · rw [if_pos q16] at h
          refine z_sub [2, 3, 4] rfl ?_
          exact t_Mo_rows_110 X H h k0 k1
        · rw [if_neg q16] at h
          refine z_iload X dd_Mo_rows_96 0 rfl ?_
          refine z_bipush (v := 95) X dd_Mo_rows_98 (by decide) ?_
          refine z_icmp_eq (tgt := 110) X dd_Mo_rows_100 (by decide) (fun q19 => ?_) (fun q19 => ?_)
          · rw [if_pos q19] at h
            refine z_sub [2, 3, 4] rfl ?_
            exact t_Mo_rows_110 X H h k0 k1
          · rw [if_neg q19] at h
            refine z_iload X dd_Mo_rows_103 0 rfl ?_
            refine z_bipush (v := 94) X dd_Mo_rows_105 (by decide) ?_
            refine z_icmp_ne (tgt := 118) X dd_Mo_rows_107 (by decide) (fun q20 => ?_) (fun q20 => ?_)
            · rw [if_neg q20] at h
              refine z_aload_n X dd_Mo_rows_118 rfl 2 rfl ?_
              obtain ⟨v21, ev21, h⟩ := zb h
              refine z_get (j := 64) X dd_Mo_rows_119 kc_12 ki_12 (by decide) km_1585 (zgr_v ev21) ?_
              refine z_iload_n X dd_Mo_rows_122 rfl 1 rfl ?_
              obtain ⟨v22, ev22, h⟩ := zb h
              refine z_zaload X dd_Mo_rows_123 rfl ev22 ?_
              refine z_if_ne (tgt := 134) X dd_Mo_rows_124 (by decide) (fun q23 => ?_) (fun q23 => ?_)
              · rw [if_neg q23] at h
                refine z_iload X dd_Mo_rows_134 0 rfl ?_
                refine z_bipush (v := 124) X dd_Mo_rows_136 (by decide) ?_
                refine z_icmp_ne (tgt := 158) X dd_Mo_rows_138 (by decide) (fun q24 => ?_) (fun q24 => ?_)
                · rw [if_neg q24] at h
                  refine z_iload_n X dd_Mo_rows_158 rfl 1 rfl ?_
                  refine z_if_le (tgt := 219) X dd_Mo_rows_159 (by decide) (fun q25 => ?_) (fun q25 => ?_)
                  · rw [if_pos q25] at h
                    refine z_aload_n X dd_Mo_rows_219 rfl 2 rfl ?_
                    refine z_iconst (v := 0) X dd_Mo_rows_220 (by decide) ?_
                    obtain ⟨w27, ew27, h⟩ := zb h
                    obtain ⟨q26, eq26, h⟩ := zb h
                    refine z_callVv X [.int 0] rfl dd_Mo_rows_221 (c_Mo_endRow l eq26) (cwV 1 X.1.2.2.2.2 (zg_V km_1988 km_1990 km_89 km_138 km_1991) rfl rfl rfl (by decide +kernel) ⟨Nat.le_of_ble_eq_true rfl, Nat.le_of_ble_eq_true rfl⟩) (zob_s ew27) kc_12 rfl (Nat.le_of_ble_eq_true rfl) ⟨Nat.le_of_ble_eq_true rfl, Nat.le_of_ble_eq_true rfl⟩ ?_
                    refine z_iconst (v := 0) X dd_Mo_rows_224 (by decide) ?_
                    refine z_istore_n (lv' := [(2, .int 0), (4, .int q13.1), (3, .int (v12 - 1)), (0, .ref x0), (1, .int x1)]) X dd_Mo_rows_225 rfl (by decide) rfl ?_
                    refine z_sub [3, 4, 0] rfl ?_
                    exact t_Mo_rows_226 X H h k0 k1
                  · rw [if_neg q25] at h
                    refine z_aload_n X dd_Mo_rows_162 rfl 2 rfl ?_
                    refine z_bipush (v := 41) X dd_Mo_rows_163 (by decide) ?_
                    obtain ⟨w29, ew29, h⟩ := zb h
                    obtain ⟨q28, eq28, h⟩ := zb h
                    refine z_callVv X [.int 41] rfl dd_Mo_rows_165 (c_Mo_need l eq28) (cwV 1 X.1.2.2.2.2 (zg_V km_1904 km_1906 km_68 km_138 km_1907) rfl rfl rfl (by decide +kernel) ⟨Nat.le_of_ble_eq_true rfl, Nat.le_of_ble_eq_true rfl⟩) (zob_s ew29) kc_12 rfl (Nat.le_of_ble_eq_true rfl) ⟨Nat.le_of_ble_eq_true rfl, Nat.le_of_ble_eq_true rfl⟩ ?_
                    refine z_aload_n X dd_Mo_rows_168 rfl 2 rfl ?_
                    refine z_iload_n X dd_Mo_rows_169 rfl 1 rfl ?_
                    obtain ⟨w31, ew31, h⟩ := zb h
                    obtain ⟨q30, eq30, h⟩ := zb h
                    refine z_callVv X [.int (v12 - 1)] rfl dd_Mo_rows_170 (c_Mo_endRow l eq30) (cwV 1 X.1.2.2.2.2 (zg_V km_1988 km_1990 km_89 km_138 km_1991) rfl rfl rfl (by decide +kernel) ⟨Nat.le_of_ble_eq_true rfl, Nat.le_of_ble_eq_true rfl⟩) (zob_s ew31) kc_12 rfl (Nat.le_of_ble_eq_true rfl) ⟨Nat.le_of_ble_eq_true rfl, Nat.le_of_ble_eq_true rfl⟩ ?_
                    refine z_aload_n X dd_Mo_rows_173 rfl 2 rfl ?_
                    refine z_dup X dd_Mo_rows_174 rfl ?_
                    obtain ⟨v32, ev32, h⟩ := zb h
                    refine z_get (j := 65) X dd_Mo_rows_175 kc_12 ki_12 (by decide) km_1586 (zgi_v ev32) ?_
                    refine z_iconst (v := 1) X dd_Mo_rows_178 (by decide) ?_
                    refine z_isub X dd_Mo_rows_179 ?_
                    obtain ⟨c33, ec33, h⟩ := zb h
                    refine z_put (j := 65) X dd_Mo_rows_180 kc_12 ki_12 tt_Mo tk_Mo nn_Mo (by decide) km_1586 rfl (tk_Mo 65 (by decide)) rfl rfl ec33 ?_
                    refine z_aload_n X dd_Mo_rows_183 rfl 2 rfl ?_
                    refine z_dup X dd_Mo_rows_184 rfl ?_
                    obtain ⟨v34, ev34, h⟩ := zb h
                    refine z_get (j := 53) X dd_Mo_rows_185 kc_12 ki_12 (by decide) km_1574 (zgi_v ev34) ?_
                    refine z_iconst (v := 1) X dd_Mo_rows_188 (by decide) ?_
                    refine z_isub X dd_Mo_rows_189 ?_
                    obtain ⟨c35, ec35, h⟩ := zb h
                    refine z_put (j := 53) X dd_Mo_rows_190 kc_12 ki_12 tt_Mo tk_Mo nn_Mo (by decide) km_1574 rfl (tk_Mo 53 (by decide)) rfl rfl ec35 ?_
                    refine z_aload_n X dd_Mo_rows_193 rfl 2 rfl ?_
                    refine z_iload_n X dd_Mo_rows_194 rfl 3 rfl ?_
                    refine z_aload_n X dd_Mo_rows_195 rfl 2 rfl ?_
                    obtain ⟨v36, ev36, h⟩ := zb h
                    refine z_get (j := 58) X dd_Mo_rows_196 kc_12 ki_12 (by decide) km_1579 (zgr_v ev36) ?_
                    refine z_iload_n X dd_Mo_rows_199 rfl 1 rfl ?_
                    obtain ⟨v37, ev37, h⟩ := zb h
                    refine z_zaload X dd_Mo_rows_200 rfl ev37 ?_
                    refine z_aload_n X dd_Mo_rows_201 rfl 2 rfl ?_
                    obtain ⟨v38, ev38, h⟩ := zb h
                    refine z_get (j := 59) X dd_Mo_rows_202 kc_12 ki_12 (by decide) km_1580 (zgr_v ev38) ?_
                    refine z_iload_n X dd_Mo_rows_205 rfl 1 rfl ?_
                    obtain ⟨v39, ev39, h⟩ := zb h
                    refine z_iaload X dd_Mo_rows_206 rfl ev39 ?_
                    refine z_aload_n X dd_Mo_rows_207 rfl 2 rfl ?_
                    obtain ⟨v40, ev40, h⟩ := zb h
                    refine z_get (j := 60) X dd_Mo_rows_208 kc_12 ki_12 (by decide) km_1581 (zgr_v ev40) ?_
                    refine z_iload_n X dd_Mo_rows_211 rfl 1 rfl ?_
                    obtain ⟨v41, ev41, h⟩ := zb h
                    refine z_iaload X dd_Mo_rows_212 rfl ev41 ?_
                    obtain ⟨w43, ew43, h⟩ := zb h
                    obtain ⟨q42, eq42, h⟩ := zb h
                    refine z_callVv X [.int x1, .int v37, .int v39, .int v41] rfl dd_Mo_rows_213 (c_Mo_step l eq42) (cwV 4 X.1.2.2.2.2 (zg_V km_1980 km_1982 km_87 km_138 km_1983) rfl rfl rfl (by decide +kernel) ⟨Nat.le_of_ble_eq_true rfl, Nat.le_of_ble_eq_true rfl⟩) (zob_s ew43) kc_12 rfl (Nat.le_of_ble_eq_true rfl) ⟨Nat.le_of_ble_eq_true rfl, Nat.le_of_ble_eq_true rfl⟩ ?_
                    refine z_goto (tgt := 226) X dd_Mo_rows_216 (by decide) ?_
                    refine z_sub [2, 3, 4] rfl ?_
                    exact t_Mo_rows_226 X H h k0 k1
                · rw [if_pos q24] at h
                  refine z_aload_n X dd_Mo_rows_141 rfl 2 rfl ?_
                  obtain ⟨w45, ew45, h⟩ := zb h
                  obtain ⟨q44, eq44, h⟩ := zb h
                  refine z_callVv X [] rfl dd_Mo_rows_142 (c_Mo_pass l eq44) (cwV 0 X.1.2.2.2.2 (zg_V km_1920 km_1922 km_72 km_138 km_1923) rfl rfl rfl (by decide +kernel) ⟨Nat.le_of_ble_eq_true rfl, Nat.le_of_ble_eq_true rfl⟩) (zob_s ew45) kc_12 rfl (Nat.le_of_ble_eq_true rfl) ⟨Nat.le_of_ble_eq_true rfl, Nat.le_of_ble_eq_true rfl⟩ ?_
                  refine z_aload_n X dd_Mo_rows_145 rfl 2 rfl ?_
                  refine z_iload_n X dd_Mo_rows_146 rfl 1 rfl ?_
                  obtain ⟨w47, ew47, h⟩ := zb h
                  obtain ⟨q46, eq46, h⟩ := zb h
                  refine z_callVv X [.int (v12 - 1)] rfl dd_Mo_rows_147 (c_Mo_endRow l eq46) (cwV 1 X.1.2.2.2.2 (zg_V km_1988 km_1990 km_89 km_138 km_1991) rfl rfl rfl (by decide +kernel) ⟨Nat.le_of_ble_eq_true rfl, Nat.le_of_ble_eq_true rfl⟩) (zob_s ew47) kc_12 rfl (Nat.le_of_ble_eq_true rfl) ⟨Nat.le_of_ble_eq_true rfl, Nat.le_of_ble_eq_true rfl⟩ ?_
                  refine z_aload_n X dd_Mo_rows_150 rfl 2 rfl ?_
                  refine z_iload_n X dd_Mo_rows_151 rfl 1 rfl ?_
                  obtain ⟨w49, ew49, h⟩ := zb h
                  obtain ⟨q48, eq48, h⟩ := zb h
                  refine z_callVv X [.int (v12 - 1)] rfl dd_Mo_rows_152 (c_Mo_beginRow l eq48) (cwV 1 X.1.2.2.2.2 (zg_V km_1968 km_1970 km_84 km_138 km_1971) rfl rfl rfl (by decide +kernel) ⟨Nat.le_of_ble_eq_true rfl, Nat.le_of_ble_eq_true rfl⟩) (zob_s ew49) kc_12 rfl (Nat.le_of_ble_eq_true rfl) ⟨Nat.le_of_ble_eq_true rfl, Nat.le_of_ble_eq_true rfl⟩ ?_
                  refine z_goto (tgt := 226) X dd_Mo_rows_155 (by decide) ?_
                  refine z_sub [2, 3, 4] rfl ?_
                  exact t_Mo_rows_226 X H h k0 k1
              · rw [if_pos q23] at h
                refine z_aload_n X dd_Mo_rows_127 rfl 2 rfl ?_
                obtain ⟨w51, ew51, h⟩ := zb h
                obtain ⟨q50, eq50, h⟩ := zb h
                refine z_callVv X [] rfl dd_Mo_rows_128 (c_Mo_wrong l eq50) (cwV 0 X.1.2.2.2.2 (zg_V km_1928 km_1930 km_74 km_138 km_1931) rfl rfl rfl (by decide +kernel) ⟨Nat.le_of_ble_eq_true rfl, Nat.le_of_ble_eq_true rfl⟩) (zob_s ew51) kc_12 rfl (Nat.le_of_ble_eq_true rfl) ⟨Nat.le_of_ble_eq_true rfl, Nat.le_of_ble_eq_true rfl⟩ ?_
                refine z_goto (tgt := 226) X dd_Mo_rows_131 (by decide) ?_
                refine z_sub [2, 3, 4] rfl ?_
                exact t_Mo_rows_226 X H h k0 k1
            · rw [if_pos q20] at h
              refine z_sub [2, 3, 4] rfl ?_
              exact t_Mo_rows_110 X H h k0 k1
      · rw [if_pos q15] at h
        refine z_aload_n X dd_Mo_rows_75 rfl 2 rfl ?_
        obtain ⟨w53, ew53, h⟩ := zb h
        obtain ⟨q52, eq52, h⟩ := zb h
        refine z_callVv X [] rfl dd_Mo_rows_76 (c_Mo_pass l eq52) (cwV 0 X.1.2.2.2.2 (zg_V km_1920 km_1922 km_72 km_138 km_1923) rfl rfl rfl (by decide +kernel) ⟨Nat.le_of_ble_eq_true rfl, Nat.le_of_ble_eq_true rfl⟩) (zob_s ew53) kc_12 rfl (Nat.le_of_ble_eq_true rfl) ⟨Nat.le_of_ble_eq_true rfl, Nat.le_of_ble_eq_true rfl⟩ ?_
        refine z_aload_n X dd_Mo_rows_79 rfl 2 rfl ?_
        obtain ⟨w55, ew55, h⟩ := zb h
        obtain ⟨q54, eq54, h⟩ := zb h
        refine z_callVv X [] rfl dd_Mo_rows_80 (c_Mo_within l eq54) (cwV 0 X.1.2.2.2.2 (zg_V km_1972 km_1974 km_85 km_138 km_1975) rfl rfl rfl (by decide +kernel) ⟨Nat.le_of_ble_eq_true rfl, Nat.le_of_ble_eq_true rfl⟩) (zob_s ew55) kc_12 rfl (Nat.le_of_ble_eq_true rfl) ⟨Nat.le_of_ble_eq_true rfl, Nat.le_of_ble_eq_true rfl⟩ ?_
        refine z_aload_n X dd_Mo_rows_83 rfl 2 rfl ?_
        obtain ⟨w57, ew57, h⟩ := zb h
        obtain ⟨q56, eq56, h⟩ := zb h
        refine z_callVv X [] rfl dd_Mo_rows_84 (c_Mo_open l eq56) (cwV 0 X.1.2.2.2.2 (zg_V km_1964 km_1966 km_83 km_138 km_1967) rfl rfl rfl (by decide +kernel) ⟨Nat.le_of_ble_eq_true rfl, Nat.le_of_ble_eq_true rfl⟩) (zob_s ew57) kc_12 rfl (Nat.le_of_ble_eq_true rfl) ⟨Nat.le_of_ble_eq_true rfl, Nat.le_of_ble_eq_true rfl⟩ ?_
        refine z_goto (tgt := 226) X dd_Mo_rows_87 (by decide) ?_
        refine z_sub [2, 3, 4] rfl ?_
        exact t_Mo_rows_226 X H h k0 k1
set_option maxRecDepth 100000 in
set_option maxHeartbeats 4000000 in
theorem t_Mo_rows_229  (X : zX p s m args cd D cid B bb_Mo_rows 5 rr_Mo zT) (H : zH s meth B n0 none "rows") {nf : Nat} {x0 : Nat} {x1 : Int32} {c : Zc} {res : Zc} (h : f_Mo_rows_229 nf x0 x1 c = some res) : Zz p l e (zRm 6 133 0 0) s m args below meth cd (MQ below (zQv D cid B res n0 0) args s 0 0 (fun q => B ≤ q)) D cid B 5 0 0 c 229 [(0, .ref x0), (1, .int x1)] [] := by
  unfold f_Mo_rows_229 at h
  refine z_aload_n X dd_Mo_rows_229 rfl 0 rfl ?_
  obtain ⟨v58, ev58, h⟩ := zb h
  refine z_get (j := 36) X dd_Mo_rows_230 kc_12 ki_12 (by decide) km_1557 (zgr_v ev58) ?_
  refine z_iload_n X dd_Mo_rows_233 rfl 1 rfl ?_
  refine z_aload_n X dd_Mo_rows_234 rfl 0 rfl ?_
  obtain ⟨v59, ev59, h⟩ := zb h
  refine z_get (j := 58) X dd_Mo_rows_235 kc_12 ki_12 (by decide) km_1579 (zgr_v ev59) ?_
  refine z_iconst (v := 0) X dd_Mo_rows_238 (by decide) ?_
  obtain ⟨v60, ev60, h⟩ := zb h
  refine z_zaload X dd_Mo_rows_239 rfl ev60 ?_
  obtain ⟨c61, ec61, h⟩ := zb h
  refine z_zastore X dd_Mo_rows_240 rfl ec61 ?_
  refine z_aload_n X dd_Mo_rows_241 rfl 0 rfl ?_
  obtain ⟨v62, ev62, h⟩ := zb h
  refine z_get (j := 37) X dd_Mo_rows_242 kc_12 ki_12 (by decide) km_1558 (zgr_v ev62) ?_
  refine z_iload_n X dd_Mo_rows_245 rfl 1 rfl ?_
  refine z_aload_n X dd_Mo_rows_246 rfl 0 rfl ?_
  obtain ⟨v63, ev63, h⟩ := zb h
  refine z_get (j := 59) X dd_Mo_rows_247 kc_12 ki_12 (by decide) km_1580 (zgr_v ev63) ?_
  refine z_iconst (v := 0) X dd_Mo_rows_250 (by decide) ?_
  obtain ⟨v64, ev64, h⟩ := zb h
  refine z_iaload X dd_Mo_rows_251 rfl ev64 ?_
  obtain ⟨c65, ec65, h⟩ := zb h
  refine z_iastore X dd_Mo_rows_252 rfl ec65 ?_
  refine z_aload_n X dd_Mo_rows_253 rfl 0 rfl ?_
  obtain ⟨v66, ev66, h⟩ := zb h
  refine z_get (j := 38) X dd_Mo_rows_254 kc_12 ki_12 (by decide) km_1559 (zgr_v ev66) ?_
  refine z_iload_n X dd_Mo_rows_257 rfl 1 rfl ?_
  refine z_aload_n X dd_Mo_rows_258 rfl 0 rfl ?_
  obtain ⟨v67, ev67, h⟩ := zb h
  refine z_get (j := 60) X dd_Mo_rows_259 kc_12 ki_12 (by decide) km_1581 (zgr_v ev67) ?_
  refine z_iconst (v := 0) X dd_Mo_rows_262 (by decide) ?_
  obtain ⟨v68, ev68, h⟩ := zb h
  refine z_iaload X dd_Mo_rows_263 rfl ev68 ?_
  obtain ⟨c69, ec69, h⟩ := zb h
  refine z_iastore X dd_Mo_rows_264 rfl ec69 ?_
  obtain rfl := Option.some.inj h
  exact z_vret X H.1 H.2.1 H.2.2.1 dd_Mo_rows_265
set_option maxRecDepth 100000 in
set_option maxHeartbeats 4000000 in
theorem t_Mo_rows_44  (X : zX p s m args cd D cid B bb_Mo_rows 5 rr_Mo zT) (H : zH s meth B n0 none "rows") {nf : Nat} {x0 : Nat} {x1 : Int32} {x2 : Int32} {c : Zc} {res : Zc} (h : f_Mo_rows_44 nf x0 x1 x2 c = some res) : Zz p l e (zRm 6 133 0 0) s m args below meth cd (MQ below (zQv D cid B res n0 0) args s 0 0 (fun q => B ≤ q)) D cid B 5 0 0 c 44 [(0, .ref x0), (1, .int x1), (2, .int x2)] [] := by
  unfold f_Mo_rows_44 at h
  obtain ⟨b, eb, h⟩ := zb h
  refine zlp_ok (P := fun a : Nat × Int32 × Int32 × Zc => Zz p l e (zRm 6 133 0 0) s m args below meth cd _ D cid B 5 0 0 a.2.2.2 44 [(0, .ref a.1), (1, .int a.2.1), (2, .int a.2.2.1)] []) (G := fun b : Nat × Int32 × Zc => Zz p l e (zRm 6 133 0 0) s m args below meth cd _ D cid B 5 0 0 b.2.2 229 [(0, .ref b.1), (1, .int b.2.1)] []) (fun a r ha k0 k1 => u_Mo_rows_44 X H ha k0 k1) nf _ b eb ?_
  exact t_Mo_rows_229 X H h
set_option maxRecDepth 100000 in
set_option maxHeartbeats 4000000 in
theorem t_Mo_rows_9  (X : zX p s m args cd D cid B bb_Mo_rows 5 rr_Mo zT) (H : zH s meth B n0 none "rows") {nf : Nat} {x0 : Nat} {x1 : Int32} {x2 : Int32} {c : Zc} {res : Zc} (h : f_Mo_rows_9 nf x0 x1 x2 c = some res) : Zz p l e (zRm 6 133 0 0) s m args below meth cd (MQ below (zQv D cid B res n0 0) args s 0 0 (fun q => B ≤ q)) D cid B 5 0 0 c 9 [(0, .ref x0), (1, .int x1), (2, .int x2)] [] := by
  unfold f_Mo_rows_9 at h
  obtain ⟨b, eb, h⟩ := zb h
  refine zlp_ok (P := fun a : Nat × Int32 × Int32 × Zc => Zz p l e (zRm 6 133 0 0) s m args below meth cd _ D cid B 5 0 0 a.2.2.2 9 [(0, .ref a.1), (1, .int a.2.1), (2, .int a.2.2.1)] []) (G := fun b : Nat × Int32 × Zc => Zz p l e (zRm 6 133 0 0) s m args below meth cd _ D cid B 5 0 0 b.2.2 33 [(0, .ref b.1), (1, .int b.2.1)] []) (fun a r ha k0 k1 => u_Mo_rows_9 X H ha k0 k1) nf _ b eb ?_
  refine z_aload_n X dd_Mo_rows_33 rfl 0 rfl ?_
  refine z_iconst (v := 0) X dd_Mo_rows_34 (by decide) ?_
  obtain ⟨c6, ec6, h⟩ := zb h
  refine z_put (j := 65) X dd_Mo_rows_35 kc_12 ki_12 tt_Mo tk_Mo nn_Mo (by decide) km_1586 rfl (tk_Mo 65 (by decide)) rfl rfl ec6 ?_
  refine z_aload_n X dd_Mo_rows_38 rfl 0 rfl ?_
  obtain ⟨w8, ew8, h⟩ := zb h
  obtain ⟨q7, eq7, h⟩ := zb h
  refine z_callVv X [] rfl dd_Mo_rows_39 (c_Mo_open l eq7) (cwV 0 X.1.2.2.2.2 (zg_V km_1964 km_1966 km_83 km_138 km_1967) rfl rfl rfl (by decide +kernel) ⟨Nat.le_of_ble_eq_true rfl, Nat.le_of_ble_eq_true rfl⟩) (zob_s ew8) kc_12 rfl (Nat.le_of_ble_eq_true rfl) ⟨Nat.le_of_ble_eq_true rfl, Nat.le_of_ble_eq_true rfl⟩ ?_
  refine z_iconst (v := 1) X dd_Mo_rows_42 (by decide) ?_
  refine z_istore_n (lv' := [(2, .int 1), (0, .ref b.1), (1, .int b.2.1)]) X dd_Mo_rows_43 rfl (by decide) rfl ?_
  refine z_sub [1, 2, 0] rfl ?_
  exact t_Mo_rows_44 X H h
set_option maxRecDepth 100000 in
set_option maxHeartbeats 4000000 in
theorem c_Mo_rows (l : Launch) {nf : Nat} {a0 : Nat} {a1 : Int32} {c : Zc} {res : Zc} (h : f_Mo_rows nf a0 a1 c = some res) : zM l yy_Mo_rows ww_Mo_rows 6 133 0 0 [.ref a0, .int a1] c (fun D cid B => zQv D cid B res c.length 0) := by
  refine z_met (cc := bb_Mo_rows) (maxL := 5) (ret := none) (by decide +kernel) rfl (Nat.le_of_ble_eq_true rfl) ?_
  intro p e s m args below meth cd D cid B X h1 h2 h3 h4
  have X : zX p s m args cd D cid B bb_Mo_rows 5 rr_Mo zT := X
  have H : zH s meth B c.length none "rows" := ⟨h1, h2, h4, h3⟩
  unfold f_Mo_rows at h
  show Zz p l e (zRm 6 133 0 0) s m args below meth cd _ D cid B 5 0 0 c 0 [(0, .ref a0), (1, .int a1)] []
  refine z_aload_n X dd_Mo_rows_0 rfl 0 rfl ?_
  obtain ⟨v1, ev1, h⟩ := zb h
  refine z_get (j := 39) X dd_Mo_rows_1 kc_12 ki_12 (by decide) km_1560 (zgr_v ev1) ?_
  refine z_iload_n X dd_Mo_rows_4 rfl 1 rfl ?_
  refine z_iconst (v := 0) X dd_Mo_rows_5 (by decide) ?_
  obtain ⟨c2, ec2, h⟩ := zb h
  refine z_iastore X dd_Mo_rows_6 rfl ec2 ?_
  refine z_iconst (v := 0) X dd_Mo_rows_7 (by decide) ?_
  refine z_istore_n (lv' := [(2, .int 0), (0, .ref a0), (1, .int a1)]) X dd_Mo_rows_8 rfl (by decide) rfl ?_
  refine z_sub [1, 2, 0] rfl ?_
  exact t_Mo_rows_9 X H h
theorem dd_Mo_way_0 : decode bb_Mo_way 0 = .ok (.aload_n 0, 1) := by decide +kernel
theorem dd_Mo_way_1 : decode bb_Mo_way 1 = .ok (.getfield 43, 3) := by decide +kernel
theorem dd_Mo_way_4 : decode bb_Mo_way 4 = .ok (.aload_n 0, 1) := by decide +kernel
theorem dd_Mo_way_5 : decode bb_Mo_way 5 = .ok (.getfield 300, 3) := by decide +kernel
theorem dd_Mo_way_8 : decode bb_Mo_way 8 = .ok (.iaload, 1) := by decide +kernel
theorem dd_Mo_way_9 : decode bb_Mo_way 9 = .ok (.sipush 202, 3) := by decide +kernel
theorem dd_Mo_way_12 : decode bb_Mo_way 12 = .ok (.if_icmp .ne 7, 3) := by decide +kernel
theorem dd_Mo_way_15 : decode bb_Mo_way 15 = .ok (.iconst 1, 1) := by decide +kernel
theorem dd_Mo_way_16 : decode bb_Mo_way 16 = .ok (.goto 4, 3) := by decide +kernel
theorem dd_Mo_way_19 : decode bb_Mo_way 19 = .ok (.iconst 0, 1) := by decide +kernel
theorem dd_Mo_way_20 : decode bb_Mo_way 20 = .ok (.istore_n 2, 1) := by decide +kernel
theorem dd_Mo_way_21 : decode bb_Mo_way 21 = .ok (.aload_n 0, 1) := by decide +kernel
theorem dd_Mo_way_22 : decode bb_Mo_way 22 = .ok (.getfield 49, 3) := by decide +kernel
theorem dd_Mo_way_25 : decode bb_Mo_way 25 = .ok (.aload_n 0, 1) := by decide +kernel
theorem dd_Mo_way_26 : decode bb_Mo_way 26 = .ok (.getfield 300, 3) := by decide +kernel
theorem dd_Mo_way_29 : decode bb_Mo_way 29 = .ok (.iaload, 1) := by decide +kernel
theorem dd_Mo_way_30 : decode bb_Mo_way 30 = .ok (.istore_n 3, 1) := by decide +kernel
theorem dd_Mo_way_31 : decode bb_Mo_way 31 = .ok (.aload_n 0, 1) := by decide +kernel
theorem dd_Mo_way_32 : decode bb_Mo_way 32 = .ok (.invokevirtual 310, 3) := by decide +kernel
theorem dd_Mo_way_35 : decode bb_Mo_way 35 = .ok (.aload_n 0, 1) := by decide +kernel
theorem dd_Mo_way_36 : decode bb_Mo_way 36 = .ok (.getfield 80, 3) := by decide +kernel
theorem dd_Mo_way_39 : decode bb_Mo_way 39 = .ok (.aload_n 0, 1) := by decide +kernel
theorem dd_Mo_way_40 : decode bb_Mo_way 40 = .ok (.getfield 331, 3) := by decide +kernel
theorem dd_Mo_way_43 : decode bb_Mo_way 43 = .ok (.iaload, 1) := by decide +kernel
theorem dd_Mo_way_44 : decode bb_Mo_way 44 = .ok (.bipush 10, 2) := by decide +kernel
theorem dd_Mo_way_46 : decode bb_Mo_way 46 = .ok (.if_icmp .ne 11, 3) := by decide +kernel
theorem dd_Mo_way_49 : decode bb_Mo_way 49 = .ok (.aload_n 0, 1) := by decide +kernel
theorem dd_Mo_way_50 : decode bb_Mo_way 50 = .ok (.iconst 3, 1) := by decide +kernel
theorem dd_Mo_way_51 : decode bb_Mo_way 51 = .ok (.iload_n 3, 1) := by decide +kernel
theorem dd_Mo_way_52 : decode bb_Mo_way 52 = .ok (.invokevirtual 303, 3) := by decide +kernel
theorem dd_Mo_way_55 : decode bb_Mo_way 55 = .ok (.iload_n 1, 1) := by decide +kernel
theorem dd_Mo_way_56 : decode bb_Mo_way 56 = .ok (.ireturn, 1) := by decide +kernel
theorem dd_Mo_way_57 : decode bb_Mo_way 57 = .ok (.bipush 11, 2) := by decide +kernel
theorem dd_Mo_way_59 : decode bb_Mo_way 59 = .ok (.aload_n 0, 1) := by decide +kernel
theorem dd_Mo_way_60 : decode bb_Mo_way 60 = .ok (.getfield 331, 3) := by decide +kernel
theorem dd_Mo_way_63 : decode bb_Mo_way 63 = .ok (.imul, 1) := by decide +kernel
theorem dd_Mo_way_64 : decode bb_Mo_way 64 = .ok (.aload_n 0, 1) := by decide +kernel
theorem dd_Mo_way_65 : decode bb_Mo_way 65 = .ok (.getfield 80, 3) := by decide +kernel
theorem dd_Mo_way_68 : decode bb_Mo_way 68 = .ok (.aload_n 0, 1) := by decide +kernel
theorem dd_Mo_way_69 : decode bb_Mo_way 69 = .ok (.getfield 331, 3) := by decide +kernel
theorem dd_Mo_way_72 : decode bb_Mo_way 72 = .ok (.iaload, 1) := by decide +kernel
theorem dd_Mo_way_73 : decode bb_Mo_way 73 = .ok (.iadd, 1) := by decide +kernel
theorem dd_Mo_way_74 : decode bb_Mo_way 74 = .ok (.istore 4, 2) := by decide +kernel
theorem dd_Mo_way_76 : decode bb_Mo_way 76 = .ok (.aload_n 0, 1) := by decide +kernel
theorem dd_Mo_way_77 : decode bb_Mo_way 77 = .ok (.getfield 80, 3) := by decide +kernel
theorem dd_Mo_way_80 : decode bb_Mo_way 80 = .ok (.aload_n 0, 1) := by decide +kernel
theorem dd_Mo_way_81 : decode bb_Mo_way 81 = .ok (.getfield 331, 3) := by decide +kernel
theorem dd_Mo_way_84 : decode bb_Mo_way 84 = .ok (.dup2, 1) := by decide +kernel
theorem dd_Mo_way_85 : decode bb_Mo_way 85 = .ok (.iaload, 1) := by decide +kernel
theorem dd_Mo_way_86 : decode bb_Mo_way 86 = .ok (.iconst 1, 1) := by decide +kernel
theorem dd_Mo_way_87 : decode bb_Mo_way 87 = .ok (.iadd, 1) := by decide +kernel
theorem dd_Mo_way_88 : decode bb_Mo_way 88 = .ok (.iastore, 1) := by decide +kernel
theorem dd_Mo_way_89 : decode bb_Mo_way 89 = .ok (.aload_n 0, 1) := by decide +kernel
theorem dd_Mo_way_90 : decode bb_Mo_way 90 = .ok (.invokevirtual 313, 3) := by decide +kernel
theorem dd_Mo_way_93 : decode bb_Mo_way 93 = .ok (.aload_n 0, 1) := by decide +kernel
theorem dd_Mo_way_94 : decode bb_Mo_way 94 = .ok (.getfield 92, 3) := by decide +kernel
theorem dd_Mo_way_97 : decode bb_Mo_way 97 = .ok (.iload 4, 2) := by decide +kernel
theorem dd_Mo_way_99 : decode bb_Mo_way 99 = .ok (.iconst (-1), 1) := by decide +kernel
theorem dd_Mo_way_100 : decode bb_Mo_way 100 = .ok (.iastore, 1) := by decide +kernel
theorem dd_Mo_way_101 : decode bb_Mo_way 101 = .ok (.aload_n 0, 1) := by decide +kernel
theorem dd_Mo_way_102 : decode bb_Mo_way 102 = .ok (.bipush 108, 2) := by decide +kernel
theorem dd_Mo_way_104 : decode bb_Mo_way 104 = .ok (.invokevirtual 316, 3) := by decide +kernel
theorem dd_Mo_way_107 : decode bb_Mo_way 107 = .ok (.ifCond .eq 131, 3) := by decide +kernel
theorem dd_Mo_way_110 : decode bb_Mo_way 110 = .ok (.aload_n 0, 1) := by decide +kernel
theorem dd_Mo_way_111 : decode bb_Mo_way 111 = .ok (.invokevirtual 306, 3) := by decide +kernel
theorem dd_Mo_way_114 : decode bb_Mo_way 114 = .ok (.iconst 2, 1) := by decide +kernel
theorem dd_Mo_way_115 : decode bb_Mo_way 115 = .ok (.if_icmp .eq 10, 3) := by decide +kernel
theorem dd_Mo_way_118 : decode bb_Mo_way 118 = .ok (.aload_n 0, 1) := by decide +kernel
theorem dd_Mo_way_119 : decode bb_Mo_way 119 = .ok (.invokevirtual 319, 3) := by decide +kernel
theorem dd_Mo_way_122 : decode bb_Mo_way 122 = .ok (.goto 116, 3) := by decide +kernel
theorem dd_Mo_way_125 : decode bb_Mo_way 125 = .ok (.aload_n 0, 1) := by decide +kernel
theorem dd_Mo_way_126 : decode bb_Mo_way 126 = .ok (.invokevirtual 310, 3) := by decide +kernel
theorem dd_Mo_way_129 : decode bb_Mo_way 129 = .ok (.aload_n 0, 1) := by decide +kernel
theorem dd_Mo_way_130 : decode bb_Mo_way 130 = .ok (.getfield 46, 3) := by decide +kernel
theorem dd_Mo_way_133 : decode bb_Mo_way 133 = .ok (.aload_n 0, 1) := by decide +kernel
theorem dd_Mo_way_134 : decode bb_Mo_way 134 = .ok (.getfield 300, 3) := by decide +kernel
theorem dd_Mo_way_137 : decode bb_Mo_way 137 = .ok (.iaload, 1) := by decide +kernel
theorem dd_Mo_way_138 : decode bb_Mo_way 138 = .ok (.istore 5, 2) := by decide +kernel
theorem dd_Mo_way_140 : decode bb_Mo_way 140 = .ok (.aload_n 0, 1) := by decide +kernel
theorem dd_Mo_way_141 : decode bb_Mo_way 141 = .ok (.iload 5, 2) := by decide +kernel
theorem dd_Mo_way_143 : decode bb_Mo_way 143 = .ok (.invokevirtual 338, 3) := by decide +kernel
theorem dd_Mo_way_146 : decode bb_Mo_way 146 = .ok (.iconst (-1), 1) := by decide +kernel
theorem dd_Mo_way_147 : decode bb_Mo_way 147 = .ok (.if_icmp .eq 17, 3) := by decide +kernel
theorem dd_Mo_way_150 : decode bb_Mo_way 150 = .ok (.aload_n 0, 1) := by decide +kernel
theorem dd_Mo_way_151 : decode bb_Mo_way 151 = .ok (.iconst 4, 1) := by decide +kernel
theorem dd_Mo_way_152 : decode bb_Mo_way 152 = .ok (.aload_n 0, 1) := by decide +kernel
theorem dd_Mo_way_153 : decode bb_Mo_way 153 = .ok (.getfield 49, 3) := by decide +kernel
theorem dd_Mo_way_156 : decode bb_Mo_way 156 = .ok (.aload_n 0, 1) := by decide +kernel
theorem dd_Mo_way_157 : decode bb_Mo_way 157 = .ok (.getfield 300, 3) := by decide +kernel
theorem dd_Mo_way_160 : decode bb_Mo_way 160 = .ok (.iaload, 1) := by decide +kernel
theorem dd_Mo_way_161 : decode bb_Mo_way 161 = .ok (.invokevirtual 303, 3) := by decide +kernel
theorem dd_Mo_way_164 : decode bb_Mo_way 164 = .ok (.aload_n 0, 1) := by decide +kernel
theorem dd_Mo_way_165 : decode bb_Mo_way 165 = .ok (.getfield 294, 3) := by decide +kernel
theorem dd_Mo_way_168 : decode bb_Mo_way 168 = .ok (.ifCond .ne 66, 3) := by decide +kernel
theorem dd_Mo_way_171 : decode bb_Mo_way 171 = .ok (.aload_n 0, 1) := by decide +kernel
theorem dd_Mo_way_172 : decode bb_Mo_way 172 = .ok (.aload_n 0, 1) := by decide +kernel
theorem dd_Mo_way_173 : decode bb_Mo_way 173 = .ok (.getfield 49, 3) := by decide +kernel
theorem dd_Mo_way_176 : decode bb_Mo_way 176 = .ok (.aload_n 0, 1) := by decide +kernel
theorem dd_Mo_way_177 : decode bb_Mo_way 177 = .ok (.getfield 300, 3) := by decide +kernel
theorem dd_Mo_way_180 : decode bb_Mo_way 180 = .ok (.iaload, 1) := by decide +kernel
theorem dd_Mo_way_181 : decode bb_Mo_way 181 = .ok (.invokevirtual 342, 3) := by decide +kernel
theorem dd_Mo_way_184 : decode bb_Mo_way 184 = .ok (.ifCond .eq 50, 3) := by decide +kernel
theorem dd_Mo_way_187 : decode bb_Mo_way 187 = .ok (.aload_n 0, 1) := by decide +kernel
theorem dd_Mo_way_188 : decode bb_Mo_way 188 = .ok (.getfield 92, 3) := by decide +kernel
theorem dd_Mo_way_191 : decode bb_Mo_way 191 = .ok (.iload 4, 2) := by decide +kernel
theorem dd_Mo_way_193 : decode bb_Mo_way 193 = .ok (.aload_n 0, 1) := by decide +kernel
theorem dd_Mo_way_194 : decode bb_Mo_way 194 = .ok (.getfield 68, 3) := by decide +kernel
theorem dd_Mo_way_197 : decode bb_Mo_way 197 = .ok (.aload_n 0, 1) := by decide +kernel
theorem dd_Mo_way_198 : decode bb_Mo_way 198 = .ok (.getfield 331, 3) := by decide +kernel
theorem dd_Mo_way_201 : decode bb_Mo_way 201 = .ok (.iaload, 1) := by decide +kernel
theorem dd_Mo_way_202 : decode bb_Mo_way 202 = .ok (.iastore, 1) := by decide +kernel
theorem dd_Mo_way_203 : decode bb_Mo_way 203 = .ok (.aload_n 0, 1) := by decide +kernel
theorem dd_Mo_way_204 : decode bb_Mo_way 204 = .ok (.iload 5, 2) := by decide +kernel
theorem dd_Mo_way_206 : decode bb_Mo_way 206 = .ok (.bipush 100, 2) := by decide +kernel
theorem dd_Mo_way_208 : decode bb_Mo_way 208 = .ok (.aload_n 0, 1) := by decide +kernel
theorem dd_Mo_way_209 : decode bb_Mo_way 209 = .ok (.getfield 68, 3) := by decide +kernel
theorem dd_Mo_way_212 : decode bb_Mo_way 212 = .ok (.aload_n 0, 1) := by decide +kernel
theorem dd_Mo_way_213 : decode bb_Mo_way 213 = .ok (.getfield 331, 3) := by decide +kernel
theorem dd_Mo_way_216 : decode bb_Mo_way 216 = .ok (.iaload, 1) := by decide +kernel
theorem dd_Mo_way_217 : decode bb_Mo_way 217 = .ok (.iadd, 1) := by decide +kernel
theorem dd_Mo_way_218 : decode bb_Mo_way 218 = .ok (.invokevirtual 348, 3) := by decide +kernel
theorem dd_Mo_way_221 : decode bb_Mo_way 221 = .ok (.aload_n 0, 1) := by decide +kernel
theorem dd_Mo_way_222 : decode bb_Mo_way 222 = .ok (.getfield 68, 3) := by decide +kernel
theorem dd_Mo_way_225 : decode bb_Mo_way 225 = .ok (.aload_n 0, 1) := by decide +kernel
theorem dd_Mo_way_226 : decode bb_Mo_way 226 = .ok (.getfield 331, 3) := by decide +kernel
theorem dd_Mo_way_229 : decode bb_Mo_way 229 = .ok (.dup2, 1) := by decide +kernel
theorem dd_Mo_way_230 : decode bb_Mo_way 230 = .ok (.iaload, 1) := by decide +kernel
theorem dd_Mo_way_231 : decode bb_Mo_way 231 = .ok (.iconst 1, 1) := by decide +kernel
theorem dd_Mo_way_232 : decode bb_Mo_way 232 = .ok (.iadd, 1) := by decide +kernel
theorem dd_Mo_way_233 : decode bb_Mo_way 233 = .ok (.iastore, 1) := by decide +kernel
theorem dd_Mo_way_234 : decode bb_Mo_way 234 = .ok (.aload_n 0, 1) := by decide +kernel
theorem dd_Mo_way_235 : decode bb_Mo_way 235 = .ok (.invokevirtual 313, 3) := by decide +kernel
theorem dd_Mo_way_238 : decode bb_Mo_way 238 = .ok (.aload_n 0, 1) := by decide +kernel
theorem dd_Mo_way_239 : decode bb_Mo_way 239 = .ok (.bipush 91, 2) := by decide +kernel
theorem dd_Mo_way_241 : decode bb_Mo_way 241 = .ok (.invokevirtual 334, 3) := by decide +kernel
theorem dd_Mo_way_244 : decode bb_Mo_way 244 = .ok (.aload_n 0, 1) := by decide +kernel
theorem dd_Mo_way_245 : decode bb_Mo_way 245 = .ok (.getfield 294, 3) := by decide +kernel
theorem dd_Mo_way_248 : decode bb_Mo_way 248 = .ok (.ifCond .ne 9, 3) := by decide +kernel
theorem dd_Mo_way_251 : decode bb_Mo_way 251 = .ok (.aload_n 0, 1) := by decide +kernel
theorem dd_Mo_way_252 : decode bb_Mo_way 252 = .ok (.iload 4, 2) := by decide +kernel
theorem dd_Mo_way_254 : decode bb_Mo_way 254 = .ok (.invokevirtual 357, 3) := by decide +kernel
theorem dd_Mo_way_257 : decode bb_Mo_way 257 = .ok (.aload_n 0, 1) := by decide +kernel
theorem dd_Mo_way_258 : decode bb_Mo_way 258 = .ok (.bipush 93, 2) := by decide +kernel
theorem dd_Mo_way_260 : decode bb_Mo_way 260 = .ok (.invokevirtual 334, 3) := by decide +kernel
theorem dd_Mo_way_263 : decode bb_Mo_way 263 = .ok (.aload_n 0, 1) := by decide +kernel
theorem dd_Mo_way_264 : decode bb_Mo_way 264 = .ok (.iload_n 2, 1) := by decide +kernel
theorem dd_Mo_way_265 : decode bb_Mo_way 265 = .ok (.ifCond .eq 8, 3) := by decide +kernel
theorem dd_Mo_way_268 : decode bb_Mo_way 268 = .ok (.bipush 45, 2) := by decide +kernel
theorem dd_Mo_way_270 : decode bb_Mo_way 270 = .ok (.goto 6, 3) := by decide +kernel
theorem dd_Mo_way_273 : decode bb_Mo_way 273 = .ok (.sipush 201, 3) := by decide +kernel
theorem dd_Mo_way_276 : decode bb_Mo_way 276 = .ok (.invokevirtual 334, 3) := by decide +kernel
theorem dd_Mo_way_279 : decode bb_Mo_way 279 = .ok (.aload_n 0, 1) := by decide +kernel
theorem dd_Mo_way_280 : decode bb_Mo_way 280 = .ok (.getfield 294, 3) := by decide +kernel
theorem dd_Mo_way_283 : decode bb_Mo_way 283 = .ok (.ifCond .eq 5, 3) := by decide +kernel
theorem dd_Mo_way_286 : decode bb_Mo_way 286 = .ok (.iload_n 1, 1) := by decide +kernel
theorem dd_Mo_way_287 : decode bb_Mo_way 287 = .ok (.ireturn, 1) := by decide +kernel
theorem dd_Mo_way_288 : decode bb_Mo_way 288 = .ok (.aload_n 0, 1) := by decide +kernel
theorem dd_Mo_way_289 : decode bb_Mo_way 289 = .ok (.invokevirtual 351, 3) := by decide +kernel
theorem dd_Mo_way_292 : decode bb_Mo_way 292 = .ok (.istore 5, 2) := by decide +kernel
theorem dd_Mo_way_294 : decode bb_Mo_way 294 = .ok (.aload_n 0, 1) := by decide +kernel
theorem dd_Mo_way_295 : decode bb_Mo_way 295 = .ok (.getfield 83, 3) := by decide +kernel
theorem dd_Mo_way_298 : decode bb_Mo_way 298 = .ok (.iload 4, 2) := by decide +kernel
theorem dd_Mo_way_300 : decode bb_Mo_way 300 = .ok (.aload_n 0, 1) := by decide +kernel
theorem dd_Mo_way_301 : decode bb_Mo_way 301 = .ok (.getfield 325, 3) := by decide +kernel
theorem dd_Mo_way_304 : decode bb_Mo_way 304 = .ok (.iastore, 1) := by decide +kernel
theorem dd_Mo_way_305 : decode bb_Mo_way 305 = .ok (.aload_n 0, 1) := by decide +kernel
theorem dd_Mo_way_306 : decode bb_Mo_way 306 = .ok (.getfield 232, 3) := by decide +kernel
theorem dd_Mo_way_309 : decode bb_Mo_way 309 = .ok (.iload 4, 2) := by decide +kernel
theorem dd_Mo_way_311 : decode bb_Mo_way 311 = .ok (.iload_n 2, 1) := by decide +kernel
theorem dd_Mo_way_312 : decode bb_Mo_way 312 = .ok (.bastore, 1) := by decide +kernel
theorem dd_Mo_way_313 : decode bb_Mo_way 313 = .ok (.aload_n 0, 1) := by decide +kernel
theorem dd_Mo_way_314 : decode bb_Mo_way 314 = .ok (.getfield 86, 3) := by decide +kernel
theorem dd_Mo_way_317 : decode bb_Mo_way 317 = .ok (.iload 4, 2) := by decide +kernel
theorem dd_Mo_way_319 : decode bb_Mo_way 319 = .ok (.iload_n 2, 1) := by decide +kernel
theorem dd_Mo_way_320 : decode bb_Mo_way 320 = .ok (.ifCond .eq 8, 3) := by decide +kernel
theorem dd_Mo_way_323 : decode bb_Mo_way 323 = .ok (.iload 5, 2) := by decide +kernel
theorem dd_Mo_way_325 : decode bb_Mo_way 325 = .ok (.goto 4, 3) := by decide +kernel
theorem dd_Mo_way_328 : decode bb_Mo_way 328 = .ok (.iload_n 1, 1) := by decide +kernel
theorem dd_Mo_way_329 : decode bb_Mo_way 329 = .ok (.iastore, 1) := by decide +kernel
theorem dd_Mo_way_330 : decode bb_Mo_way 330 = .ok (.aload_n 0, 1) := by decide +kernel
theorem dd_Mo_way_331 : decode bb_Mo_way 331 = .ok (.getfield 89, 3) := by decide +kernel
theorem dd_Mo_way_334 : decode bb_Mo_way 334 = .ok (.iload 4, 2) := by decide +kernel
theorem dd_Mo_way_336 : decode bb_Mo_way 336 = .ok (.iload_n 2, 1) := by decide +kernel
theorem dd_Mo_way_337 : decode bb_Mo_way 337 = .ok (.ifCond .eq 7, 3) := by decide +kernel
theorem dd_Mo_way_340 : decode bb_Mo_way 340 = .ok (.iload_n 1, 1) := by decide +kernel
theorem dd_Mo_way_341 : decode bb_Mo_way 341 = .ok (.goto 5, 3) := by decide +kernel
theorem dd_Mo_way_344 : decode bb_Mo_way 344 = .ok (.iload 5, 2) := by decide +kernel
theorem dd_Mo_way_346 : decode bb_Mo_way 346 = .ok (.iastore, 1) := by decide +kernel
theorem dd_Mo_way_347 : decode bb_Mo_way 347 = .ok (.iload 5, 2) := by decide +kernel
theorem dd_Mo_way_349 : decode bb_Mo_way 349 = .ok (.ireturn, 1) := by decide +kernel
set_option maxRecDepth 100000 in
set_option maxHeartbeats 4000000 in
theorem t_Mo_way_346  (X : zX p s m args cd D cid B bb_Mo_way 6 rr_Mo zT) (H : zH s meth B n0 (some (.int)) "way") {nf : Nat} {x5 : Int32} {s0 : Nat} {s1 : Int32} {s2 : Int32} {c : Zc} {res : Int32 × Zc} (h : f_Mo_way_346 nf x5 s0 s1 s2 c = some res) : Zz p l e (zRm 7 157 0 0) s m args below meth cd (MQ below (zQi D cid B res.1 res.2 n0 0) args s 0 0 (fun q => B ≤ q)) D cid B 6 0 0 c 346 [(5, .int x5)] [.int s2, .int s1, .ref s0] := by
  unfold f_Mo_way_346 at h
  obtain ⟨c52, ec52, h⟩ := zb h
  refine z_iastore X dd_Mo_way_346 rfl ec52 ?_
  refine z_iload X dd_Mo_way_347 0 rfl ?_
  obtain rfl := Option.some.inj h
  exact z_iret X H.1 H.2.1 H.2.2.1 dd_Mo_way_349
set_option maxRecDepth 100000 in
set_option maxHeartbeats 4000000 in
theorem t_Mo_way_329  (X : zX p s m args cd D cid B bb_Mo_way 6 rr_Mo zT) (H : zH s meth B n0 (some (.int)) "way") {nf : Nat} {x0 : Nat} {x1 : Int32} {x2 : Int32} {x4 : Int32} {x5 : Int32} {s0 : Nat} {s1 : Int32} {s2 : Int32} {c : Zc} {res : Int32 × Zc} (h : f_Mo_way_329 nf x0 x1 x2 x4 x5 s0 s1 s2 c = some res) : Zz p l e (zRm 7 157 0 0) s m args below meth cd (MQ below (zQi D cid B res.1 res.2 n0 0) args s 0 0 (fun q => B ≤ q)) D cid B 6 0 0 c 329 [(0, .ref x0), (1, .int x1), (2, .int x2), (4, .int x4), (5, .int x5)] [.int s2, .int s1, .ref s0] := by
  unfold f_Mo_way_329 at h
  obtain ⟨c49, ec49, h⟩ := zb h
  refine z_iastore X dd_Mo_way_329 rfl ec49 ?_
  refine z_aload_n X dd_Mo_way_330 rfl 0 rfl ?_
  obtain ⟨v50, ev50, h⟩ := zb h
  refine z_get (j := 34) X dd_Mo_way_331 kc_12 ki_12 (by decide) km_1555 (zgr_v ev50) ?_
  refine z_iload X dd_Mo_way_334 3 rfl ?_
  refine z_iload_n X dd_Mo_way_336 rfl 2 rfl ?_
  refine z_if_eq (tgt := 344) X dd_Mo_way_337 (by decide) (fun q51 => ?_) (fun q51 => ?_)
  · rw [if_pos q51] at h
    refine z_iload X dd_Mo_way_344 4 rfl ?_
    refine z_sub [4] rfl ?_
    exact t_Mo_way_346 X H h
  · rw [if_neg q51] at h
    refine z_iload_n X dd_Mo_way_340 rfl 1 rfl ?_
    refine z_goto (tgt := 346) X dd_Mo_way_341 (by decide) ?_
    refine z_sub [4] rfl ?_
    exact t_Mo_way_346 X H h
set_option maxRecDepth 100000 in
set_option maxHeartbeats 4000000 in
theorem t_Mo_way_276  (X : zX p s m args cd D cid B bb_Mo_way 6 rr_Mo zT) (H : zH s meth B n0 (some (.int)) "way") {nf : Nat} {x0 : Nat} {x1 : Int32} {x2 : Int32} {x4 : Int32} {s0 : Nat} {s1 : Int32} {c : Zc} {res : Int32 × Zc} (h : f_Mo_way_276 nf x0 x1 x2 x4 s0 s1 c = some res) : Zz p l e (zRm 7 157 0 0) s m args below meth cd (MQ below (zQi D cid B res.1 res.2 n0 0) args s 0 0 (fun q => B ≤ q)) D cid B 6 0 0 c 276 [(0, .ref x0), (1, .int x1), (2, .int x2), (4, .int x4)] [.int s1, .ref s0] := by
  unfold f_Mo_way_276 at h
  obtain ⟨w37, ew37, h⟩ := zb h
  obtain ⟨q36, eq36, h⟩ := zb h
  refine z_callVv X [.int s1] rfl dd_Mo_way_276 (c_Mo_need l eq36) (cwV 1 X.1.2.2.2.2 (zg_V km_1904 km_1906 km_68 km_138 km_1907) rfl rfl rfl (by decide +kernel) ⟨Nat.le_of_ble_eq_true rfl, Nat.le_of_ble_eq_true rfl⟩) (zob_s ew37) kc_12 rfl (Nat.le_of_ble_eq_true rfl) ⟨Nat.le_of_ble_eq_true rfl, Nat.le_of_ble_eq_true rfl⟩ ?_
  refine z_aload_n X dd_Mo_way_279 rfl 0 rfl ?_
  obtain ⟨v38, ev38, h⟩ := zb h
  refine z_get (j := 19) X dd_Mo_way_280 kc_12 ki_12 (by decide) km_1540 (zgi_v ev38) ?_
  refine z_if_eq (tgt := 288) X dd_Mo_way_283 (by decide) (fun q39 => ?_) (fun q39 => ?_)
  · rw [if_pos q39] at h
    refine z_aload_n X dd_Mo_way_288 rfl 0 rfl ?_
    obtain ⟨w41, ew41, h⟩ := zb h
    obtain ⟨q40, eq40, h⟩ := zb h
    refine z_callVi X [] rfl dd_Mo_way_289 (c_Mo_nodeOf l eq40) (cwV 0 X.1.2.2.2.2 (zg_V km_1936 km_1938 km_76 km_138 km_1939) rfl rfl rfl (by decide +kernel) ⟨Nat.le_of_ble_eq_true rfl, Nat.le_of_ble_eq_true rfl⟩) (zob_s ew41) kc_12 rfl (Nat.le_of_ble_eq_true rfl) ⟨Nat.le_of_ble_eq_true rfl, Nat.le_of_ble_eq_true rfl⟩ ?_
    refine z_istore (lv' := [(5, .int q40.1), (0, .ref x0), (1, .int x1), (2, .int x2), (4, .int x4)]) X dd_Mo_way_292 (by decide) rfl ?_
    refine z_aload_n X dd_Mo_way_294 rfl 1 rfl ?_
    obtain ⟨v42, ev42, h⟩ := zb h
    refine z_get (j := 32) X dd_Mo_way_295 kc_12 ki_12 (by decide) km_1553 (zgr_v ev42) ?_
    refine z_iload X dd_Mo_way_298 4 rfl ?_
    refine z_aload_n X dd_Mo_way_300 rfl 1 rfl ?_
    obtain ⟨v43, ev43, h⟩ := zb h
    refine z_get (j := 56) X dd_Mo_way_301 kc_12 ki_12 (by decide) km_1577 (zgi_v ev43) ?_
    obtain ⟨c44, ec44, h⟩ := zb h
    refine z_iastore X dd_Mo_way_304 rfl ec44 ?_
    refine z_aload_n X dd_Mo_way_305 rfl 1 rfl ?_
    obtain ⟨v45, ev45, h⟩ := zb h
    refine z_get (j := 89) X dd_Mo_way_306 kc_12 ki_12 (by decide) km_1610 (zgr_v ev45) ?_
    refine z_iload X dd_Mo_way_309 4 rfl ?_
    refine z_iload_n X dd_Mo_way_311 rfl 3 rfl ?_
    obtain ⟨c46, ec46, h⟩ := zb h
    refine z_zastore X dd_Mo_way_312 rfl ec46 ?_
    refine z_aload_n X dd_Mo_way_313 rfl 1 rfl ?_
    obtain ⟨v47, ev47, h⟩ := zb h
    refine z_get (j := 33) X dd_Mo_way_314 kc_12 ki_12 (by decide) km_1554 (zgr_v ev47) ?_
    refine z_iload X dd_Mo_way_317 4 rfl ?_
    refine z_iload_n X dd_Mo_way_319 rfl 3 rfl ?_
    refine z_if_eq (tgt := 328) X dd_Mo_way_320 (by decide) (fun q48 => ?_) (fun q48 => ?_)
    · rw [if_pos q48] at h
      refine z_iload_n X dd_Mo_way_328 rfl 2 rfl ?_
      refine z_sub [1, 2, 3, 4, 0] rfl ?_
      exact t_Mo_way_329 X H h
    · rw [if_neg q48] at h
      refine z_iload X dd_Mo_way_323 0 rfl ?_
      refine z_goto (tgt := 329) X dd_Mo_way_325 (by decide) ?_
      refine z_sub [1, 2, 3, 4, 0] rfl ?_
      exact t_Mo_way_329 X H h
  · rw [if_neg q39] at h
    refine z_iload_n X dd_Mo_way_286 rfl 1 rfl ?_
    obtain rfl := Option.some.inj h
    exact z_iret X H.1 H.2.1 H.2.2.1 dd_Mo_way_287
set_option maxRecDepth 100000 in
set_option maxHeartbeats 4000000 in
theorem t_Mo_way_257  (X : zX p s m args cd D cid B bb_Mo_way 6 rr_Mo zT) (H : zH s meth B n0 (some (.int)) "way") {nf : Nat} {x0 : Nat} {x1 : Int32} {x2 : Int32} {x4 : Int32} {c : Zc} {res : Int32 × Zc} (h : f_Mo_way_257 nf x0 x1 x2 x4 c = some res) : Zz p l e (zRm 7 157 0 0) s m args below meth cd (MQ below (zQi D cid B res.1 res.2 n0 0) args s 0 0 (fun q => B ≤ q)) D cid B 6 0 0 c 257 [(0, .ref x0), (1, .int x1), (2, .int x2), (4, .int x4)] [] := by
  unfold f_Mo_way_257 at h
  refine z_aload_n X dd_Mo_way_257 rfl 0 rfl ?_
  refine z_bipush (v := 93) X dd_Mo_way_258 (by decide) ?_
  obtain ⟨w34, ew34, h⟩ := zb h
  obtain ⟨q33, eq33, h⟩ := zb h
  refine z_callVv X [.int 93] rfl dd_Mo_way_260 (c_Mo_need l eq33) (cwV 1 X.1.2.2.2.2 (zg_V km_1904 km_1906 km_68 km_138 km_1907) rfl rfl rfl (by decide +kernel) ⟨Nat.le_of_ble_eq_true rfl, Nat.le_of_ble_eq_true rfl⟩) (zob_s ew34) kc_12 rfl (Nat.le_of_ble_eq_true rfl) ⟨Nat.le_of_ble_eq_true rfl, Nat.le_of_ble_eq_true rfl⟩ ?_
  refine z_aload_n X dd_Mo_way_263 rfl 0 rfl ?_
  refine z_iload_n X dd_Mo_way_264 rfl 2 rfl ?_
  refine z_if_eq (tgt := 273) X dd_Mo_way_265 (by decide) (fun q35 => ?_) (fun q35 => ?_)
  · rw [if_pos q35] at h
    refine z_sipush (v := 201) X dd_Mo_way_273 (by decide) ?_
    exact t_Mo_way_276 X H h
  · rw [if_neg q35] at h
    refine z_bipush (v := 45) X dd_Mo_way_268 (by decide) ?_
    refine z_goto (tgt := 276) X dd_Mo_way_270 (by decide) ?_
    exact t_Mo_way_276 X H h
set_option maxRecDepth 100000 in
set_option maxHeartbeats 4000000 in
theorem t_Mo_way_238  (X : zX p s m args cd D cid B bb_Mo_way 6 rr_Mo zT) (H : zH s meth B n0 (some (.int)) "way") {nf : Nat} {x0 : Nat} {x1 : Int32} {x2 : Int32} {x4 : Int32} {c : Zc} {res : Int32 × Zc} (h : f_Mo_way_238 nf x0 x1 x2 x4 c = some res) : Zz p l e (zRm 7 157 0 0) s m args below meth cd (MQ below (zQi D cid B res.1 res.2 n0 0) args s 0 0 (fun q => B ≤ q)) D cid B 6 0 0 c 238 [(0, .ref x0), (1, .int x1), (2, .int x2), (4, .int x4)] [] := by
  unfold f_Mo_way_238 at h
  refine z_aload_n X dd_Mo_way_238 rfl 0 rfl ?_
  refine z_bipush (v := 91) X dd_Mo_way_239 (by decide) ?_
  obtain ⟨w30, ew30, h⟩ := zb h
  obtain ⟨q29, eq29, h⟩ := zb h
  refine z_callVv X [.int 91] rfl dd_Mo_way_241 (c_Mo_need l eq29) (cwV 1 X.1.2.2.2.2 (zg_V km_1904 km_1906 km_68 km_138 km_1907) rfl rfl rfl (by decide +kernel) ⟨Nat.le_of_ble_eq_true rfl, Nat.le_of_ble_eq_true rfl⟩) (zob_s ew30) kc_12 rfl (Nat.le_of_ble_eq_true rfl) ⟨Nat.le_of_ble_eq_true rfl, Nat.le_of_ble_eq_true rfl⟩ ?_
  refine z_aload_n X dd_Mo_way_244 rfl 0 rfl ?_
  obtain ⟨v31, ev31, h⟩ := zb h
  refine z_get (j := 19) X dd_Mo_way_245 kc_12 ki_12 (by decide) km_1540 (zgi_v ev31) ?_
  refine z_if_ne (tgt := 257) X dd_Mo_way_248 (by decide) (fun q32 => ?_) (fun q32 => ?_)
  · rw [if_neg q32] at h
    exact t_Mo_way_257 X H h
  · rw [if_pos q32] at h
    refine z_aload_n X dd_Mo_way_251 rfl 0 rfl ?_
    refine z_iload X dd_Mo_way_252 3 rfl ?_
    obtain ⟨w54, ew54, h⟩ := zb h
    obtain ⟨q53, eq53, h⟩ := zb h
    refine z_callVv X [.int x4] rfl dd_Mo_way_254 (c_Mo_rows l eq53) (cwV 1 X.1.2.2.2.2 (zg_V km_1960 km_1962 km_82 km_138 km_1963) rfl rfl rfl (by decide +kernel) ⟨Nat.le_of_ble_eq_true rfl, Nat.le_of_ble_eq_true rfl⟩) (zob_s ew54) kc_12 rfl (Nat.le_of_ble_eq_true rfl) ⟨Nat.le_of_ble_eq_true rfl, Nat.le_of_ble_eq_true rfl⟩ ?_
    exact t_Mo_way_257 X H h
set_option maxRecDepth 100000 in
set_option maxHeartbeats 4000000 in
theorem t_Mo_way_234  (X : zX p s m args cd D cid B bb_Mo_way 6 rr_Mo zT) (H : zH s meth B n0 (some (.int)) "way") {nf : Nat} {x0 : Nat} {x1 : Int32} {x2 : Int32} {x4 : Int32} {c : Zc} {res : Int32 × Zc} (h : f_Mo_way_234 nf x0 x1 x2 x4 c = some res) : Zz p l e (zRm 7 157 0 0) s m args below meth cd (MQ below (zQi D cid B res.1 res.2 n0 0) args s 0 0 (fun q => B ≤ q)) D cid B 6 0 0 c 234 [(0, .ref x0), (1, .int x1), (2, .int x2), (4, .int x4)] [] := by
  unfold f_Mo_way_234 at h
  refine z_aload_n X dd_Mo_way_234 rfl 0 rfl ?_
  obtain ⟨w69, ew69, h⟩ := zb h
  obtain ⟨q68, eq68, h⟩ := zb h
  refine z_callVv X [] rfl dd_Mo_way_235 (c_Mo_pass l eq68) (cwV 0 X.1.2.2.2.2 (zg_V km_1920 km_1922 km_72 km_138 km_1923) rfl rfl rfl (by decide +kernel) ⟨Nat.le_of_ble_eq_true rfl, Nat.le_of_ble_eq_true rfl⟩) (zob_s ew69) kc_12 rfl (Nat.le_of_ble_eq_true rfl) ⟨Nat.le_of_ble_eq_true rfl, Nat.le_of_ble_eq_true rfl⟩ ?_
  exact t_Mo_way_238 X H h
set_option maxRecDepth 100000 in
set_option maxHeartbeats 4000000 in
theorem t_Mo_way_164  (X : zX p s m args cd D cid B bb_Mo_way 6 rr_Mo zT) (H : zH s meth B n0 (some (.int)) "way") {nf : Nat} {x0 : Nat} {x1 : Int32} {x2 : Int32} {x4 : Int32} {x5 : Int32} {c : Zc} {res : Int32 × Zc} (h : f_Mo_way_164 nf x0 x1 x2 x4 x5 c = some res) : Zz p l e (zRm 7 157 0 0) s m args below meth cd (MQ below (zQi D cid B res.1 res.2 n0 0) args s 0 0 (fun q => B ≤ q)) D cid B 6 0 0 c 164 [(0, .ref x0), (1, .int x1), (2, .int x2), (4, .int x4), (5, .int x5)] [] := by
  unfold f_Mo_way_164 at h
  refine z_aload_n X dd_Mo_way_164 rfl 0 rfl ?_
  obtain ⟨v66, ev66, h⟩ := zb h
  refine z_get (j := 19) X dd_Mo_way_165 kc_12 ki_12 (by decide) km_1540 (zgi_v ev66) ?_
  refine z_if_ne (tgt := 234) X dd_Mo_way_168 (by decide) (fun q67 => ?_) (fun q67 => ?_)
  · rw [if_neg q67] at h
    refine z_sub [0, 1, 2, 3] rfl ?_
    exact t_Mo_way_234 X H h
  · rw [if_pos q67] at h
    refine z_aload_n X dd_Mo_way_171 rfl 0 rfl ?_
    refine z_aload_n X dd_Mo_way_172 rfl 0 rfl ?_
    obtain ⟨v70, ev70, h⟩ := zb h
    refine z_get (j := 16) X dd_Mo_way_173 kc_12 ki_12 (by decide) km_1537 (zgr_v ev70) ?_
    refine z_aload_n X dd_Mo_way_176 rfl 0 rfl ?_
    obtain ⟨v71, ev71, h⟩ := zb h
    refine z_get (j := 18) X dd_Mo_way_177 kc_12 ki_12 (by decide) km_1539 (zgi_v ev71) ?_
    obtain ⟨v72, ev72, h⟩ := zb h
    refine z_iaload X dd_Mo_way_180 rfl ev72 ?_
    obtain ⟨w74, ew74, h⟩ := zb h
    obtain ⟨q73, eq73, h⟩ := zb h
    refine z_callVi X [.int v72] rfl dd_Mo_way_181 (c_Mo_oneMore l eq73) (cwV 1 X.1.2.2.2.2 (zg_V km_1944 km_1946 km_78 km_138 km_1947) rfl rfl rfl (by decide +kernel) ⟨Nat.le_of_ble_eq_true rfl, Nat.le_of_ble_eq_true rfl⟩) (zob_s ew74) kc_12 rfl (Nat.le_of_ble_eq_true rfl) ⟨Nat.le_of_ble_eq_true rfl, Nat.le_of_ble_eq_true rfl⟩ ?_
    refine z_if_eq (tgt := 234) X dd_Mo_way_184 (by decide) (fun q75 => ?_) (fun q75 => ?_)
    · rw [if_pos q75] at h
      refine z_sub [0, 1, 2, 3] rfl ?_
      exact t_Mo_way_234 X H h
    · rw [if_neg q75] at h
      refine z_aload_n X dd_Mo_way_187 rfl 0 rfl ?_
      obtain ⟨v76, ev76, h⟩ := zb h
      refine z_get (j := 35) X dd_Mo_way_188 kc_12 ki_12 (by decide) km_1556 (zgr_v ev76) ?_
      refine z_iload X dd_Mo_way_191 3 rfl ?_
      refine z_aload_n X dd_Mo_way_193 rfl 0 rfl ?_
      obtain ⟨v77, ev77, h⟩ := zb h
      refine z_get (j := 27) X dd_Mo_way_194 kc_12 ki_12 (by decide) km_1548 (zgr_v ev77) ?_
      refine z_aload_n X dd_Mo_way_197 rfl 0 rfl ?_
      obtain ⟨v78, ev78, h⟩ := zb h
      refine z_get (j := 25) X dd_Mo_way_198 kc_12 ki_12 (by decide) km_1546 (zgi_v ev78) ?_
      obtain ⟨v79, ev79, h⟩ := zb h
      refine z_iaload X dd_Mo_way_201 rfl ev79 ?_
      obtain ⟨c80, ec80, h⟩ := zb h
      refine z_iastore X dd_Mo_way_202 rfl ec80 ?_
      refine z_aload_n X dd_Mo_way_203 rfl 0 rfl ?_
      refine z_iload X dd_Mo_way_204 4 rfl ?_
      refine z_bipush (v := 100) X dd_Mo_way_206 (by decide) ?_
      refine z_aload_n X dd_Mo_way_208 rfl 0 rfl ?_
      obtain ⟨v81, ev81, h⟩ := zb h
      refine z_get (j := 27) X dd_Mo_way_209 kc_12 ki_12 (by decide) km_1548 (zgr_v ev81) ?_
      refine z_aload_n X dd_Mo_way_212 rfl 0 rfl ?_
      obtain ⟨v82, ev82, h⟩ := zb h
      refine z_get (j := 25) X dd_Mo_way_213 kc_12 ki_12 (by decide) km_1546 (zgi_v ev82) ?_
      obtain ⟨v83, ev83, h⟩ := zb h
      refine z_iaload X dd_Mo_way_216 rfl ev83 ?_
      refine z_iadd X dd_Mo_way_217 ?_
      obtain ⟨w85, ew85, h⟩ := zb h
      obtain ⟨q84, eq84, h⟩ := zb h
      refine z_callVv X [.int x5, .int (100 + v83)] rfl dd_Mo_way_218 (c_Mo_learn l eq84) (cwV 2 X.1.2.2.2.2 (zg_V km_1952 km_1954 km_80 km_138 km_1955) rfl rfl rfl (by decide +kernel) ⟨Nat.le_of_ble_eq_true rfl, Nat.le_of_ble_eq_true rfl⟩) (zob_s ew85) kc_12 rfl (Nat.le_of_ble_eq_true rfl) ⟨Nat.le_of_ble_eq_true rfl, Nat.le_of_ble_eq_true rfl⟩ ?_
      refine z_aload_n X dd_Mo_way_221 rfl 0 rfl ?_
      obtain ⟨v86, ev86, h⟩ := zb h
      refine z_get (j := 27) X dd_Mo_way_222 kc_12 ki_12 (by decide) km_1548 (zgr_v ev86) ?_
      refine z_aload_n X dd_Mo_way_225 rfl 0 rfl ?_
      obtain ⟨v87, ev87, h⟩ := zb h
      refine z_get (j := 25) X dd_Mo_way_226 kc_12 ki_12 (by decide) km_1546 (zgi_v ev87) ?_
      refine z_dup2_11 X dd_Mo_way_229 rfl rfl ?_
      obtain ⟨v88, ev88, h⟩ := zb h
      refine z_iaload X dd_Mo_way_230 rfl ev88 ?_
      refine z_iconst (v := 1) X dd_Mo_way_231 (by decide) ?_
      refine z_iadd X dd_Mo_way_232 ?_
      obtain ⟨c89, ec89, h⟩ := zb h
      refine z_iastore X dd_Mo_way_233 rfl ec89 ?_
      refine z_sub [0, 1, 2, 3] rfl ?_
      exact t_Mo_way_234 X H h
set_option maxRecDepth 100000 in
set_option maxHeartbeats 4000000 in
theorem t_Mo_way_20  (X : zX p s m args cd D cid B bb_Mo_way 6 rr_Mo zT) (H : zH s meth B n0 (some (.int)) "way") {nf : Nat} {x0 : Nat} {x1 : Int32} {s0 : Int32} {c : Zc} {res : Int32 × Zc} (h : f_Mo_way_20 nf x0 x1 s0 c = some res) : Zz p l e (zRm 7 157 0 0) s m args below meth cd (MQ below (zQi D cid B res.1 res.2 n0 0) args s 0 0 (fun q => B ≤ q)) D cid B 6 0 0 c 20 [(0, .ref x0), (1, .int x1)] [.int s0] := by
  unfold f_Mo_way_20 at h
  refine z_istore_n (lv' := [(2, .int s0), (0, .ref x0), (1, .int x1)]) X dd_Mo_way_20 rfl (by decide) rfl ?_
  refine z_aload_n X dd_Mo_way_21 rfl 1 rfl ?_
  obtain ⟨v5, ev5, h⟩ := zb h
  refine z_get (j := 16) X dd_Mo_way_22 kc_12 ki_12 (by decide) km_1537 (zgr_v ev5) ?_
  refine z_aload_n X dd_Mo_way_25 rfl 1 rfl ?_
  obtain ⟨v6, ev6, h⟩ := zb h
  refine z_get (j := 18) X dd_Mo_way_26 kc_12 ki_12 (by decide) km_1539 (zgi_v ev6) ?_
  obtain ⟨v7, ev7, h⟩ := zb h
  refine z_iaload X dd_Mo_way_29 rfl ev7 ?_
  refine z_istore_n (lv' := [(3, .int v7), (2, .int s0), (0, .ref x0), (1, .int x1)]) X dd_Mo_way_30 rfl (by decide) rfl ?_
  refine z_aload_n X dd_Mo_way_31 rfl 2 rfl ?_
  obtain ⟨w9, ew9, h⟩ := zb h
  obtain ⟨q8, eq8, h⟩ := zb h
  refine z_callVv X [] rfl dd_Mo_way_32 (c_Mo_stands l eq8) (cwV 0 X.1.2.2.2.2 (zg_V km_1924 km_1926 km_73 km_138 km_1927) rfl rfl rfl (by decide +kernel) ⟨Nat.le_of_ble_eq_true rfl, Nat.le_of_ble_eq_true rfl⟩) (zob_s ew9) kc_12 rfl (Nat.le_of_ble_eq_true rfl) ⟨Nat.le_of_ble_eq_true rfl, Nat.le_of_ble_eq_true rfl⟩ ?_
  refine z_aload_n X dd_Mo_way_35 rfl 2 rfl ?_
  obtain ⟨v10, ev10, h⟩ := zb h
  refine z_get (j := 31) X dd_Mo_way_36 kc_12 ki_12 (by decide) km_1552 (zgr_v ev10) ?_
  refine z_aload_n X dd_Mo_way_39 rfl 2 rfl ?_
  obtain ⟨v11, ev11, h⟩ := zb h
  refine z_get (j := 25) X dd_Mo_way_40 kc_12 ki_12 (by decide) km_1546 (zgi_v ev11) ?_
  obtain ⟨v12, ev12, h⟩ := zb h
  refine z_iaload X dd_Mo_way_43 rfl ev12 ?_
  refine z_bipush (v := 10) X dd_Mo_way_44 (by decide) ?_
  refine z_icmp_ne (tgt := 57) X dd_Mo_way_46 (by decide) (fun q13 => ?_) (fun q13 => ?_)
  · rw [if_neg q13] at h
    refine z_bipush (v := 11) X dd_Mo_way_57 (by decide) ?_
    refine z_aload_n X dd_Mo_way_59 rfl 2 rfl ?_
    obtain ⟨v14, ev14, h⟩ := zb h
    refine z_get (j := 25) X dd_Mo_way_60 kc_12 ki_12 (by decide) km_1546 (zgi_v ev14) ?_
    refine z_imul X dd_Mo_way_63 ?_
    refine z_aload_n X dd_Mo_way_64 rfl 2 rfl ?_
    obtain ⟨v15, ev15, h⟩ := zb h
    refine z_get (j := 31) X dd_Mo_way_65 kc_12 ki_12 (by decide) km_1552 (zgr_v ev15) ?_
    refine z_aload_n X dd_Mo_way_68 rfl 2 rfl ?_
    obtain ⟨v16, ev16, h⟩ := zb h
    refine z_get (j := 25) X dd_Mo_way_69 kc_12 ki_12 (by decide) km_1546 (zgi_v ev16) ?_
    obtain ⟨v17, ev17, h⟩ := zb h
    refine z_iaload X dd_Mo_way_72 rfl ev17 ?_
    refine z_iadd X dd_Mo_way_73 ?_
    refine z_istore (lv' := [(4, .int ((11 * v14) + v17)), (3, .int v7), (2, .int s0), (0, .ref x0), (1, .int x1)]) X dd_Mo_way_74 (by decide) rfl ?_
    refine z_aload_n X dd_Mo_way_76 rfl 3 rfl ?_
    obtain ⟨v18, ev18, h⟩ := zb h
    refine z_get (j := 31) X dd_Mo_way_77 kc_12 ki_12 (by decide) km_1552 (zgr_v ev18) ?_
    refine z_aload_n X dd_Mo_way_80 rfl 3 rfl ?_
    obtain ⟨v19, ev19, h⟩ := zb h
    refine z_get (j := 25) X dd_Mo_way_81 kc_12 ki_12 (by decide) km_1546 (zgi_v ev19) ?_
    refine z_dup2_11 X dd_Mo_way_84 rfl rfl ?_
    obtain ⟨v20, ev20, h⟩ := zb h
    refine z_iaload X dd_Mo_way_85 rfl ev20 ?_
    refine z_iconst (v := 1) X dd_Mo_way_86 (by decide) ?_
    refine z_iadd X dd_Mo_way_87 ?_
    obtain ⟨c21, ec21, h⟩ := zb h
    refine z_iastore X dd_Mo_way_88 rfl ec21 ?_
    refine z_aload_n X dd_Mo_way_89 rfl 3 rfl ?_
    obtain ⟨w23, ew23, h⟩ := zb h
    obtain ⟨q22, eq22, h⟩ := zb h
    refine z_callVv X [] rfl dd_Mo_way_90 (c_Mo_pass l eq22) (cwV 0 X.1.2.2.2.2 (zg_V km_1920 km_1922 km_72 km_138 km_1923) rfl rfl rfl (by decide +kernel) ⟨Nat.le_of_ble_eq_true rfl, Nat.le_of_ble_eq_true rfl⟩) (zob_s ew23) kc_12 rfl (Nat.le_of_ble_eq_true rfl) ⟨Nat.le_of_ble_eq_true rfl, Nat.le_of_ble_eq_true rfl⟩ ?_
    refine z_aload_n X dd_Mo_way_93 rfl 3 rfl ?_
    obtain ⟨v24, ev24, h⟩ := zb h
    refine z_get (j := 35) X dd_Mo_way_94 kc_12 ki_12 (by decide) km_1556 (zgr_v ev24) ?_
    refine z_iload X dd_Mo_way_97 0 rfl ?_
    refine z_iconst (v := (-1)) X dd_Mo_way_99 (by decide) ?_
    obtain ⟨c25, ec25, h⟩ := zb h
    refine z_iastore X dd_Mo_way_100 rfl ec25 ?_
    refine z_aload_n X dd_Mo_way_101 rfl 3 rfl ?_
    refine z_bipush (v := 108) X dd_Mo_way_102 (by decide) ?_
    obtain ⟨w27, ew27, h⟩ := zb h
    obtain ⟨q26, eq26, h⟩ := zb h
    refine z_callVi X [.int 108] rfl dd_Mo_way_104 (c_Mo_takes l eq26) (cwV 1 X.1.2.2.2.2 (zg_V km_1908 km_1910 km_69 km_138 km_1911) rfl rfl rfl (by decide +kernel) ⟨Nat.le_of_ble_eq_true rfl, Nat.le_of_ble_eq_true rfl⟩) (zob_s ew27) kc_12 rfl (Nat.le_of_ble_eq_true rfl) ⟨Nat.le_of_ble_eq_true rfl, Nat.le_of_ble_eq_true rfl⟩ ?_
    refine z_if_eq (tgt := 238) X dd_Mo_way_107 (by decide) (fun q28 => ?_) (fun q28 => ?_)
    · rw [if_pos q28] at h
      refine z_sub [3, 4, 2, 0] rfl ?_
      exact t_Mo_way_238 X H h
    · rw [if_neg q28] at h
      refine z_aload_n X dd_Mo_way_110 rfl 3 rfl ?_
      obtain ⟨w56, ew56, h⟩ := zb h
      obtain ⟨q55, eq55, h⟩ := zb h
      refine z_callVi X [] rfl dd_Mo_way_111 (c_Mo_kind l eq55) (cwV 0 X.1.2.2.2.2 (zg_V km_1912 km_1914 km_70 km_138 km_1915) rfl rfl rfl (by decide +kernel) ⟨Nat.le_of_ble_eq_true rfl, Nat.le_of_ble_eq_true rfl⟩) (zob_s ew56) kc_12 rfl (Nat.le_of_ble_eq_true rfl) ⟨Nat.le_of_ble_eq_true rfl, Nat.le_of_ble_eq_true rfl⟩ ?_
      refine z_iconst (v := 2) X dd_Mo_way_114 (by decide) ?_
      refine z_icmp_eq (tgt := 125) X dd_Mo_way_115 (by decide) (fun q57 => ?_) (fun q57 => ?_)
      · rw [if_pos q57] at h
        refine z_aload_n X dd_Mo_way_125 rfl 3 rfl ?_
        obtain ⟨w59, ew59, h⟩ := zb h
        obtain ⟨q58, eq58, h⟩ := zb h
        refine z_callVv X [] rfl dd_Mo_way_126 (c_Mo_stands l eq58) (cwV 0 X.1.2.2.2.2 (zg_V km_1924 km_1926 km_73 km_138 km_1927) rfl rfl rfl (by decide +kernel) ⟨Nat.le_of_ble_eq_true rfl, Nat.le_of_ble_eq_true rfl⟩) (zob_s ew59) kc_12 rfl (Nat.le_of_ble_eq_true rfl) ⟨Nat.le_of_ble_eq_true rfl, Nat.le_of_ble_eq_true rfl⟩ ?_
        refine z_aload_n X dd_Mo_way_129 rfl 3 rfl ?_
        obtain ⟨v60, ev60, h⟩ := zb h
        refine z_get (j := 15) X dd_Mo_way_130 kc_12 ki_12 (by decide) km_1536 (zgr_v ev60) ?_
        refine z_aload_n X dd_Mo_way_133 rfl 3 rfl ?_
        obtain ⟨v61, ev61, h⟩ := zb h
        refine z_get (j := 18) X dd_Mo_way_134 kc_12 ki_12 (by decide) km_1539 (zgi_v ev61) ?_
        obtain ⟨v62, ev62, h⟩ := zb h
        refine z_iaload X dd_Mo_way_137 rfl ev62 ?_
        refine z_istore (lv' := [(5, .int v62), (4, .int ((11 * v14) + v17)), (3, .int v7), (2, .int s0), (0, .ref x0), (1, .int x1)]) X dd_Mo_way_138 (by decide) rfl ?_
        refine z_aload_n X dd_Mo_way_140 rfl 4 rfl ?_
        refine z_iload X dd_Mo_way_141 0 rfl ?_
        obtain ⟨w64, ew64, h⟩ := zb h
        obtain ⟨q63, eq63, h⟩ := zb h
        refine z_callVi X [.int v62] rfl dd_Mo_way_143 (c_Mo_meaning l eq63) (cwV 1 X.1.2.2.2.2 (zg_V km_1940 km_1942 km_77 km_138 km_1943) rfl rfl rfl (by decide +kernel) ⟨Nat.le_of_ble_eq_true rfl, Nat.le_of_ble_eq_true rfl⟩) (zob_s ew64) kc_12 rfl (Nat.le_of_ble_eq_true rfl) ⟨Nat.le_of_ble_eq_true rfl, Nat.le_of_ble_eq_true rfl⟩ ?_
        refine z_iconst (v := (-1)) X dd_Mo_way_146 (by decide) ?_
        refine z_icmp_eq (tgt := 164) X dd_Mo_way_147 (by decide) (fun q65 => ?_) (fun q65 => ?_)
        · rw [if_pos q65] at h
          refine z_sub [4, 5, 3, 1, 0] rfl ?_
          exact t_Mo_way_164 X H h
        · rw [if_neg q65] at h
          refine z_aload_n X dd_Mo_way_150 rfl 4 rfl ?_
          refine z_iconst (v := 4) X dd_Mo_way_151 (by decide) ?_
          refine z_aload_n X dd_Mo_way_152 rfl 4 rfl ?_
          obtain ⟨v90, ev90, h⟩ := zb h
          refine z_get (j := 16) X dd_Mo_way_153 kc_12 ki_12 (by decide) km_1537 (zgr_v ev90) ?_
          refine z_aload_n X dd_Mo_way_156 rfl 4 rfl ?_
          obtain ⟨v91, ev91, h⟩ := zb h
          refine z_get (j := 18) X dd_Mo_way_157 kc_12 ki_12 (by decide) km_1539 (zgi_v ev91) ?_
          obtain ⟨v92, ev92, h⟩ := zb h
          refine z_iaload X dd_Mo_way_160 rfl ev92 ?_
          obtain ⟨w94, ew94, h⟩ := zb h
          obtain ⟨q93, eq93, h⟩ := zb h
          refine z_callVv X [.int 4, .int v92] rfl dd_Mo_way_161 (c_Mo_refuse l eq93) (cwV 2 X.1.2.2.2.2 (zg_V km_1916 km_1918 km_71 km_138 km_1919) rfl rfl rfl (by decide +kernel) ⟨Nat.le_of_ble_eq_true rfl, Nat.le_of_ble_eq_true rfl⟩) (zob_s ew94) kc_12 rfl (Nat.le_of_ble_eq_true rfl) ⟨Nat.le_of_ble_eq_true rfl, Nat.le_of_ble_eq_true rfl⟩ ?_
          refine z_sub [4, 5, 3, 1, 0] rfl ?_
          exact t_Mo_way_164 X H h
      · rw [if_neg q57] at h
        refine z_aload_n X dd_Mo_way_118 rfl 3 rfl ?_
        obtain ⟨w96, ew96, h⟩ := zb h
        obtain ⟨q95, eq95, h⟩ := zb h
        refine z_callVv X [] rfl dd_Mo_way_119 (c_Mo_wrong l eq95) (cwV 0 X.1.2.2.2.2 (zg_V km_1928 km_1930 km_74 km_138 km_1931) rfl rfl rfl (by decide +kernel) ⟨Nat.le_of_ble_eq_true rfl, Nat.le_of_ble_eq_true rfl⟩) (zob_s ew96) kc_12 rfl (Nat.le_of_ble_eq_true rfl) ⟨Nat.le_of_ble_eq_true rfl, Nat.le_of_ble_eq_true rfl⟩ ?_
        refine z_goto (tgt := 238) X dd_Mo_way_122 (by decide) ?_
        refine z_sub [3, 4, 2, 0] rfl ?_
        exact t_Mo_way_238 X H h
  · rw [if_pos q13] at h
    refine z_aload_n X dd_Mo_way_49 rfl 2 rfl ?_
    refine z_iconst (v := 3) X dd_Mo_way_50 (by decide) ?_
    refine z_iload_n X dd_Mo_way_51 rfl 0 rfl ?_
    obtain ⟨w98, ew98, h⟩ := zb h
    obtain ⟨q97, eq97, h⟩ := zb h
    refine z_callVv X [.int 3, .int v7] rfl dd_Mo_way_52 (c_Mo_refuse l eq97) (cwV 2 X.1.2.2.2.2 (zg_V km_1916 km_1918 km_71 km_138 km_1919) rfl rfl rfl (by decide +kernel) ⟨Nat.le_of_ble_eq_true rfl, Nat.le_of_ble_eq_true rfl⟩) (zob_s ew98) kc_12 rfl (Nat.le_of_ble_eq_true rfl) ⟨Nat.le_of_ble_eq_true rfl, Nat.le_of_ble_eq_true rfl⟩ ?_
    refine z_iload_n X dd_Mo_way_55 rfl 3 rfl ?_
    obtain rfl := Option.some.inj h
    exact z_iret X H.1 H.2.1 H.2.2.1 dd_Mo_way_56
set_option maxRecDepth 100000 in
set_option maxHeartbeats 4000000 in
theorem c_Mo_way (l : Launch) {nf : Nat} {a0 : Nat} {a1 : Int32} {c : Zc} {res : Int32 × Zc} (h : f_Mo_way nf a0 a1 c = some res) : zM l yy_Mo_way ww_Mo_way 7 157 0 0 [.ref a0, .int a1] c (fun D cid B => zQi D cid B res.1 res.2 c.length 0) := by
  refine z_met (cc := bb_Mo_way) (maxL := 6) (ret := (some (.int))) (by decide +kernel) rfl (Nat.le_of_ble_eq_true rfl) ?_
  intro p e s m args below meth cd D cid B X h1 h2 h3 h4
  have X : zX p s m args cd D cid B bb_Mo_way 6 rr_Mo zT := X
  have H : zH s meth B c.length (some (.int)) "way" := ⟨h1, h2, h4, h3⟩
  unfold f_Mo_way at h
  show Zz p l e (zRm 7 157 0 0) s m args below meth cd _ D cid B 6 0 0 c 0 [(0, .ref a0), (1, .int a1)] []
  refine z_aload_n X dd_Mo_way_0 rfl 0 rfl ?_
  obtain ⟨v1, ev1, h⟩ := zb h
  refine z_get (j := 14) X dd_Mo_way_1 kc_12 ki_12 (by decide) km_1535 (zgr_v ev1) ?_
  refine z_aload_n X dd_Mo_way_4 rfl 0 rfl ?_
  obtain ⟨v2, ev2, h⟩ := zb h
  refine z_get (j := 18) X dd_Mo_way_5 kc_12 ki_12 (by decide) km_1539 (zgi_v ev2) ?_
  obtain ⟨v3, ev3, h⟩ := zb h
  refine z_iaload X dd_Mo_way_8 rfl ev3 ?_
  refine z_sipush (v := 202) X dd_Mo_way_9 (by decide) ?_
  refine z_icmp_ne (tgt := 19) X dd_Mo_way_12 (by decide) (fun q4 => ?_) (fun q4 => ?_)
  · rw [if_neg q4] at h
    refine z_iconst (v := 0) X dd_Mo_way_19 (by decide) ?_
    exact t_Mo_way_20 X H h
  · rw [if_pos q4] at h
    refine z_iconst (v := 1) X dd_Mo_way_15 (by decide) ?_
    refine z_goto (tgt := 20) X dd_Mo_way_16 (by decide) ?_
    exact t_Mo_way_20 X H h
theorem dd_Mo_pattern_0 : decode bb_Mo_pattern 0 = .ok (.aload_n 0, 1) := by decide +kernel
theorem dd_Mo_pattern_1 : decode bb_Mo_pattern 1 = .ok (.invokevirtual 351, 3) := by decide +kernel
theorem dd_Mo_pattern_4 : decode bb_Mo_pattern 4 = .ok (.istore_n 1, 1) := by decide +kernel
theorem dd_Mo_pattern_5 : decode bb_Mo_pattern 5 = .ok (.aload_n 0, 1) := by decide +kernel
theorem dd_Mo_pattern_6 : decode bb_Mo_pattern 6 = .ok (.getfield 294, 3) := by decide +kernel
theorem dd_Mo_pattern_9 : decode bb_Mo_pattern 9 = .ok (.ifCond .ne 36, 3) := by decide +kernel
theorem dd_Mo_pattern_12 : decode bb_Mo_pattern 12 = .ok (.aload_n 0, 1) := by decide +kernel
theorem dd_Mo_pattern_13 : decode bb_Mo_pattern 13 = .ok (.invokevirtual 306, 3) := by decide +kernel
theorem dd_Mo_pattern_16 : decode bb_Mo_pattern 16 = .ok (.bipush 45, 2) := by decide +kernel
theorem dd_Mo_pattern_18 : decode bb_Mo_pattern 18 = .ok (.if_icmp .eq 18, 3) := by decide +kernel
theorem dd_Mo_pattern_21 : decode bb_Mo_pattern 21 = .ok (.aload_n 0, 1) := by decide +kernel
theorem dd_Mo_pattern_22 : decode bb_Mo_pattern 22 = .ok (.getfield 43, 3) := by decide +kernel
theorem dd_Mo_pattern_25 : decode bb_Mo_pattern 25 = .ok (.aload_n 0, 1) := by decide +kernel
theorem dd_Mo_pattern_26 : decode bb_Mo_pattern 26 = .ok (.getfield 300, 3) := by decide +kernel
theorem dd_Mo_pattern_29 : decode bb_Mo_pattern 29 = .ok (.iaload, 1) := by decide +kernel
theorem dd_Mo_pattern_30 : decode bb_Mo_pattern 30 = .ok (.sipush 202, 3) := by decide +kernel
theorem dd_Mo_pattern_33 : decode bb_Mo_pattern 33 = .ok (.if_icmp .ne 12, 3) := by decide +kernel
theorem dd_Mo_pattern_36 : decode bb_Mo_pattern 36 = .ok (.aload_n 0, 1) := by decide +kernel
theorem dd_Mo_pattern_37 : decode bb_Mo_pattern 37 = .ok (.iload_n 1, 1) := by decide +kernel
theorem dd_Mo_pattern_38 : decode bb_Mo_pattern 38 = .ok (.invokevirtual 354, 3) := by decide +kernel
theorem dd_Mo_pattern_41 : decode bb_Mo_pattern 41 = .ok (.istore_n 1, 1) := by decide +kernel
theorem dd_Mo_pattern_42 : decode bb_Mo_pattern 42 = .ok (.goto (-37), 3) := by decide +kernel
theorem dd_Mo_pattern_45 : decode bb_Mo_pattern 45 = .ok (.return_, 1) := by decide +kernel
set_option maxRecDepth 100000 in
set_option maxHeartbeats 4000000 in
theorem t_Mo_pattern_36  (X : zX p s m args cd D cid B bb_Mo_pattern 2 rr_Mo zT) (H : zH s meth B n0 none "pattern") {nf : Nat} {x0 : Nat} {x1 : Int32} {c : Zc} {r : (Nat × Int32 × Zc) ⊕ (Zc)} (h : f_Mo_pattern_36 nf x0 x1 c = some r) (k0 : ∀ a, r = .inl a → (fun a : Nat × Int32 × Zc => Zz p l e (zRm 8 182 0 0) s m args below meth cd Q D cid B 2 0 0 a.2.2 5 [(0, .ref a.1), (1, .int a.2.1)] []) a) (k1 : ∀ b, r = .inr b → (fun b : Zc => Zz p l e (zRm 8 182 0 0) s m args below meth cd Q D cid B 2 0 0 b 45 [] []) b) : Zz p l e (zRm 8 182 0 0) s m args below meth cd Q D cid B 2 0 0 c 36 [(0, .ref x0), (1, .int x1)] [] := by
  unfold f_Mo_pattern_36 at h
  refine z_aload_n X dd_Mo_pattern_36 rfl 0 rfl ?_
  refine z_iload_n X dd_Mo_pattern_37 rfl 1 rfl ?_
  obtain ⟨w9, ew9, h⟩ := zb h
  obtain ⟨q8, eq8, h⟩ := zb h
  refine z_callVi X [.int x1] rfl dd_Mo_pattern_38 (c_Mo_way l eq8) (cwV 1 X.1.2.2.2.2 (zg_V km_1956 km_1958 km_81 km_138 km_1959) rfl rfl rfl (by decide +kernel) ⟨Nat.le_of_ble_eq_true rfl, Nat.le_of_ble_eq_true rfl⟩) (zob_s ew9) kc_12 rfl (Nat.le_of_ble_eq_true rfl) ⟨Nat.le_of_ble_eq_true rfl, Nat.le_of_ble_eq_true rfl⟩ ?_
  refine z_istore_n (lv' := [(1, .int q8.1), (0, .ref x0)]) X dd_Mo_pattern_41 rfl (by decide) rfl ?_
  refine z_goto (tgt := 5) X dd_Mo_pattern_42 (by decide) ?_
  refine z_sub [1, 0] rfl ?_
  obtain rfl := Option.some.inj h
  exact k0 _ rfl
set_option maxRecDepth 100000 in
set_option maxHeartbeats 4000000 in
theorem u_Mo_pattern_5  (X : zX p s m args cd D cid B bb_Mo_pattern 2 rr_Mo zT) (H : zH s meth B n0 none "pattern") {nf : Nat} {x0 : Nat} {x1 : Int32} {c : Zc} {r : (Nat × Int32 × Zc) ⊕ (Zc)} (h : g_Mo_pattern_5 nf x0 x1 c = some r) (k0 : ∀ a, r = .inl a → (fun a : Nat × Int32 × Zc => Zz p l e (zRm 8 182 0 0) s m args below meth cd Q D cid B 2 0 0 a.2.2 5 [(0, .ref a.1), (1, .int a.2.1)] []) a) (k1 : ∀ b, r = .inr b → (fun b : Zc => Zz p l e (zRm 8 182 0 0) s m args below meth cd Q D cid B 2 0 0 b 45 [] []) b) : Zz p l e (zRm 8 182 0 0) s m args below meth cd Q D cid B 2 0 0 c 5 [(0, .ref x0), (1, .int x1)] [] := by
  unfold g_Mo_pattern_5 at h
  refine z_aload_n X dd_Mo_pattern_5 rfl 0 rfl ?_
  obtain ⟨v3, ev3, h⟩ := zb h
  refine z_get (j := 19) X dd_Mo_pattern_6 kc_12 ki_12 (by decide) km_1540 (zgi_v ev3) ?_
  refine z_if_ne (tgt := 45) X dd_Mo_pattern_9 (by decide) (fun q4 => ?_) (fun q4 => ?_)
  · rw [if_neg q4] at h
    refine z_sub [] rfl ?_
    obtain rfl := Option.some.inj h
    exact k1 _ rfl
  · rw [if_pos q4] at h
    refine z_aload_n X dd_Mo_pattern_12 rfl 0 rfl ?_
    obtain ⟨w6, ew6, h⟩ := zb h
    obtain ⟨q5, eq5, h⟩ := zb h
    refine z_callVi X [] rfl dd_Mo_pattern_13 (c_Mo_kind l eq5) (cwV 0 X.1.2.2.2.2 (zg_V km_1912 km_1914 km_70 km_138 km_1915) rfl rfl rfl (by decide +kernel) ⟨Nat.le_of_ble_eq_true rfl, Nat.le_of_ble_eq_true rfl⟩) (zob_s ew6) kc_12 rfl (Nat.le_of_ble_eq_true rfl) ⟨Nat.le_of_ble_eq_true rfl, Nat.le_of_ble_eq_true rfl⟩ ?_
    refine z_bipush (v := 45) X dd_Mo_pattern_16 (by decide) ?_
    refine z_icmp_eq (tgt := 36) X dd_Mo_pattern_18 (by decide) (fun q7 => ?_) (fun q7 => ?_)
    · rw [if_pos q7] at h
      exact t_Mo_pattern_36 X H h k0 k1
    · rw [if_neg q7] at h
      refine z_aload_n X dd_Mo_pattern_21 rfl 0 rfl ?_
      obtain ⟨v10, ev10, h⟩ := zb h
      refine z_get (j := 14) X dd_Mo_pattern_22 kc_12 ki_12 (by decide) km_1535 (zgr_v ev10) ?_
      refine z_aload_n X dd_Mo_pattern_25 rfl 0 rfl ?_
      obtain ⟨v11, ev11, h⟩ := zb h
      refine z_get (j := 18) X dd_Mo_pattern_26 kc_12 ki_12 (by decide) km_1539 (zgi_v ev11) ?_
      obtain ⟨v12, ev12, h⟩ := zb h
      refine z_iaload X dd_Mo_pattern_29 rfl ev12 ?_
      refine z_sipush (v := 202) X dd_Mo_pattern_30 (by decide) ?_
      refine z_icmp_ne (tgt := 45) X dd_Mo_pattern_33 (by decide) (fun q13 => ?_) (fun q13 => ?_)
      · rw [if_neg q13] at h
        refine z_sub [] rfl ?_
        obtain rfl := Option.some.inj h
        exact k1 _ rfl
      · rw [if_pos q13] at h
        exact t_Mo_pattern_36 X H h k0 k1
set_option maxRecDepth 100000 in
set_option maxHeartbeats 4000000 in
theorem t_Mo_pattern_45  (X : zX p s m args cd D cid B bb_Mo_pattern 2 rr_Mo zT) (H : zH s meth B n0 none "pattern") {nf : Nat}  {c : Zc} {res : Zc} (h : f_Mo_pattern_45 nf  c = some res) : Zz p l e (zRm 8 182 0 0) s m args below meth cd (MQ below (zQv D cid B res n0 0) args s 0 0 (fun q => B ≤ q)) D cid B 2 0 0 c 45 [] [] := by
  unfold f_Mo_pattern_45 at h
  obtain rfl := Option.some.inj h
  exact z_vret X H.1 H.2.1 H.2.2.1 dd_Mo_pattern_45
set_option maxRecDepth 100000 in
set_option maxHeartbeats 4000000 in
theorem t_Mo_pattern_5  (X : zX p s m args cd D cid B bb_Mo_pattern 2 rr_Mo zT) (H : zH s meth B n0 none "pattern") {nf : Nat} {x0 : Nat} {x1 : Int32} {c : Zc} {res : Zc} (h : f_Mo_pattern_5 nf x0 x1 c = some res) : Zz p l e (zRm 8 182 0 0) s m args below meth cd (MQ below (zQv D cid B res n0 0) args s 0 0 (fun q => B ≤ q)) D cid B 2 0 0 c 5 [(0, .ref x0), (1, .int x1)] [] := by
  unfold f_Mo_pattern_5 at h
  obtain ⟨b, eb, h⟩ := zb h
  refine zlp_ok (P := fun a : Nat × Int32 × Zc => Zz p l e (zRm 8 182 0 0) s m args below meth cd _ D cid B 2 0 0 a.2.2 5 [(0, .ref a.1), (1, .int a.2.1)] []) (G := fun b : Zc => Zz p l e (zRm 8 182 0 0) s m args below meth cd _ D cid B 2 0 0 b 45 [] []) (fun a r ha k0 k1 => u_Mo_pattern_5 X H ha k0 k1) nf _ b eb ?_
  exact t_Mo_pattern_45 X H h
set_option maxRecDepth 100000 in
set_option maxHeartbeats 4000000 in
theorem c_Mo_pattern (l : Launch) {nf : Nat} {a0 : Nat} {c : Zc} {res : Zc} (h : f_Mo_pattern nf a0 c = some res) : zM l yy_Mo_pattern ww_Mo_pattern 8 182 0 0 [.ref a0] c (fun D cid B => zQv D cid B res c.length 0) := by
  refine z_met (cc := bb_Mo_pattern) (maxL := 2) (ret := none) (by decide +kernel) rfl (Nat.le_of_ble_eq_true rfl) ?_
  intro p e s m args below meth cd D cid B X h1 h2 h3 h4
  have X : zX p s m args cd D cid B bb_Mo_pattern 2 rr_Mo zT := X
  have H : zH s meth B c.length none "pattern" := ⟨h1, h2, h4, h3⟩
  unfold f_Mo_pattern at h
  show Zz p l e (zRm 8 182 0 0) s m args below meth cd _ D cid B 2 0 0 c 0 [(0, .ref a0)] []
  refine z_aload_n X dd_Mo_pattern_0 rfl 0 rfl ?_
  obtain ⟨w2, ew2, h⟩ := zb h
  obtain ⟨q1, eq1, h⟩ := zb h
  refine z_callVi X [] rfl dd_Mo_pattern_1 (c_Mo_nodeOf l eq1) (cwV 0 X.1.2.2.2.2 (zg_V km_1936 km_1938 km_76 km_138 km_1939) rfl rfl rfl (by decide +kernel) ⟨Nat.le_of_ble_eq_true rfl, Nat.le_of_ble_eq_true rfl⟩) (zob_s ew2) kc_12 rfl (Nat.le_of_ble_eq_true rfl) ⟨Nat.le_of_ble_eq_true rfl, Nat.le_of_ble_eq_true rfl⟩ ?_
  refine z_istore_n (lv' := [(1, .int q1.1), (0, .ref a0)]) X dd_Mo_pattern_4 rfl (by decide) rfl ?_
  refine z_sub [1, 0] rfl ?_
  exact t_Mo_pattern_5 X H h
end ZzM
