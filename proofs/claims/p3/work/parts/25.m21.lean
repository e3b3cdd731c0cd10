section ZzM
variable {p : Program} {l : Launch} {e : Env} {s : State} {m : MethodId} {args : Array Value} {below : List Frame} {meth : Method} {cd : Code} {Q : State → Prop} {D : va_G} {cid : Nat → ClassId} {B n0 : Nat}
theorem dd_Mo_unit_0 : decode bb_Mo_unit 0 = .ok (.aload_n 0, 1) := by decide +kernel
theorem dd_Mo_unit_1 : decode bb_Mo_unit 1 = .ok (.getfield 173, 3) := by decide +kernel
theorem dd_Mo_unit_4 : decode bb_Mo_unit 4 = .ok (.iload_n 1, 1) := by decide +kernel
theorem dd_Mo_unit_5 : decode bb_Mo_unit 5 = .ok (.iaload, 1) := by decide +kernel
theorem dd_Mo_unit_6 : decode bb_Mo_unit 6 = .ok (.iconst 1, 1) := by decide +kernel
theorem dd_Mo_unit_7 : decode bb_Mo_unit 7 = .ok (.if_icmp .ne 33, 3) := by decide +kernel
theorem dd_Mo_unit_10 : decode bb_Mo_unit 10 = .ok (.aload_n 0, 1) := by decide +kernel
theorem dd_Mo_unit_11 : decode bb_Mo_unit 11 = .ok (.bipush 7, 2) := by decide +kernel
theorem dd_Mo_unit_13 : decode bb_Mo_unit 13 = .ok (.iconst 0, 1) := by decide +kernel
theorem dd_Mo_unit_14 : decode bb_Mo_unit 14 = .ok (.invokevirtual 408, 3) := by decide +kernel
theorem dd_Mo_unit_17 : decode bb_Mo_unit 17 = .ok (.aload_n 0, 1) := by decide +kernel
theorem dd_Mo_unit_18 : decode bb_Mo_unit 18 = .ok (.dup, 1) := by decide +kernel
theorem dd_Mo_unit_19 : decode bb_Mo_unit 19 = .ok (.getfield 322, 3) := by decide +kernel
theorem dd_Mo_unit_22 : decode bb_Mo_unit 22 = .ok (.iconst 1, 1) := by decide +kernel
theorem dd_Mo_unit_23 : decode bb_Mo_unit 23 = .ok (.isub, 1) := by decide +kernel
theorem dd_Mo_unit_24 : decode bb_Mo_unit 24 = .ok (.putfield 322, 3) := by decide +kernel
theorem dd_Mo_unit_27 : decode bb_Mo_unit 27 = .ok (.aload_n 0, 1) := by decide +kernel
theorem dd_Mo_unit_28 : decode bb_Mo_unit 28 = .ok (.dup, 1) := by decide +kernel
theorem dd_Mo_unit_29 : decode bb_Mo_unit 29 = .ok (.getfield 389, 3) := by decide +kernel
theorem dd_Mo_unit_32 : decode bb_Mo_unit 32 = .ok (.iconst 1, 1) := by decide +kernel
theorem dd_Mo_unit_33 : decode bb_Mo_unit 33 = .ok (.isub, 1) := by decide +kernel
theorem dd_Mo_unit_34 : decode bb_Mo_unit 34 = .ok (.putfield 389, 3) := by decide +kernel
theorem dd_Mo_unit_37 : decode bb_Mo_unit 37 = .ok (.goto 181, 3) := by decide +kernel
theorem dd_Mo_unit_40 : decode bb_Mo_unit 40 = .ok (.aload_n 0, 1) := by decide +kernel
theorem dd_Mo_unit_41 : decode bb_Mo_unit 41 = .ok (.getfield 173, 3) := by decide +kernel
theorem dd_Mo_unit_44 : decode bb_Mo_unit 44 = .ok (.iload_n 1, 1) := by decide +kernel
theorem dd_Mo_unit_45 : decode bb_Mo_unit 45 = .ok (.iaload, 1) := by decide +kernel
theorem dd_Mo_unit_46 : decode bb_Mo_unit 46 = .ok (.iconst 2, 1) := by decide +kernel
theorem dd_Mo_unit_47 : decode bb_Mo_unit 47 = .ok (.if_icmp .ne 32, 3) := by decide +kernel
theorem dd_Mo_unit_50 : decode bb_Mo_unit 50 = .ok (.aload_n 0, 1) := by decide +kernel
theorem dd_Mo_unit_51 : decode bb_Mo_unit 51 = .ok (.bipush 41, 2) := by decide +kernel
theorem dd_Mo_unit_53 : decode bb_Mo_unit 53 = .ok (.invokevirtual 334, 3) := by decide +kernel
theorem dd_Mo_unit_56 : decode bb_Mo_unit 56 = .ok (.aload_n 0, 1) := by decide +kernel
theorem dd_Mo_unit_57 : decode bb_Mo_unit 57 = .ok (.dup, 1) := by decide +kernel
theorem dd_Mo_unit_58 : decode bb_Mo_unit 58 = .ok (.getfield 322, 3) := by decide +kernel
theorem dd_Mo_unit_61 : decode bb_Mo_unit 61 = .ok (.iconst 1, 1) := by decide +kernel
theorem dd_Mo_unit_62 : decode bb_Mo_unit 62 = .ok (.isub, 1) := by decide +kernel
theorem dd_Mo_unit_63 : decode bb_Mo_unit 63 = .ok (.putfield 322, 3) := by decide +kernel
theorem dd_Mo_unit_66 : decode bb_Mo_unit 66 = .ok (.aload_n 0, 1) := by decide +kernel
theorem dd_Mo_unit_67 : decode bb_Mo_unit 67 = .ok (.dup, 1) := by decide +kernel
theorem dd_Mo_unit_68 : decode bb_Mo_unit 68 = .ok (.getfield 389, 3) := by decide +kernel
theorem dd_Mo_unit_71 : decode bb_Mo_unit 71 = .ok (.iconst 1, 1) := by decide +kernel
theorem dd_Mo_unit_72 : decode bb_Mo_unit 72 = .ok (.isub, 1) := by decide +kernel
theorem dd_Mo_unit_73 : decode bb_Mo_unit 73 = .ok (.putfield 389, 3) := by decide +kernel
theorem dd_Mo_unit_76 : decode bb_Mo_unit 76 = .ok (.goto 142, 3) := by decide +kernel
theorem dd_Mo_unit_79 : decode bb_Mo_unit 79 = .ok (.aload_n 0, 1) := by decide +kernel
theorem dd_Mo_unit_80 : decode bb_Mo_unit 80 = .ok (.bipush 45, 2) := by decide +kernel
theorem dd_Mo_unit_82 : decode bb_Mo_unit 82 = .ok (.invokevirtual 316, 3) := by decide +kernel
theorem dd_Mo_unit_85 : decode bb_Mo_unit 85 = .ok (.ifCond .eq 22, 3) := by decide +kernel
theorem dd_Mo_unit_88 : decode bb_Mo_unit 88 = .ok (.aload_n 0, 1) := by decide +kernel
theorem dd_Mo_unit_89 : decode bb_Mo_unit 89 = .ok (.invokevirtual 373, 3) := by decide +kernel
theorem dd_Mo_unit_92 : decode bb_Mo_unit 92 = .ok (.aload_n 0, 1) := by decide +kernel
theorem dd_Mo_unit_93 : decode bb_Mo_unit 93 = .ok (.getfield 173, 3) := by decide +kernel
theorem dd_Mo_unit_96 : decode bb_Mo_unit 96 = .ok (.iload_n 1, 1) := by decide +kernel
theorem dd_Mo_unit_97 : decode bb_Mo_unit 97 = .ok (.iconst 1, 1) := by decide +kernel
theorem dd_Mo_unit_98 : decode bb_Mo_unit 98 = .ok (.iastore, 1) := by decide +kernel
theorem dd_Mo_unit_99 : decode bb_Mo_unit 99 = .ok (.aload_n 0, 1) := by decide +kernel
theorem dd_Mo_unit_100 : decode bb_Mo_unit 100 = .ok (.iconst 5, 1) := by decide +kernel
theorem dd_Mo_unit_101 : decode bb_Mo_unit 101 = .ok (.invokevirtual 392, 3) := by decide +kernel
theorem dd_Mo_unit_104 : decode bb_Mo_unit 104 = .ok (.goto 114, 3) := by decide +kernel
theorem dd_Mo_unit_107 : decode bb_Mo_unit 107 = .ok (.aload_n 0, 1) := by decide +kernel
theorem dd_Mo_unit_108 : decode bb_Mo_unit 108 = .ok (.bipush 40, 2) := by decide +kernel
theorem dd_Mo_unit_110 : decode bb_Mo_unit 110 = .ok (.invokevirtual 316, 3) := by decide +kernel
theorem dd_Mo_unit_113 : decode bb_Mo_unit 113 = .ok (.ifCond .eq 22, 3) := by decide +kernel
theorem dd_Mo_unit_116 : decode bb_Mo_unit 116 = .ok (.aload_n 0, 1) := by decide +kernel
theorem dd_Mo_unit_117 : decode bb_Mo_unit 117 = .ok (.invokevirtual 373, 3) := by decide +kernel
theorem dd_Mo_unit_120 : decode bb_Mo_unit 120 = .ok (.aload_n 0, 1) := by decide +kernel
theorem dd_Mo_unit_121 : decode bb_Mo_unit 121 = .ok (.getfield 173, 3) := by decide +kernel
theorem dd_Mo_unit_124 : decode bb_Mo_unit 124 = .ok (.iload_n 1, 1) := by decide +kernel
theorem dd_Mo_unit_125 : decode bb_Mo_unit 125 = .ok (.iconst 2, 1) := by decide +kernel
theorem dd_Mo_unit_126 : decode bb_Mo_unit 126 = .ok (.iastore, 1) := by decide +kernel
theorem dd_Mo_unit_127 : decode bb_Mo_unit 127 = .ok (.aload_n 0, 1) := by decide +kernel
theorem dd_Mo_unit_128 : decode bb_Mo_unit 128 = .ok (.iconst 3, 1) := by decide +kernel
theorem dd_Mo_unit_129 : decode bb_Mo_unit 129 = .ok (.invokevirtual 392, 3) := by decide +kernel
theorem dd_Mo_unit_132 : decode bb_Mo_unit 132 = .ok (.goto 86, 3) := by decide +kernel
theorem dd_Mo_unit_135 : decode bb_Mo_unit 135 = .ok (.aload_n 0, 1) := by decide +kernel
theorem dd_Mo_unit_136 : decode bb_Mo_unit 136 = .ok (.getfield 294, 3) := by decide +kernel
theorem dd_Mo_unit_139 : decode bb_Mo_unit 139 = .ok (.ifCond .ne 43, 3) := by decide +kernel
theorem dd_Mo_unit_142 : decode bb_Mo_unit 142 = .ok (.aload_n 0, 1) := by decide +kernel
theorem dd_Mo_unit_143 : decode bb_Mo_unit 143 = .ok (.invokevirtual 306, 3) := by decide +kernel
theorem dd_Mo_unit_146 : decode bb_Mo_unit 146 = .ok (.bipush 6, 2) := by decide +kernel
theorem dd_Mo_unit_148 : decode bb_Mo_unit 148 = .ok (.if_icmp .ne 34, 3) := by decide +kernel
theorem dd_Mo_unit_151 : decode bb_Mo_unit 151 = .ok (.aload_n 0, 1) := by decide +kernel
theorem dd_Mo_unit_152 : decode bb_Mo_unit 152 = .ok (.iconst 0, 1) := by decide +kernel
theorem dd_Mo_unit_153 : decode bb_Mo_unit 153 = .ok (.aload_n 0, 1) := by decide +kernel
theorem dd_Mo_unit_154 : decode bb_Mo_unit 154 = .ok (.getfield 46, 3) := by decide +kernel
theorem dd_Mo_unit_157 : decode bb_Mo_unit 157 = .ok (.aload_n 0, 1) := by decide +kernel
theorem dd_Mo_unit_158 : decode bb_Mo_unit 158 = .ok (.getfield 300, 3) := by decide +kernel
theorem dd_Mo_unit_161 : decode bb_Mo_unit 161 = .ok (.iaload, 1) := by decide +kernel
theorem dd_Mo_unit_162 : decode bb_Mo_unit 162 = .ok (.invokevirtual 408, 3) := by decide +kernel
theorem dd_Mo_unit_165 : decode bb_Mo_unit 165 = .ok (.aload_n 0, 1) := by decide +kernel
theorem dd_Mo_unit_166 : decode bb_Mo_unit 166 = .ok (.invokevirtual 313, 3) := by decide +kernel
theorem dd_Mo_unit_169 : decode bb_Mo_unit 169 = .ok (.aload_n 0, 1) := by decide +kernel
theorem dd_Mo_unit_170 : decode bb_Mo_unit 170 = .ok (.dup, 1) := by decide +kernel
theorem dd_Mo_unit_171 : decode bb_Mo_unit 171 = .ok (.getfield 389, 3) := by decide +kernel
theorem dd_Mo_unit_174 : decode bb_Mo_unit 174 = .ok (.iconst 1, 1) := by decide +kernel
theorem dd_Mo_unit_175 : decode bb_Mo_unit 175 = .ok (.isub, 1) := by decide +kernel
theorem dd_Mo_unit_176 : decode bb_Mo_unit 176 = .ok (.putfield 389, 3) := by decide +kernel
theorem dd_Mo_unit_179 : decode bb_Mo_unit 179 = .ok (.goto 39, 3) := by decide +kernel
theorem dd_Mo_unit_182 : decode bb_Mo_unit 182 = .ok (.aload_n 0, 1) := by decide +kernel
theorem dd_Mo_unit_183 : decode bb_Mo_unit 183 = .ok (.getfield 294, 3) := by decide +kernel
theorem dd_Mo_unit_186 : decode bb_Mo_unit 186 = .ok (.ifCond .ne 28, 3) := by decide +kernel
theorem dd_Mo_unit_189 : decode bb_Mo_unit 189 = .ok (.aload_n 0, 1) := by decide +kernel
theorem dd_Mo_unit_190 : decode bb_Mo_unit 190 = .ok (.invokevirtual 306, 3) := by decide +kernel
theorem dd_Mo_unit_193 : decode bb_Mo_unit 193 = .ok (.iconst 2, 1) := by decide +kernel
theorem dd_Mo_unit_194 : decode bb_Mo_unit 194 = .ok (.if_icmp .ne 20, 3) := by decide +kernel
theorem dd_Mo_unit_197 : decode bb_Mo_unit 197 = .ok (.aload_n 0, 1) := by decide +kernel
theorem dd_Mo_unit_198 : decode bb_Mo_unit 198 = .ok (.invokevirtual 423, 3) := by decide +kernel
theorem dd_Mo_unit_201 : decode bb_Mo_unit 201 = .ok (.aload_n 0, 1) := by decide +kernel
theorem dd_Mo_unit_202 : decode bb_Mo_unit 202 = .ok (.dup, 1) := by decide +kernel
theorem dd_Mo_unit_203 : decode bb_Mo_unit 203 = .ok (.getfield 389, 3) := by decide +kernel
theorem dd_Mo_unit_206 : decode bb_Mo_unit 206 = .ok (.iconst 1, 1) := by decide +kernel
theorem dd_Mo_unit_207 : decode bb_Mo_unit 207 = .ok (.isub, 1) := by decide +kernel
theorem dd_Mo_unit_208 : decode bb_Mo_unit 208 = .ok (.putfield 389, 3) := by decide +kernel
theorem dd_Mo_unit_211 : decode bb_Mo_unit 211 = .ok (.goto 7, 3) := by decide +kernel
theorem dd_Mo_unit_214 : decode bb_Mo_unit 214 = .ok (.aload_n 0, 1) := by decide +kernel
theorem dd_Mo_unit_215 : decode bb_Mo_unit 215 = .ok (.invokevirtual 319, 3) := by decide +kernel
theorem dd_Mo_unit_218 : decode bb_Mo_unit 218 = .ok (.return_, 1) := by decide +kernel
def f_Mo_unit_218 (nf : Nat)  (c : Zc) : Option (Zc) :=
  some c
def f_Mo_unit_214 (nf : Nat) (x0 : Nat) (c : Zc) : Option (Zc) :=
  (zob c x0 12).bind fun w18 => (f_Mo_wrong nf x0 c).bind fun q17 => f_Mo_unit_218 nf  q17
def f_Mo_unit_182 (nf : Nat) (x0 : Nat) (c : Zc) : Option (Zc) :=
  (zgi c x0 12 19).bind fun v15 => if v15 = 0 then ((zob c x0 12).bind fun w20 => (f_Mo_kind nf x0 c).bind fun q19 => if q19.1 = 2 then ((zob q19.2 x0 12).bind fun w23 => (f_Mo_variable nf x0 q19.2).bind fun q22 => (zgi q22 x0 12 69).bind fun v24 => (zpv q22 x0 12 69 (.int (v24 - 1))).bind fun c25 => f_Mo_unit_218 nf  c25) else (f_Mo_unit_214 nf x0 q19.2)) else (f_Mo_unit_214 nf x0 c)
def f_Mo_unit (nf : Nat) (a0 : Nat) (a1 : Int32) (c : Zc) : Option (Zc) :=
  (zgr c a0 12 67).bind fun v1 => (zai c v1 0 a1).bind fun v2 => if v2 = 1 then ((zob c a0 12).bind fun w57 => (f_Mo_code nf a0 7 0 c).bind fun q56 => (zgi q56 a0 12 53).bind fun v58 => (zpv q56 a0 12 53 (.int (v58 - 1))).bind fun c59 => (zgi c59 a0 12 69).bind fun v60 => (zpv c59 a0 12 69 (.int (v60 - 1))).bind fun c61 => f_Mo_unit_218 nf  c61) else ((zgr c a0 12 67).bind fun v4 => (zai c v4 0 a1).bind fun v5 => if v5 = 2 then ((zob c a0 12).bind fun w51 => (f_Mo_need nf a0 41 c).bind fun q50 => (zgi q50 a0 12 53).bind fun v52 => (zpv q50 a0 12 53 (.int (v52 - 1))).bind fun c53 => (zgi c53 a0 12 69).bind fun v54 => (zpv c53 a0 12 69 (.int (v54 - 1))).bind fun c55 => f_Mo_unit_218 nf  c55) else ((zob c a0 12).bind fun w8 => (f_Mo_takes nf a0 45 c).bind fun q7 => if q7.1 = 0 then ((zob q7.2 a0 12).bind fun w11 => (f_Mo_takes nf a0 40 q7.2).bind fun q10 => if q10.1 = 0 then ((zgi q10.2 a0 12 19).bind fun v13 => if v13 = 0 then ((zob q10.2 a0 12).bind fun w27 => (f_Mo_kind nf a0 q10.2).bind fun q26 => if q26.1 = 6 then ((zgr q26.2 a0 12 15).bind fun v29 => (zgi q26.2 a0 12 18).bind fun v30 => (zai q26.2 v29 0 v30).bind fun v31 => (zob q26.2 a0 12).bind fun w33 => (f_Mo_code nf a0 0 v31 q26.2).bind fun q32 => (zob q32 a0 12).bind fun w35 => (f_Mo_pass nf a0 q32).bind fun q34 => (zgi q34 a0 12 69).bind fun v36 => (zpv q34 a0 12 69 (.int (v36 - 1))).bind fun c37 => f_Mo_unit_218 nf  c37) else (f_Mo_unit_182 nf a0 q26.2)) else (f_Mo_unit_182 nf a0 q10.2)) else ((zob q10.2 a0 12).bind fun w39 => (f_Mo_within nf a0 q10.2).bind fun q38 => (zgr q38 a0 12 67).bind fun v40 => (zsi q38 v40 0 a1 2).bind fun c41 => (zob c41 a0 12).bind fun w43 => (f_Mo_frame nf a0 3 c41).bind fun q42 => f_Mo_unit_218 nf  q42)) else ((zob q7.2 a0 12).bind fun w45 => (f_Mo_within nf a0 q7.2).bind fun q44 => (zgr q44 a0 12 67).bind fun v46 => (zsi q44 v46 0 a1 1).bind fun c47 => (zob c47 a0 12).bind fun w49 => (f_Mo_frame nf a0 5 c47).bind fun q48 => f_Mo_unit_218 nf  q48)))
set_option maxRecDepth 100000 in
set_option maxHeartbeats 4000000 in
theorem t_Mo_unit_218  (X : zX p s m args cd D cid B bb_Mo_unit 2 rr_Mo zT) (H : zH s meth B n0 none "unit") {nf : Nat}  {c : Zc} {res : Zc} (h : f_Mo_unit_218 nf  c = some res) : Zz p l e (zRm 5 104 0 0) s m args below meth cd (MQ below (zQv D cid B res n0 0) args s 0 0 (fun q => B ≤ q)) D cid B 2 0 0 c 218 [] [] := by
  unfold f_Mo_unit_218 at h
  obtain rfl := Option.some.inj h
  exact z_vret X H.1 H.2.1 H.2.2.1 dd_Mo_unit_218
set_option maxRecDepth 100000 in
set_option maxHeartbeats 4000000 in
theorem t_Mo_unit_214  (X : zX p s m args cd D cid B bb_Mo_unit 2 rr_Mo zT) (H : zH s meth B n0 none "unit") {nf : Nat} {x0 : Nat} {c : Zc} {res : Zc} (h : f_Mo_unit_214 nf x0 c = some res) : Zz p l e (zRm 5 104 0 0) s m args below meth cd (MQ below (zQv D cid B res n0 0) args s 0 0 (fun q => B ≤ q)) D cid B 2 0 0 c 214 [(0, .ref x0)] [] := by
  unfold f_Mo_unit_214 at h
  refine z_aload_n X dd_Mo_unit_214 rfl 0 rfl ?_
  obtain ⟨w18, ew18, h⟩ := zb h
  obtain ⟨q17, eq17, h⟩ := zb h
  refine z_callVv X [] rfl dd_Mo_unit_215 (c_Mo_wrong l eq17) (cwV 0 X.1.2.2.2.2 (zg_V km_1928 km_1930 km_74 km_138 km_1931) rfl rfl rfl (by decide +kernel) ⟨Nat.le_of_ble_eq_true rfl, Nat.le_of_ble_eq_true rfl⟩) (zob_s ew18) kc_12 rfl (Nat.le_of_ble_eq_true rfl) ⟨Nat.le_of_ble_eq_true rfl, Nat.le_of_ble_eq_true rfl⟩ ?_
  refine z_sub [] rfl ?_
  exact t_Mo_unit_218 X H h
set_option maxRecDepth 100000 in
set_option maxHeartbeats 4000000 in
theorem t_Mo_unit_182  (X : zX p s m args cd D cid B bb_Mo_unit 2 rr_Mo zT) (H : zH s meth B n0 none "unit") {nf : Nat} {x0 : Nat} {c : Zc} {res : Zc} (h : f_Mo_unit_182 nf x0 c = some res) : Zz p l e (zRm 5 104 0 0) s m args below meth cd (MQ below (zQv D cid B res n0 0) args s 0 0 (fun q => B ≤ q)) D cid B 2 0 0 c 182 [(0, .ref x0)] [] := by
  unfold f_Mo_unit_182 at h
  refine z_aload_n X dd_Mo_unit_182 rfl 0 rfl ?_
  obtain ⟨v15, ev15, h⟩ := zb h
  refine z_get (j := 19) X dd_Mo_unit_183 kc_12 ki_12 (by decide) km_1540 (zgi_v ev15) ?_
  refine z_if_ne (tgt := 214) X dd_Mo_unit_186 (by decide) (fun q16 => ?_) (fun q16 => ?_)
  · rw [if_neg q16] at h
    exact t_Mo_unit_214 X H h
  · rw [if_pos q16] at h
    refine z_aload_n X dd_Mo_unit_189 rfl 0 rfl ?_
    obtain ⟨w20, ew20, h⟩ := zb h
    obtain ⟨q19, eq19, h⟩ := zb h
    refine z_callVi X [] rfl dd_Mo_unit_190 (c_Mo_kind l eq19) (cwV 0 X.1.2.2.2.2 (zg_V km_1912 km_1914 km_70 km_138 km_1915) rfl rfl rfl (by decide +kernel) ⟨Nat.le_of_ble_eq_true rfl, Nat.le_of_ble_eq_true rfl⟩) (zob_s ew20) kc_12 rfl (Nat.le_of_ble_eq_true rfl) ⟨Nat.le_of_ble_eq_true rfl, Nat.le_of_ble_eq_true rfl⟩ ?_
    refine z_iconst (v := 2) X dd_Mo_unit_193 (by decide) ?_
    refine z_icmp_ne (tgt := 214) X dd_Mo_unit_194 (by decide) (fun q21 => ?_) (fun q21 => ?_)
    · rw [if_neg q21] at h
      exact t_Mo_unit_214 X H h
    · rw [if_pos q21] at h
      refine z_aload_n X dd_Mo_unit_197 rfl 0 rfl ?_
      obtain ⟨w23, ew23, h⟩ := zb h
      obtain ⟨q22, eq22, h⟩ := zb h
      refine z_callVv X [] rfl dd_Mo_unit_198 (c_Mo_variable l eq22) (cwV 0 X.1.2.2.2.2 (zg_V km_2031 km_2033 km_99 km_138 km_2034) rfl rfl rfl (by decide +kernel) ⟨Nat.le_of_ble_eq_true rfl, Nat.le_of_ble_eq_true rfl⟩) (zob_s ew23) kc_12 rfl (Nat.le_of_ble_eq_true rfl) ⟨Nat.le_of_ble_eq_true rfl, Nat.le_of_ble_eq_true rfl⟩ ?_
      refine z_aload_n X dd_Mo_unit_201 rfl 0 rfl ?_
      refine z_dup X dd_Mo_unit_202 rfl ?_
      obtain ⟨v24, ev24, h⟩ := zb h
      refine z_get (j := 69) X dd_Mo_unit_203 kc_12 ki_12 (by decide) km_1590 (zgi_v ev24) ?_
      refine z_iconst (v := 1) X dd_Mo_unit_206 (by decide) ?_
      refine z_isub X dd_Mo_unit_207 ?_
      obtain ⟨c25, ec25, h⟩ := zb h
      refine z_put (j := 69) X dd_Mo_unit_208 kc_12 ki_12 tt_Mo tk_Mo nn_Mo (by decide) km_1590 rfl (tk_Mo 69 (by decide)) rfl rfl ec25 ?_
      refine z_goto (tgt := 218) X dd_Mo_unit_211 (by decide) ?_
      refine z_sub [] rfl ?_
      exact t_Mo_unit_218 X H h
set_option maxRecDepth 100000 in
set_option maxHeartbeats 4000000 in
theorem c_Mo_unit (l : Launch) {nf : Nat} {a0 : Nat} {a1 : Int32} {c : Zc} {res : Zc} (h : f_Mo_unit nf a0 a1 c = some res) : zM l yy_Mo_unit ww_Mo_unit 5 104 0 0 [.ref a0, .int a1] c (fun D cid B => zQv D cid B res c.length 0) := by
  refine z_met (cc := bb_Mo_unit) (maxL := 2) (ret := none) (by decide +kernel) rfl (Nat.le_of_ble_eq_true rfl) ?_
  intro p e s m args below meth cd D cid B X h1 h2 h3 h4
  have X : zX p s m args cd D cid B bb_Mo_unit 2 rr_Mo zT := X
  have H : zH s meth B c.length none "unit" := ⟨h1, h2, h4, h3⟩
  unfold f_Mo_unit at h
  show Zz p l e (zRm 5 104 0 0) s m args below meth cd _ D cid B 2 0 0 c 0 [(0, .ref a0), (1, .int a1)] []
  refine z_aload_n X dd_Mo_unit_0 rfl 0 rfl ?_
  obtain ⟨v1, ev1, h⟩ := zb h
  refine z_get (j := 67) X dd_Mo_unit_1 kc_12 ki_12 (by decide) km_1588 (zgr_v ev1) ?_
  refine z_iload_n X dd_Mo_unit_4 rfl 1 rfl ?_
  obtain ⟨v2, ev2, h⟩ := zb h
  refine z_iaload X dd_Mo_unit_5 rfl ev2 ?_
  refine z_iconst (v := 1) X dd_Mo_unit_6 (by decide) ?_
  refine z_icmp_ne (tgt := 40) X dd_Mo_unit_7 (by decide) (fun q3 => ?_) (fun q3 => ?_)
  · rw [if_neg q3] at h
    refine z_aload_n X dd_Mo_unit_40 rfl 0 rfl ?_
    obtain ⟨v4, ev4, h⟩ := zb h
    refine z_get (j := 67) X dd_Mo_unit_41 kc_12 ki_12 (by decide) km_1588 (zgr_v ev4) ?_
    refine z_iload_n X dd_Mo_unit_44 rfl 1 rfl ?_
    obtain ⟨v5, ev5, h⟩ := zb h
    refine z_iaload X dd_Mo_unit_45 rfl ev5 ?_
    refine z_iconst (v := 2) X dd_Mo_unit_46 (by decide) ?_
    refine z_icmp_ne (tgt := 79) X dd_Mo_unit_47 (by decide) (fun q6 => ?_) (fun q6 => ?_)
    · rw [if_neg q6] at h
      refine z_aload_n X dd_Mo_unit_79 rfl 0 rfl ?_
      refine z_bipush (v := 45) X dd_Mo_unit_80 (by decide) ?_
      obtain ⟨w8, ew8, h⟩ := zb h
      obtain ⟨q7, eq7, h⟩ := zb h
      refine z_callVi X [.int 45] rfl dd_Mo_unit_82 (c_Mo_takes l eq7) (cwV 1 X.1.2.2.2.2 (zg_V km_1908 km_1910 km_69 km_138 km_1911) rfl rfl rfl (by decide +kernel) ⟨Nat.le_of_ble_eq_true rfl, Nat.le_of_ble_eq_true rfl⟩) (zob_s ew8) kc_12 rfl (Nat.le_of_ble_eq_true rfl) ⟨Nat.le_of_ble_eq_true rfl, Nat.le_of_ble_eq_true rfl⟩ ?_
      refine z_if_eq (tgt := 107) X dd_Mo_unit_85 (by decide) (fun q9 => ?_) (fun q9 => ?_)
      · rw [if_pos q9] at h
        refine z_aload_n X dd_Mo_unit_107 rfl 0 rfl ?_
        refine z_bipush (v := 40) X dd_Mo_unit_108 (by decide) ?_
        obtain ⟨w11, ew11, h⟩ := zb h
        obtain ⟨q10, eq10, h⟩ := zb h
        refine z_callVi X [.int 40] rfl dd_Mo_unit_110 (c_Mo_takes l eq10) (cwV 1 X.1.2.2.2.2 (zg_V km_1908 km_1910 km_69 km_138 km_1911) rfl rfl rfl (by decide +kernel) ⟨Nat.le_of_ble_eq_true rfl, Nat.le_of_ble_eq_true rfl⟩) (zob_s ew11) kc_12 rfl (Nat.le_of_ble_eq_true rfl) ⟨Nat.le_of_ble_eq_true rfl, Nat.le_of_ble_eq_true rfl⟩ ?_
        refine z_if_eq (tgt := 135) X dd_Mo_unit_113 (by decide) (fun q12 => ?_) (fun q12 => ?_)
        · rw [if_pos q12] at h
          refine z_aload_n X dd_Mo_unit_135 rfl 0 rfl ?_
          obtain ⟨v13, ev13, h⟩ := zb h
          refine z_get (j := 19) X dd_Mo_unit_136 kc_12 ki_12 (by decide) km_1540 (zgi_v ev13) ?_
          refine z_if_ne (tgt := 182) X dd_Mo_unit_139 (by decide) (fun q14 => ?_) (fun q14 => ?_)
          · rw [if_neg q14] at h
            refine z_sub [0] rfl ?_
            exact t_Mo_unit_182 X H h
          · rw [if_pos q14] at h
            refine z_aload_n X dd_Mo_unit_142 rfl 0 rfl ?_
            obtain ⟨w27, ew27, h⟩ := zb h
            obtain ⟨q26, eq26, h⟩ := zb h
            refine z_callVi X [] rfl dd_Mo_unit_143 (c_Mo_kind l eq26) (cwV 0 X.1.2.2.2.2 (zg_V km_1912 km_1914 km_70 km_138 km_1915) rfl rfl rfl (by decide +kernel) ⟨Nat.le_of_ble_eq_true rfl, Nat.le_of_ble_eq_true rfl⟩) (zob_s ew27) kc_12 rfl (Nat.le_of_ble_eq_true rfl) ⟨Nat.le_of_ble_eq_true rfl, Nat.le_of_ble_eq_true rfl⟩ ?_
            refine z_bipush (v := 6) X dd_Mo_unit_146 (by decide) ?_
            refine z_icmp_ne (tgt := 182) X dd_Mo_unit_148 (by decide) (fun q28 => ?_) (fun q28 => ?_)
            · rw [if_neg q28] at h
              refine z_sub [0] rfl ?_
              exact t_Mo_unit_182 X H h
            · rw [if_pos q28] at h
              refine z_aload_n X dd_Mo_unit_151 rfl 0 rfl ?_
              refine z_iconst (v := 0) X dd_Mo_unit_152 (by decide) ?_
              refine z_aload_n X dd_Mo_unit_153 rfl 0 rfl ?_
              obtain ⟨v29, ev29, h⟩ := zb h
              refine z_get (j := 15) X dd_Mo_unit_154 kc_12 ki_12 (by decide) km_1536 (zgr_v ev29) ?_
              refine z_aload_n X dd_Mo_unit_157 rfl 0 rfl ?_
              obtain ⟨v30, ev30, h⟩ := zb h
              refine z_get (j := 18) X dd_Mo_unit_158 kc_12 ki_12 (by decide) km_1539 (zgi_v ev30) ?_
              obtain ⟨v31, ev31, h⟩ := zb h
              refine z_iaload X dd_Mo_unit_161 rfl ev31 ?_
              obtain ⟨w33, ew33, h⟩ := zb h
              obtain ⟨q32, eq32, h⟩ := zb h
              refine z_callVv X [.int 0, .int v31] rfl dd_Mo_unit_162 (c_Mo_code l eq32) (cwV 2 X.1.2.2.2.2 (zg_V km_2004 km_2006 km_93 km_138 km_2007) rfl rfl rfl (by decide +kernel) ⟨Nat.le_of_ble_eq_true rfl, Nat.le_of_ble_eq_true rfl⟩) (zob_s ew33) kc_12 rfl (Nat.le_of_ble_eq_true rfl) ⟨Nat.le_of_ble_eq_true rfl, Nat.le_of_ble_eq_true rfl⟩ ?_
              refine z_aload_n X dd_Mo_unit_165 rfl 0 rfl ?_
              obtain ⟨w35, ew35, h⟩ := zb h
              obtain ⟨q34, eq34, h⟩ := zb h
              refine z_callVv X [] rfl dd_Mo_unit_166 (c_Mo_pass l eq34) (cwV 0 X.1.2.2.2.2 (zg_V km_1920 km_1922 km_72 km_138 km_1923) rfl rfl rfl (by decide +kernel) ⟨Nat.le_of_ble_eq_true rfl, Nat.le_of_ble_eq_true rfl⟩) (zob_s ew35) kc_12 rfl (Nat.le_of_ble_eq_true rfl) ⟨Nat.le_of_ble_eq_true rfl, Nat.le_of_ble_eq_true rfl⟩ ?_
              refine z_aload_n X dd_Mo_unit_169 rfl 0 rfl ?_
              refine z_dup X dd_Mo_unit_170 rfl ?_
              obtain ⟨v36, ev36, h⟩ := zb h
              refine z_get (j := 69) X dd_Mo_unit_171 kc_12 ki_12 (by decide) km_1590 (zgi_v ev36) ?_
              refine z_iconst (v := 1) X dd_Mo_unit_174 (by decide) ?_
              refine z_isub X dd_Mo_unit_175 ?_
              obtain ⟨c37, ec37, h⟩ := zb h
              refine z_put (j := 69) X dd_Mo_unit_176 kc_12 ki_12 tt_Mo tk_Mo nn_Mo (by decide) km_1590 rfl (tk_Mo 69 (by decide)) rfl rfl ec37 ?_
              refine z_goto (tgt := 218) X dd_Mo_unit_179 (by decide) ?_
              refine z_sub [] rfl ?_
              exact t_Mo_unit_218 X H h
        · rw [if_neg q12] at h
          refine z_aload_n X dd_Mo_unit_116 rfl 0 rfl ?_
          obtain ⟨w39, ew39, h⟩ := zb h
          obtain ⟨q38, eq38, h⟩ := zb h
          refine z_callVv X [] rfl dd_Mo_unit_117 (c_Mo_within l eq38) (cwV 0 X.1.2.2.2.2 (zg_V km_1972 km_1974 km_85 km_138 km_1975) rfl rfl rfl (by decide +kernel) ⟨Nat.le_of_ble_eq_true rfl, Nat.le_of_ble_eq_true rfl⟩) (zob_s ew39) kc_12 rfl (Nat.le_of_ble_eq_true rfl) ⟨Nat.le_of_ble_eq_true rfl, Nat.le_of_ble_eq_true rfl⟩ ?_
          refine z_aload_n X dd_Mo_unit_120 rfl 0 rfl ?_
          obtain ⟨v40, ev40, h⟩ := zb h
          refine z_get (j := 67) X dd_Mo_unit_121 kc_12 ki_12 (by decide) km_1588 (zgr_v ev40) ?_
          refine z_iload_n X dd_Mo_unit_124 rfl 1 rfl ?_
          refine z_iconst (v := 2) X dd_Mo_unit_125 (by decide) ?_
          obtain ⟨c41, ec41, h⟩ := zb h
          refine z_iastore X dd_Mo_unit_126 rfl ec41 ?_
          refine z_aload_n X dd_Mo_unit_127 rfl 0 rfl ?_
          refine z_iconst (v := 3) X dd_Mo_unit_128 (by decide) ?_
          obtain ⟨w43, ew43, h⟩ := zb h
          obtain ⟨q42, eq42, h⟩ := zb h
          refine z_callVv X [.int 3] rfl dd_Mo_unit_129 (c_Mo_frame l eq42) (cwV 1 X.1.2.2.2.2 (zg_V km_1996 km_1998 km_91 km_138 km_1999) rfl rfl rfl (by decide +kernel) ⟨Nat.le_of_ble_eq_true rfl, Nat.le_of_ble_eq_true rfl⟩) (zob_s ew43) kc_12 rfl (Nat.le_of_ble_eq_true rfl) ⟨Nat.le_of_ble_eq_true rfl, Nat.le_of_ble_eq_true rfl⟩ ?_
          refine z_goto (tgt := 218) X dd_Mo_unit_132 (by decide) ?_
          refine z_sub [] rfl ?_
          exact t_Mo_unit_218 X H h
      · rw [if_neg q9] at h
        refine z_aload_n X dd_Mo_unit_88 rfl 0 rfl ?_
        obtain ⟨w45, ew45, h⟩ := zb h
        obtain ⟨q44, eq44, h⟩ := zb h
        refine z_callVv X [] rfl dd_Mo_unit_89 (c_Mo_within l eq44) (cwV 0 X.1.2.2.2.2 (zg_V km_1972 km_1974 km_85 km_138 km_1975) rfl rfl rfl (by decide +kernel) ⟨Nat.le_of_ble_eq_true rfl, Nat.le_of_ble_eq_true rfl⟩) (zob_s ew45) kc_12 rfl (Nat.le_of_ble_eq_true rfl) ⟨Nat.le_of_ble_eq_true rfl, Nat.le_of_ble_eq_true rfl⟩ ?_
        refine z_aload_n X dd_Mo_unit_92 rfl 0 rfl ?_
        obtain ⟨v46, ev46, h⟩ := zb h
        refine z_get (j := 67) X dd_Mo_unit_93 kc_12 ki_12 (by decide) km_1588 (zgr_v ev46) ?_
        refine z_iload_n X dd_Mo_unit_96 rfl 1 rfl ?_
        refine z_iconst (v := 1) X dd_Mo_unit_97 (by decide) ?_
        obtain ⟨c47, ec47, h⟩ := zb h
        refine z_iastore X dd_Mo_unit_98 rfl ec47 ?_
        refine z_aload_n X dd_Mo_unit_99 rfl 0 rfl ?_
        refine z_iconst (v := 5) X dd_Mo_unit_100 (by decide) ?_
        obtain ⟨w49, ew49, h⟩ := zb h
        obtain ⟨q48, eq48, h⟩ := zb h
        refine z_callVv X [.int 5] rfl dd_Mo_unit_101 (c_Mo_frame l eq48) (cwV 1 X.1.2.2.2.2 (zg_V km_1996 km_1998 km_91 km_138 km_1999) rfl rfl rfl (by decide +kernel) ⟨Nat.le_of_ble_eq_true rfl, Nat.le_of_ble_eq_true rfl⟩) (zob_s ew49) kc_12 rfl (Nat.le_of_ble_eq_true rfl) ⟨Nat.le_of_ble_eq_true rfl, Nat.le_of_ble_eq_true rfl⟩ ?_
        refine z_goto (tgt := 218) X dd_Mo_unit_104 (by decide) ?_
        refine z_sub [] rfl ?_
        exact t_Mo_unit_218 X H h
    · rw [if_pos q6] at h
      refine z_aload_n X dd_Mo_unit_50 rfl 0 rfl ?_
      refine z_bipush (v := 41) X dd_Mo_unit_51 (by decide) ?_
      obtain ⟨w51, ew51, h⟩ := zb h
      obtain ⟨q50, eq50, h⟩ := zb h
      refine z_callVv X [.int 41] rfl dd_Mo_unit_53 (c_Mo_need l eq50) (cwV 1 X.1.2.2.2.2 (zg_V km_1904 km_1906 km_68 km_138 km_1907) rfl rfl rfl (by decide +kernel) ⟨Nat.le_of_ble_eq_true rfl, Nat.le_of_ble_eq_true rfl⟩) (zob_s ew51) kc_12 rfl (Nat.le_of_ble_eq_true rfl) ⟨Nat.le_of_ble_eq_true rfl, Nat.le_of_ble_eq_true rfl⟩ ?_
      refine z_aload_n X dd_Mo_unit_56 rfl 0 rfl ?_
      refine z_dup X dd_Mo_unit_57 rfl ?_
      obtain ⟨v52, ev52, h⟩ := zb h
      refine z_get (j := 53) X dd_Mo_unit_58 kc_12 ki_12 (by decide) km_1574 (zgi_v ev52) ?_
      refine z_iconst (v := 1) X dd_Mo_unit_61 (by decide) ?_
      refine z_isub X dd_Mo_unit_62 ?_
      obtain ⟨c53, ec53, h⟩ := zb h
      refine z_put (j := 53) X dd_Mo_unit_63 kc_12 ki_12 tt_Mo tk_Mo nn_Mo (by decide) km_1574 rfl (tk_Mo 53 (by decide)) rfl rfl ec53 ?_
      refine z_aload_n X dd_Mo_unit_66 rfl 0 rfl ?_
      refine z_dup X dd_Mo_unit_67 rfl ?_
      obtain ⟨v54, ev54, h⟩ := zb h
      refine z_get (j := 69) X dd_Mo_unit_68 kc_12 ki_12 (by decide) km_1590 (zgi_v ev54) ?_
      refine z_iconst (v := 1) X dd_Mo_unit_71 (by decide) ?_
      refine z_isub X dd_Mo_unit_72 ?_
      obtain ⟨c55, ec55, h⟩ := zb h
      refine z_put (j := 69) X dd_Mo_unit_73 kc_12 ki_12 tt_Mo tk_Mo nn_Mo (by decide) km_1590 rfl (tk_Mo 69 (by decide)) rfl rfl ec55 ?_
      refine z_goto (tgt := 218) X dd_Mo_unit_76 (by decide) ?_
      refine z_sub [] rfl ?_
      exact t_Mo_unit_218 X H h
  · rw [if_pos q3] at h
    refine z_aload_n X dd_Mo_unit_10 rfl 0 rfl ?_
    refine z_bipush (v := 7) X dd_Mo_unit_11 (by decide) ?_
    refine z_iconst (v := 0) X dd_Mo_unit_13 (by decide) ?_
    obtain ⟨w57, ew57, h⟩ := zb h
    obtain ⟨q56, eq56, h⟩ := zb h
    refine z_callVv X [.int 7, .int 0] rfl dd_Mo_unit_14 (c_Mo_code l eq56) (cwV 2 X.1.2.2.2.2 (zg_V km_2004 km_2006 km_93 km_138 km_2007) rfl rfl rfl (by decide +kernel) ⟨Nat.le_of_ble_eq_true rfl, Nat.le_of_ble_eq_true rfl⟩) (zob_s ew57) kc_12 rfl (Nat.le_of_ble_eq_true rfl) ⟨Nat.le_of_ble_eq_true rfl, Nat.le_of_ble_eq_true rfl⟩ ?_
    refine z_aload_n X dd_Mo_unit_17 rfl 0 rfl ?_
    refine z_dup X dd_Mo_unit_18 rfl ?_
    obtain ⟨v58, ev58, h⟩ := zb h
    refine z_get (j := 53) X dd_Mo_unit_19 kc_12 ki_12 (by decide) km_1574 (zgi_v ev58) ?_
    refine z_iconst (v := 1) X dd_Mo_unit_22 (by decide) ?_
    refine z_isub X dd_Mo_unit_23 ?_
    obtain ⟨c59, ec59, h⟩ := zb h
    refine z_put (j := 53) X dd_Mo_unit_24 kc_12 ki_12 tt_Mo tk_Mo nn_Mo (by decide) km_1574 rfl (tk_Mo 53 (by decide)) rfl rfl ec59 ?_
    refine z_aload_n X dd_Mo_unit_27 rfl 0 rfl ?_
    refine z_dup X dd_Mo_unit_28 rfl ?_
    obtain ⟨v60, ev60, h⟩ := zb h
    refine z_get (j := 69) X dd_Mo_unit_29 kc_12 ki_12 (by decide) km_1590 (zgi_v ev60) ?_
    refine z_iconst (v := 1) X dd_Mo_unit_32 (by decide) ?_
    refine z_isub X dd_Mo_unit_33 ?_
    obtain ⟨c61, ec61, h⟩ := zb h
    refine z_put (j := 69) X dd_Mo_unit_34 kc_12 ki_12 tt_Mo tk_Mo nn_Mo (by decide) km_1590 rfl (tk_Mo 69 (by decide)) rfl rfl ec61 ?_
    refine z_goto (tgt := 218) X dd_Mo_unit_37 (by decide) ?_
    refine z_sub [] rfl ?_
    exact t_Mo_unit_218 X H h
theorem dd_Mo_parse_0 : decode bb_Mo_parse 0 = .ok (.aload_n 0, 1) := by decide +kernel
theorem dd_Mo_parse_1 : decode bb_Mo_parse 1 = .ok (.iconst 0, 1) := by decide +kernel
theorem dd_Mo_parse_2 : decode bb_Mo_parse 2 = .ok (.putfield 389, 3) := by decide +kernel
theorem dd_Mo_parse_5 : decode bb_Mo_parse 5 = .ok (.aload_n 0, 1) := by decide +kernel
theorem dd_Mo_parse_6 : decode bb_Mo_parse 6 = .ok (.iload_n 1, 1) := by decide +kernel
theorem dd_Mo_parse_7 : decode bb_Mo_parse 7 = .ok (.invokevirtual 392, 3) := by decide +kernel
theorem dd_Mo_parse_10 : decode bb_Mo_parse 10 = .ok (.aload_n 0, 1) := by decide +kernel
theorem dd_Mo_parse_11 : decode bb_Mo_parse 11 = .ok (.getfield 389, 3) := by decide +kernel
theorem dd_Mo_parse_14 : decode bb_Mo_parse 14 = .ok (.ifCond .le 108, 3) := by decide +kernel
theorem dd_Mo_parse_17 : decode bb_Mo_parse 17 = .ok (.aload_n 0, 1) := by decide +kernel
theorem dd_Mo_parse_18 : decode bb_Mo_parse 18 = .ok (.getfield 294, 3) := by decide +kernel
theorem dd_Mo_parse_21 : decode bb_Mo_parse 21 = .ok (.ifCond .ne 101, 3) := by decide +kernel
theorem dd_Mo_parse_24 : decode bb_Mo_parse 24 = .ok (.aload_n 0, 1) := by decide +kernel
theorem dd_Mo_parse_25 : decode bb_Mo_parse 25 = .ok (.getfield 389, 3) := by decide +kernel
theorem dd_Mo_parse_28 : decode bb_Mo_parse 28 = .ok (.iconst 1, 1) := by decide +kernel
theorem dd_Mo_parse_29 : decode bb_Mo_parse 29 = .ok (.isub, 1) := by decide +kernel
theorem dd_Mo_parse_30 : decode bb_Mo_parse 30 = .ok (.istore_n 2, 1) := by decide +kernel
theorem dd_Mo_parse_31 : decode bb_Mo_parse 31 = .ok (.aload_n 0, 1) := by decide +kernel
theorem dd_Mo_parse_32 : decode bb_Mo_parse 32 = .ok (.getfield 170, 3) := by decide +kernel
theorem dd_Mo_parse_35 : decode bb_Mo_parse 35 = .ok (.iload_n 2, 1) := by decide +kernel
theorem dd_Mo_parse_36 : decode bb_Mo_parse 36 = .ok (.iaload, 1) := by decide +kernel
theorem dd_Mo_parse_37 : decode bb_Mo_parse 37 = .ok (.tableswitch 77 0 4 #[35, 48, 61, 69, 69], 35) := by decide +kernel
theorem dd_Mo_parse_72 : decode bb_Mo_parse 72 = .ok (.aload_n 0, 1) := by decide +kernel
theorem dd_Mo_parse_73 : decode bb_Mo_parse 73 = .ok (.iload_n 2, 1) := by decide +kernel
theorem dd_Mo_parse_74 : decode bb_Mo_parse 74 = .ok (.iconst 1, 1) := by decide +kernel
theorem dd_Mo_parse_75 : decode bb_Mo_parse 75 = .ok (.bipush 105, 2) := by decide +kernel
theorem dd_Mo_parse_77 : decode bb_Mo_parse 77 = .ok (.bipush 17, 2) := by decide +kernel
theorem dd_Mo_parse_79 : decode bb_Mo_parse 79 = .ok (.invokevirtual 395, 3) := by decide +kernel
theorem dd_Mo_parse_82 : decode bb_Mo_parse 82 = .ok (.goto 37, 3) := by decide +kernel
theorem dd_Mo_parse_85 : decode bb_Mo_parse 85 = .ok (.aload_n 0, 1) := by decide +kernel
theorem dd_Mo_parse_86 : decode bb_Mo_parse 86 = .ok (.iload_n 2, 1) := by decide +kernel
theorem dd_Mo_parse_87 : decode bb_Mo_parse 87 = .ok (.iconst 2, 1) := by decide +kernel
theorem dd_Mo_parse_88 : decode bb_Mo_parse 88 = .ok (.bipush 104, 2) := by decide +kernel
theorem dd_Mo_parse_90 : decode bb_Mo_parse 90 = .ok (.bipush 16, 2) := by decide +kernel
theorem dd_Mo_parse_92 : decode bb_Mo_parse 92 = .ok (.invokevirtual 395, 3) := by decide +kernel
theorem dd_Mo_parse_95 : decode bb_Mo_parse 95 = .ok (.goto 24, 3) := by decide +kernel
theorem dd_Mo_parse_98 : decode bb_Mo_parse 98 = .ok (.aload_n 0, 1) := by decide +kernel
theorem dd_Mo_parse_99 : decode bb_Mo_parse 99 = .ok (.iload_n 2, 1) := by decide +kernel
theorem dd_Mo_parse_100 : decode bb_Mo_parse 100 = .ok (.invokevirtual 399, 3) := by decide +kernel
theorem dd_Mo_parse_103 : decode bb_Mo_parse 103 = .ok (.goto 16, 3) := by decide +kernel
theorem dd_Mo_parse_106 : decode bb_Mo_parse 106 = .ok (.aload_n 0, 1) := by decide +kernel
theorem dd_Mo_parse_107 : decode bb_Mo_parse 107 = .ok (.iload_n 2, 1) := by decide +kernel
theorem dd_Mo_parse_108 : decode bb_Mo_parse 108 = .ok (.invokevirtual 402, 3) := by decide +kernel
theorem dd_Mo_parse_111 : decode bb_Mo_parse 111 = .ok (.goto 8, 3) := by decide +kernel
theorem dd_Mo_parse_114 : decode bb_Mo_parse 114 = .ok (.aload_n 0, 1) := by decide +kernel
theorem dd_Mo_parse_115 : decode bb_Mo_parse 115 = .ok (.iload_n 2, 1) := by decide +kernel
theorem dd_Mo_parse_116 : decode bb_Mo_parse 116 = .ok (.invokevirtual 405, 3) := by decide +kernel
theorem dd_Mo_parse_119 : decode bb_Mo_parse 119 = .ok (.goto (-109), 3) := by decide +kernel
theorem dd_Mo_parse_122 : decode bb_Mo_parse 122 = .ok (.aload_n 0, 1) := by decide +kernel
theorem dd_Mo_parse_123 : decode bb_Mo_parse 123 = .ok (.bipush 99, 2) := by decide +kernel
theorem dd_Mo_parse_125 : decode bb_Mo_parse 125 = .ok (.iconst 0, 1) := by decide +kernel
theorem dd_Mo_parse_126 : decode bb_Mo_parse 126 = .ok (.invokevirtual 408, 3) := by decide +kernel
theorem dd_Mo_parse_129 : decode bb_Mo_parse 129 = .ok (.return_, 1) := by decide +kernel
def f_Mo_parse_119 (nf : Nat) (x0 : Nat) (c : Zc) : Option ((Nat × Zc) ⊕ (Nat × Zc)) :=
  some (.inl (x0, c))
def g_Mo_parse_10 (nf : Nat) (x0 : Nat) (c : Zc) : Option ((Nat × Zc) ⊕ (Nat × Zc)) :=
  (zgi c x0 12 69).bind fun v4 => if v4 ≤ 0 then (some (.inr (x0, c))) else ((zgi c x0 12 19).bind fun v6 => if v6 = 0 then ((zgi c x0 12 69).bind fun v8 => (zgr c x0 12 66).bind fun v9 => (zai c v9 0 (v8 - 1)).bind fun v10 => if v10 = 0 then ((zob c x0 12).bind fun w13 => (f_Mo_joined nf x0 (v8 - 1) 1 105 17 c).bind fun q12 => f_Mo_parse_119 nf x0 q12) else if v10 = 1 then ((zob c x0 12).bind fun w16 => (f_Mo_joined nf x0 (v8 - 1) 2 104 16 c).bind fun q15 => f_Mo_parse_119 nf x0 q15) else if v10 = 2 then ((zob c x0 12).bind fun w19 => (f_Mo_fact nf x0 (v8 - 1) c).bind fun q18 => f_Mo_parse_119 nf x0 q18) else if v10 = 3 then ((zob c x0 12).bind fun w22 => (f_Mo_reckoned nf x0 (v8 - 1) c).bind fun q21 => f_Mo_parse_119 nf x0 q21) else if v10 = 4 then ((zob c x0 12).bind fun w25 => (f_Mo_reckoned nf x0 (v8 - 1) c).bind fun q24 => f_Mo_parse_119 nf x0 q24) else ((zob c x0 12).bind fun w27 => (f_Mo_unit nf x0 (v8 - 1) c).bind fun q26 => f_Mo_parse_119 nf x0 q26)) else (some (.inr (x0, c))))
def f_Mo_parse_122 (nf : Nat) (x0 : Nat) (c : Zc) : Option (Zc) :=
  (zob c x0 12).bind fun w29 => (f_Mo_code nf x0 99 0 c).bind fun q28 => some q28
def f_Mo_parse_10 (nf : Nat) (x0 : Nat) (c : Zc) : Option (Zc) :=
  (zlp (fun a => g_Mo_parse_10 nf a.1 a.2) nf (x0, c)).bind fun b => f_Mo_parse_122 nf b.1 b.2
def f_Mo_parse (nf : Nat) (a0 : Nat) (a1 : Int32) (c : Zc) : Option (Zc) :=
  (zpv c a0 12 69 (.int 0)).bind fun c1 => (zob c1 a0 12).bind fun w3 => (f_Mo_frame nf a0 a1 c1).bind fun q2 => f_Mo_parse_10 nf a0 q2
set_option maxRecDepth 100000 in
set_option maxHeartbeats 4000000 in
theorem t_Mo_parse_119  (X : zX p s m args cd D cid B bb_Mo_parse 3 rr_Mo zT) (H : zH s meth B n0 none "parse") {nf : Nat} {x0 : Nat} {c : Zc} {r : (Nat × Zc) ⊕ (Nat × Zc)} (h : f_Mo_parse_119 nf x0 c = some r) (k0 : ∀ a, r = .inl a → (fun a : Nat × Zc => Zz p l e (zRm 12 266 0 0) s m args below meth cd Q D cid B 3 0 0 a.2 10 [(0, .ref a.1)] []) a) (k1 : ∀ b, r = .inr b → (fun b : Nat × Zc => Zz p l e (zRm 12 266 0 0) s m args below meth cd Q D cid B 3 0 0 b.2 122 [(0, .ref b.1)] []) b) : Zz p l e (zRm 12 266 0 0) s m args below meth cd Q D cid B 3 0 0 c 119 [(0, .ref x0)] [] := by
  unfold f_Mo_parse_119 at h
  refine z_goto (tgt := 10) X dd_Mo_parse_119 (by decide) ?_
  obtain rfl := Option.some.inj h
  exact k0 _ rfl
set_option maxRecDepth 100000 in
set_option maxHeartbeats 4000000 in
theorem u_Mo_parse_10  (X : zX p s m args cd D cid B bb_Mo_parse 3 rr_Mo zT) (H : zH s meth B n0 none "parse") {nf : Nat} {x0 : Nat} {c : Zc} {r : (Nat × Zc) ⊕ (Nat × Zc)} (h : g_Mo_parse_10 nf x0 c = some r) (k0 : ∀ a, r = .inl a → (fun a : Nat × Zc => Zz p l e (zRm 12 266 0 0) s m args below meth cd Q D cid B 3 0 0 a.2 10 [(0, .ref a.1)] []) a) (k1 : ∀ b, r = .inr b → (fun b : Nat × Zc => Zz p l e (zRm 12 266 0 0) s m args below meth cd Q D cid B 3 0 0 b.2 122 [(0, .ref b.1)] []) b) : Zz p l e (zRm 12 266 0 0) s m args below meth cd Q D cid B 3 0 0 c 10 [(0, .ref x0)] [] := by
  unfold g_Mo_parse_10 at h
  refine z_aload_n X dd_Mo_parse_10 rfl 0 rfl ?_
  obtain ⟨v4, ev4, h⟩ := zb h
  refine z_get (j := 69) X dd_Mo_parse_11 kc_12 ki_12 (by decide) km_1590 (zgi_v ev4) ?_
  refine z_if_le (tgt := 122) X dd_Mo_parse_14 (by decide) (fun q5 => ?_) (fun q5 => ?_)
  · rw [if_pos q5] at h
    obtain rfl := Option.some.inj h
    exact k1 _ rfl
  · rw [if_neg q5] at h
    refine z_aload_n X dd_Mo_parse_17 rfl 0 rfl ?_
    obtain ⟨v6, ev6, h⟩ := zb h
    refine z_get (j := 19) X dd_Mo_parse_18 kc_12 ki_12 (by decide) km_1540 (zgi_v ev6) ?_
    refine z_if_ne (tgt := 122) X dd_Mo_parse_21 (by decide) (fun q7 => ?_) (fun q7 => ?_)
    · rw [if_neg q7] at h
      obtain rfl := Option.some.inj h
      exact k1 _ rfl
    · rw [if_pos q7] at h
      refine z_aload_n X dd_Mo_parse_24 rfl 0 rfl ?_
      obtain ⟨v8, ev8, h⟩ := zb h
      refine z_get (j := 69) X dd_Mo_parse_25 kc_12 ki_12 (by decide) km_1590 (zgi_v ev8) ?_
      refine z_iconst (v := 1) X dd_Mo_parse_28 (by decide) ?_
      refine z_isub X dd_Mo_parse_29 ?_
      refine z_istore_n (lv' := [(2, .int (v8 - 1)), (0, .ref x0)]) X dd_Mo_parse_30 rfl (by decide) rfl ?_
      refine z_aload_n X dd_Mo_parse_31 rfl 1 rfl ?_
      obtain ⟨v9, ev9, h⟩ := zb h
      refine z_get (j := 66) X dd_Mo_parse_32 kc_12 ki_12 (by decide) km_1587 (zgr_v ev9) ?_
      refine z_iload_n X dd_Mo_parse_35 rfl 0 rfl ?_
      obtain ⟨v10, ev10, h⟩ := zb h
      refine z_iaload X dd_Mo_parse_36 rfl ev10 ?_
      by_cases q11 : v10 = 0
      · rw [if_pos q11] at h
        refine z_tableIn (tgt := 72) (off := 35) X dd_Mo_parse_37 (by rw [q11]; decide) (by rw [q11]; decide) (by rw [q11]; rfl) (by decide) ?_
        refine z_aload_n X dd_Mo_parse_72 rfl 1 rfl ?_
        refine z_iload_n X dd_Mo_parse_73 rfl 0 rfl ?_
        refine z_iconst (v := 1) X dd_Mo_parse_74 (by decide) ?_
        refine z_bipush (v := 105) X dd_Mo_parse_75 (by decide) ?_
        refine z_bipush (v := 17) X dd_Mo_parse_77 (by decide) ?_
        obtain ⟨w13, ew13, h⟩ := zb h
        obtain ⟨q12, eq12, h⟩ := zb h
        refine z_callVv X [.int (v8 - 1), .int 1, .int 105, .int 17] rfl dd_Mo_parse_79 (c_Mo_joined l eq12) (cwV 4 X.1.2.2.2.2 (zg_V km_2000 km_2002 km_92 km_138 km_2003) rfl rfl rfl (by decide +kernel) ⟨Nat.le_of_ble_eq_true rfl, Nat.le_of_ble_eq_true rfl⟩) (zob_s ew13) kc_12 rfl (Nat.le_of_ble_eq_true rfl) ⟨Nat.le_of_ble_eq_true rfl, Nat.le_of_ble_eq_true rfl⟩ ?_
        refine z_goto (tgt := 119) X dd_Mo_parse_82 (by decide) ?_
        refine z_sub [1] rfl ?_
        exact t_Mo_parse_119 X H h k0 k1
      rw [if_neg q11] at h
      by_cases q14 : v10 = 1
      · rw [if_pos q14] at h
        refine z_tableIn (tgt := 85) (off := 48) X dd_Mo_parse_37 (by rw [q14]; decide) (by rw [q14]; decide) (by rw [q14]; rfl) (by decide) ?_
        refine z_aload_n X dd_Mo_parse_85 rfl 1 rfl ?_
        refine z_iload_n X dd_Mo_parse_86 rfl 0 rfl ?_
        refine z_iconst (v := 2) X dd_Mo_parse_87 (by decide) ?_
        refine z_bipush (v := 104) X dd_Mo_parse_88 (by decide) ?_
        refine z_bipush (v := 16) X dd_Mo_parse_90 (by decide) ?_
        obtain ⟨w16, ew16, h⟩ := zb h
        obtain ⟨q15, eq15, h⟩ := zb h
        refine z_callVv X [.int (v8 - 1), .int 2, .int 104, .int 16] rfl dd_Mo_parse_92 (c_Mo_joined l eq15) (cwV 4 X.1.2.2.2.2 (zg_V km_2000 km_2002 km_92 km_138 km_2003) rfl rfl rfl (by decide +kernel) ⟨Nat.le_of_ble_eq_true rfl, Nat.le_of_ble_eq_true rfl⟩) (zob_s ew16) kc_12 rfl (Nat.le_of_ble_eq_true rfl) ⟨Nat.le_of_ble_eq_true rfl, Nat.le_of_ble_eq_true rfl⟩ ?_
        refine z_goto (tgt := 119) X dd_Mo_parse_95 (by decide) ?_
        refine z_sub [1] rfl ?_
        exact t_Mo_parse_119 X H h k0 k1
      rw [if_neg q14] at h
      by_cases q17 : v10 = 2
      · rw [if_pos q17] at h
        refine z_tableIn (tgt := 98) (off := 61) X dd_Mo_parse_37 (by rw [q17]; decide) (by rw [q17]; decide) (by rw [q17]; rfl) (by decide) ?_
        refine z_aload_n X dd_Mo_parse_98 rfl 1 rfl ?_
        refine z_iload_n X dd_Mo_parse_99 rfl 0 rfl ?_
        obtain ⟨w19, ew19, h⟩ := zb h
        obtain ⟨q18, eq18, h⟩ := zb h
        refine z_callVv X [.int (v8 - 1)] rfl dd_Mo_parse_100 (c_Mo_fact l eq18) (cwV 1 X.1.2.2.2.2 (zg_V km_2008 km_2010 km_94 km_138 km_2011) rfl rfl rfl (by decide +kernel) ⟨Nat.le_of_ble_eq_true rfl, Nat.le_of_ble_eq_true rfl⟩) (zob_s ew19) kc_12 rfl (Nat.le_of_ble_eq_true rfl) ⟨Nat.le_of_ble_eq_true rfl, Nat.le_of_ble_eq_true rfl⟩ ?_
        refine z_goto (tgt := 119) X dd_Mo_parse_103 (by decide) ?_
        refine z_sub [1] rfl ?_
        exact t_Mo_parse_119 X H h k0 k1
      rw [if_neg q17] at h
      by_cases q20 : v10 = 3
      · rw [if_pos q20] at h
        refine z_tableIn (tgt := 106) (off := 69) X dd_Mo_parse_37 (by rw [q20]; decide) (by rw [q20]; decide) (by rw [q20]; rfl) (by decide) ?_
        refine z_aload_n X dd_Mo_parse_106 rfl 1 rfl ?_
        refine z_iload_n X dd_Mo_parse_107 rfl 0 rfl ?_
        obtain ⟨w22, ew22, h⟩ := zb h
        obtain ⟨q21, eq21, h⟩ := zb h
        refine z_callVv X [.int (v8 - 1)] rfl dd_Mo_parse_108 (c_Mo_reckoned l eq21) (cwV 1 X.1.2.2.2.2 (zg_V km_2023 km_2025 km_97 km_138 km_2026) rfl rfl rfl (by decide +kernel) ⟨Nat.le_of_ble_eq_true rfl, Nat.le_of_ble_eq_true rfl⟩) (zob_s ew22) kc_12 rfl (Nat.le_of_ble_eq_true rfl) ⟨Nat.le_of_ble_eq_true rfl, Nat.le_of_ble_eq_true rfl⟩ ?_
        refine z_goto (tgt := 119) X dd_Mo_parse_111 (by decide) ?_
        refine z_sub [1] rfl ?_
        exact t_Mo_parse_119 X H h k0 k1
      rw [if_neg q20] at h
      by_cases q23 : v10 = 4
      · rw [if_pos q23] at h
        refine z_tableIn (tgt := 106) (off := 69) X dd_Mo_parse_37 (by rw [q23]; decide) (by rw [q23]; decide) (by rw [q23]; rfl) (by decide) ?_
        refine z_aload_n X dd_Mo_parse_106 rfl 1 rfl ?_
        refine z_iload_n X dd_Mo_parse_107 rfl 0 rfl ?_
        obtain ⟨w25, ew25, h⟩ := zb h
        obtain ⟨q24, eq24, h⟩ := zb h
        refine z_callVv X [.int (v8 - 1)] rfl dd_Mo_parse_108 (c_Mo_reckoned l eq24) (cwV 1 X.1.2.2.2.2 (zg_V km_2023 km_2025 km_97 km_138 km_2026) rfl rfl rfl (by decide +kernel) ⟨Nat.le_of_ble_eq_true rfl, Nat.le_of_ble_eq_true rfl⟩) (zob_s ew25) kc_12 rfl (Nat.le_of_ble_eq_true rfl) ⟨Nat.le_of_ble_eq_true rfl, Nat.le_of_ble_eq_true rfl⟩ ?_
        refine z_goto (tgt := 119) X dd_Mo_parse_111 (by decide) ?_
        refine z_sub [1] rfl ?_
        exact t_Mo_parse_119 X H h k0 k1
      rw [if_neg q23] at h
      refine z_tableOut (tgt := 114) X dd_Mo_parse_37 (by have yq11 := lv_neT q11 (a := 0) (by decide); have yq14 := lv_neT q14 (a := 1) (by decide); have yq17 := lv_neT q17 (a := 2) (by decide); have yq20 := lv_neT q20 (a := 3) (by decide); have yq23 := lv_neT q23 (a := 4) (by decide); omega) (by decide) ?_
      refine z_aload_n X dd_Mo_parse_114 rfl 1 rfl ?_
      refine z_iload_n X dd_Mo_parse_115 rfl 0 rfl ?_
      obtain ⟨w27, ew27, h⟩ := zb h
      obtain ⟨q26, eq26, h⟩ := zb h
      refine z_callVv X [.int (v8 - 1)] rfl dd_Mo_parse_116 (c_Mo_unit l eq26) (cwV 1 X.1.2.2.2.2 (zg_V km_2027 km_2029 km_98 km_138 km_2030) rfl rfl rfl (by decide +kernel) ⟨Nat.le_of_ble_eq_true rfl, Nat.le_of_ble_eq_true rfl⟩) (zob_s ew27) kc_12 rfl (Nat.le_of_ble_eq_true rfl) ⟨Nat.le_of_ble_eq_true rfl, Nat.le_of_ble_eq_true rfl⟩ ?_
      refine z_sub [1] rfl ?_
      exact t_Mo_parse_119 X H h k0 k1
set_option maxRecDepth 100000 in
set_option maxHeartbeats 4000000 in
theorem t_Mo_parse_122  (X : zX p s m args cd D cid B bb_Mo_parse 3 rr_Mo zT) (H : zH s meth B n0 none "parse") {nf : Nat} {x0 : Nat} {c : Zc} {res : Zc} (h : f_Mo_parse_122 nf x0 c = some res) : Zz p l e (zRm 12 266 0 0) s m args below meth cd (MQ below (zQv D cid B res n0 0) args s 0 0 (fun q => B ≤ q)) D cid B 3 0 0 c 122 [(0, .ref x0)] [] := by
  unfold f_Mo_parse_122 at h
  refine z_aload_n X dd_Mo_parse_122 rfl 0 rfl ?_
  refine z_bipush (v := 99) X dd_Mo_parse_123 (by decide) ?_
  refine z_iconst (v := 0) X dd_Mo_parse_125 (by decide) ?_
  obtain ⟨w29, ew29, h⟩ := zb h
  obtain ⟨q28, eq28, h⟩ := zb h
  refine z_callVv X [.int 99, .int 0] rfl dd_Mo_parse_126 (c_Mo_code l eq28) (cwV 2 X.1.2.2.2.2 (zg_V km_2004 km_2006 km_93 km_138 km_2007) rfl rfl rfl (by decide +kernel) ⟨Nat.le_of_ble_eq_true rfl, Nat.le_of_ble_eq_true rfl⟩) (zob_s ew29) kc_12 rfl (Nat.le_of_ble_eq_true rfl) ⟨Nat.le_of_ble_eq_true rfl, Nat.le_of_ble_eq_true rfl⟩ ?_
  obtain rfl := Option.some.inj h
  exact z_vret X H.1 H.2.1 H.2.2.1 dd_Mo_parse_129
set_option maxRecDepth 100000 in
set_option maxHeartbeats 4000000 in
theorem t_Mo_parse_10  (X : zX p s m args cd D cid B bb_Mo_parse 3 rr_Mo zT) (H : zH s meth B n0 none "parse") {nf : Nat} {x0 : Nat} {c : Zc} {res : Zc} (h : f_Mo_parse_10 nf x0 c = some res) : Zz p l e (zRm 12 266 0 0) s m args below meth cd (MQ below (zQv D cid B res n0 0) args s 0 0 (fun q => B ≤ q)) D cid B 3 0 0 c 10 [(0, .ref x0)] [] := by
  unfold f_Mo_parse_10 at h
  obtain ⟨b, eb, h⟩ := zb h
  refine zlp_ok (P := fun a : Nat × Zc => Zz p l e (zRm 12 266 0 0) s m args below meth cd _ D cid B 3 0 0 a.2 10 [(0, .ref a.1)] []) (G := fun b : Nat × Zc => Zz p l e (zRm 12 266 0 0) s m args below meth cd _ D cid B 3 0 0 b.2 122 [(0, .ref b.1)] []) (fun a r ha k0 k1 => u_Mo_parse_10 X H ha k0 k1) nf _ b eb ?_
  exact t_Mo_parse_122 X H h
set_option maxRecDepth 100000 in
set_option maxHeartbeats 4000000 in
theorem c_Mo_parse (l : Launch) {nf : Nat} {a0 : Nat} {a1 : Int32} {c : Zc} {res : Zc} (h : f_Mo_parse nf a0 a1 c = some res) : zM l yy_Mo_parse ww_Mo_parse 12 266 0 0 [.ref a0, .int a1] c (fun D cid B => zQv D cid B res c.length 0) := by
  refine z_met (cc := bb_Mo_parse) (maxL := 3) (ret := none) (by decide +kernel) rfl (Nat.le_of_ble_eq_true rfl) ?_
  intro p e s m args below meth cd D cid B X h1 h2 h3 h4
  have X : zX p s m args cd D cid B bb_Mo_parse 3 rr_Mo zT := X
  have H : zH s meth B c.length none "parse" := ⟨h1, h2, h4, h3⟩
  unfold f_Mo_parse at h
  show Zz p l e (zRm 12 266 0 0) s m args below meth cd _ D cid B 3 0 0 c 0 [(0, .ref a0), (1, .int a1)] []
  refine z_aload_n X dd_Mo_parse_0 rfl 0 rfl ?_
  refine z_iconst (v := 0) X dd_Mo_parse_1 (by decide) ?_
  obtain ⟨c1, ec1, h⟩ := zb h
  refine z_put (j := 69) X dd_Mo_parse_2 kc_12 ki_12 tt_Mo tk_Mo nn_Mo (by decide) km_1590 rfl (tk_Mo 69 (by decide)) rfl rfl ec1 ?_
  refine z_aload_n X dd_Mo_parse_5 rfl 0 rfl ?_
  refine z_iload_n X dd_Mo_parse_6 rfl 1 rfl ?_
  obtain ⟨w3, ew3, h⟩ := zb h
  obtain ⟨q2, eq2, h⟩ := zb h
  refine z_callVv X [.int a1] rfl dd_Mo_parse_7 (c_Mo_frame l eq2) (cwV 1 X.1.2.2.2.2 (zg_V km_1996 km_1998 km_91 km_138 km_1999) rfl rfl rfl (by decide +kernel) ⟨Nat.le_of_ble_eq_true rfl, Nat.le_of_ble_eq_true rfl⟩) (zob_s ew3) kc_12 rfl (Nat.le_of_ble_eq_true rfl) ⟨Nat.le_of_ble_eq_true rfl, Nat.le_of_ble_eq_true rfl⟩ ?_
  refine z_sub [0] rfl ?_
  exact t_Mo_parse_10 X H h
theorem dd_Mo_begin_0 : decode bb_Mo_begin 0 = .ok (.aload_n 0, 1) := by decide +kernel
theorem dd_Mo_begin_1 : decode bb_Mo_begin 1 = .ok (.aload_n 0, 1) := by decide +kernel
theorem dd_Mo_begin_2 : decode bb_Mo_begin 2 = .ok (.getfield 62, 3) := by decide +kernel
theorem dd_Mo_begin_5 : decode bb_Mo_begin 5 = .ok (.putfield 331, 3) := by decide +kernel
theorem dd_Mo_begin_8 : decode bb_Mo_begin 8 = .ok (.aload_n 0, 1) := by decide +kernel
theorem dd_Mo_begin_9 : decode bb_Mo_begin 9 = .ok (.getfield 65, 3) := by decide +kernel
theorem dd_Mo_begin_12 : decode bb_Mo_begin 12 = .ok (.aload_n 0, 1) := by decide +kernel
theorem dd_Mo_begin_13 : decode bb_Mo_begin 13 = .ok (.getfield 331, 3) := by decide +kernel
theorem dd_Mo_begin_16 : decode bb_Mo_begin 16 = .ok (.iconst 0, 1) := by decide +kernel
theorem dd_Mo_begin_17 : decode bb_Mo_begin 17 = .ok (.iastore, 1) := by decide +kernel
theorem dd_Mo_begin_18 : decode bb_Mo_begin 18 = .ok (.aload_n 0, 1) := by decide +kernel
theorem dd_Mo_begin_19 : decode bb_Mo_begin 19 = .ok (.getfield 68, 3) := by decide +kernel
theorem dd_Mo_begin_22 : decode bb_Mo_begin 22 = .ok (.aload_n 0, 1) := by decide +kernel
theorem dd_Mo_begin_23 : decode bb_Mo_begin 23 = .ok (.getfield 331, 3) := by decide +kernel
theorem dd_Mo_begin_26 : decode bb_Mo_begin 26 = .ok (.iconst 0, 1) := by decide +kernel
theorem dd_Mo_begin_27 : decode bb_Mo_begin 27 = .ok (.iastore, 1) := by decide +kernel
theorem dd_Mo_begin_28 : decode bb_Mo_begin 28 = .ok (.aload_n 0, 1) := by decide +kernel
theorem dd_Mo_begin_29 : decode bb_Mo_begin 29 = .ok (.getfield 71, 3) := by decide +kernel
theorem dd_Mo_begin_32 : decode bb_Mo_begin 32 = .ok (.aload_n 0, 1) := by decide +kernel
theorem dd_Mo_begin_33 : decode bb_Mo_begin 33 = .ok (.getfield 331, 3) := by decide +kernel
theorem dd_Mo_begin_36 : decode bb_Mo_begin 36 = .ok (.iconst 0, 1) := by decide +kernel
theorem dd_Mo_begin_37 : decode bb_Mo_begin 37 = .ok (.iastore, 1) := by decide +kernel
theorem dd_Mo_begin_38 : decode bb_Mo_begin 38 = .ok (.aload_n 0, 1) := by decide +kernel
theorem dd_Mo_begin_39 : decode bb_Mo_begin 39 = .ok (.getfield 80, 3) := by decide +kernel
theorem dd_Mo_begin_42 : decode bb_Mo_begin 42 = .ok (.aload_n 0, 1) := by decide +kernel
theorem dd_Mo_begin_43 : decode bb_Mo_begin 43 = .ok (.getfield 331, 3) := by decide +kernel
theorem dd_Mo_begin_46 : decode bb_Mo_begin 46 = .ok (.iconst 0, 1) := by decide +kernel
theorem dd_Mo_begin_47 : decode bb_Mo_begin 47 = .ok (.iastore, 1) := by decide +kernel
theorem dd_Mo_begin_48 : decode bb_Mo_begin 48 = .ok (.aload_n 0, 1) := by decide +kernel
theorem dd_Mo_begin_49 : decode bb_Mo_begin 49 = .ok (.getfield 116, 3) := by decide +kernel
theorem dd_Mo_begin_52 : decode bb_Mo_begin 52 = .ok (.aload_n 0, 1) := by decide +kernel
theorem dd_Mo_begin_53 : decode bb_Mo_begin 53 = .ok (.getfield 331, 3) := by decide +kernel
theorem dd_Mo_begin_56 : decode bb_Mo_begin 56 = .ok (.iconst 0, 1) := by decide +kernel
theorem dd_Mo_begin_57 : decode bb_Mo_begin 57 = .ok (.iastore, 1) := by decide +kernel
theorem dd_Mo_begin_58 : decode bb_Mo_begin 58 = .ok (.aload_n 0, 1) := by decide +kernel
theorem dd_Mo_begin_59 : decode bb_Mo_begin 59 = .ok (.getfield 128, 3) := by decide +kernel
theorem dd_Mo_begin_62 : decode bb_Mo_begin 62 = .ok (.aload_n 0, 1) := by decide +kernel
theorem dd_Mo_begin_63 : decode bb_Mo_begin 63 = .ok (.getfield 331, 3) := by decide +kernel
theorem dd_Mo_begin_66 : decode bb_Mo_begin 66 = .ok (.iconst 0, 1) := by decide +kernel
theorem dd_Mo_begin_67 : decode bb_Mo_begin 67 = .ok (.iastore, 1) := by decide +kernel
theorem dd_Mo_begin_68 : decode bb_Mo_begin 68 = .ok (.aload_n 0, 1) := by decide +kernel
theorem dd_Mo_begin_69 : decode bb_Mo_begin 69 = .ok (.getfield 125, 3) := by decide +kernel
theorem dd_Mo_begin_72 : decode bb_Mo_begin 72 = .ok (.aload_n 0, 1) := by decide +kernel
theorem dd_Mo_begin_73 : decode bb_Mo_begin 73 = .ok (.getfield 331, 3) := by decide +kernel
theorem dd_Mo_begin_76 : decode bb_Mo_begin 76 = .ok (.iconst (-1), 1) := by decide +kernel
theorem dd_Mo_begin_77 : decode bb_Mo_begin 77 = .ok (.iastore, 1) := by decide +kernel
theorem dd_Mo_begin_78 : decode bb_Mo_begin 78 = .ok (.aload_n 0, 1) := by decide +kernel
theorem dd_Mo_begin_79 : decode bb_Mo_begin 79 = .ok (.iconst 0, 1) := by decide +kernel
theorem dd_Mo_begin_80 : decode bb_Mo_begin 80 = .ok (.putfield 386, 3) := by decide +kernel
theorem dd_Mo_begin_83 : decode bb_Mo_begin 83 = .ok (.aload_n 0, 1) := by decide +kernel
theorem dd_Mo_begin_84 : decode bb_Mo_begin 84 = .ok (.iconst 0, 1) := by decide +kernel
theorem dd_Mo_begin_85 : decode bb_Mo_begin 85 = .ok (.putfield 328, 3) := by decide +kernel
theorem dd_Mo_begin_88 : decode bb_Mo_begin 88 = .ok (.aload_n 0, 1) := by decide +kernel
theorem dd_Mo_begin_89 : decode bb_Mo_begin 89 = .ok (.iconst 0, 1) := by decide +kernel
theorem dd_Mo_begin_90 : decode bb_Mo_begin 90 = .ok (.putfield 325, 3) := by decide +kernel
theorem dd_Mo_begin_93 : decode bb_Mo_begin 93 = .ok (.aload_n 0, 1) := by decide +kernel
theorem dd_Mo_begin_94 : decode bb_Mo_begin 94 = .ok (.iconst 0, 1) := by decide +kernel
theorem dd_Mo_begin_95 : decode bb_Mo_begin 95 = .ok (.putfield 322, 3) := by decide +kernel
theorem dd_Mo_begin_98 : decode bb_Mo_begin 98 = .ok (.aload_n 0, 1) := by decide +kernel
theorem dd_Mo_begin_99 : decode bb_Mo_begin 99 = .ok (.iconst 0, 1) := by decide +kernel
theorem dd_Mo_begin_100 : decode bb_Mo_begin 100 = .ok (.putfield 294, 3) := by decide +kernel
theorem dd_Mo_begin_103 : decode bb_Mo_begin 103 = .ok (.aload_n 0, 1) := by decide +kernel
theorem dd_Mo_begin_104 : decode bb_Mo_begin 104 = .ok (.iconst 0, 1) := by decide +kernel
theorem dd_Mo_begin_105 : decode bb_Mo_begin 105 = .ok (.putfield 300, 3) := by decide +kernel
theorem dd_Mo_begin_108 : decode bb_Mo_begin 108 = .ok (.iconst 0, 1) := by decide +kernel
theorem dd_Mo_begin_109 : decode bb_Mo_begin 109 = .ok (.istore_n 1, 1) := by decide +kernel
theorem dd_Mo_begin_110 : decode bb_Mo_begin 110 = .ok (.iload_n 1, 1) := by decide +kernel
theorem dd_Mo_begin_111 : decode bb_Mo_begin 111 = .ok (.sipush 640, 3) := by decide +kernel
theorem dd_Mo_begin_114 : decode bb_Mo_begin 114 = .ok (.if_icmp .ge 25, 3) := by decide +kernel
theorem dd_Mo_begin_117 : decode bb_Mo_begin 117 = .ok (.aload_n 0, 1) := by decide +kernel
theorem dd_Mo_begin_118 : decode bb_Mo_begin 118 = .ok (.getfield 77, 3) := by decide +kernel
theorem dd_Mo_begin_121 : decode bb_Mo_begin 121 = .ok (.sipush 640, 3) := by decide +kernel
theorem dd_Mo_begin_124 : decode bb_Mo_begin 124 = .ok (.aload_n 0, 1) := by decide +kernel
theorem dd_Mo_begin_125 : decode bb_Mo_begin 125 = .ok (.getfield 331, 3) := by decide +kernel
theorem dd_Mo_begin_128 : decode bb_Mo_begin 128 = .ok (.imul, 1) := by decide +kernel
theorem dd_Mo_begin_129 : decode bb_Mo_begin 129 = .ok (.iload_n 1, 1) := by decide +kernel
theorem dd_Mo_begin_130 : decode bb_Mo_begin 130 = .ok (.iadd, 1) := by decide +kernel
theorem dd_Mo_begin_131 : decode bb_Mo_begin 131 = .ok (.iconst 0, 1) := by decide +kernel
theorem dd_Mo_begin_132 : decode bb_Mo_begin 132 = .ok (.iastore, 1) := by decide +kernel
theorem dd_Mo_begin_133 : decode bb_Mo_begin 133 = .ok (.iinc 1 1, 3) := by decide +kernel
theorem dd_Mo_begin_136 : decode bb_Mo_begin 136 = .ok (.goto (-26), 3) := by decide +kernel
theorem dd_Mo_begin_139 : decode bb_Mo_begin 139 = .ok (.iconst 0, 1) := by decide +kernel
theorem dd_Mo_begin_140 : decode bb_Mo_begin 140 = .ok (.istore_n 1, 1) := by decide +kernel
theorem dd_Mo_begin_141 : decode bb_Mo_begin 141 = .ok (.iload_n 1, 1) := by decide +kernel
theorem dd_Mo_begin_142 : decode bb_Mo_begin 142 = .ok (.bipush 66, 2) := by decide +kernel
theorem dd_Mo_begin_144 : decode bb_Mo_begin 144 = .ok (.if_icmp .ge 23, 3) := by decide +kernel
theorem dd_Mo_begin_147 : decode bb_Mo_begin 147 = .ok (.aload_n 0, 1) := by decide +kernel
theorem dd_Mo_begin_148 : decode bb_Mo_begin 148 = .ok (.getfield 143, 3) := by decide +kernel
theorem dd_Mo_begin_151 : decode bb_Mo_begin 151 = .ok (.iload_n 1, 1) := by decide +kernel
theorem dd_Mo_begin_152 : decode bb_Mo_begin 152 = .ok (.iconst (-1), 1) := by decide +kernel
theorem dd_Mo_begin_153 : decode bb_Mo_begin 153 = .ok (.iastore, 1) := by decide +kernel
theorem dd_Mo_begin_154 : decode bb_Mo_begin 154 = .ok (.aload_n 0, 1) := by decide +kernel
theorem dd_Mo_begin_155 : decode bb_Mo_begin 155 = .ok (.getfield 146, 3) := by decide +kernel
theorem dd_Mo_begin_158 : decode bb_Mo_begin 158 = .ok (.iload_n 1, 1) := by decide +kernel
theorem dd_Mo_begin_159 : decode bb_Mo_begin 159 = .ok (.iconst (-1), 1) := by decide +kernel
theorem dd_Mo_begin_160 : decode bb_Mo_begin 160 = .ok (.iastore, 1) := by decide +kernel
theorem dd_Mo_begin_161 : decode bb_Mo_begin 161 = .ok (.iinc 1 1, 3) := by decide +kernel
theorem dd_Mo_begin_164 : decode bb_Mo_begin 164 = .ok (.goto (-23), 3) := by decide +kernel
theorem dd_Mo_begin_167 : decode bb_Mo_begin 167 = .ok (.aload_n 0, 1) := by decide +kernel
theorem dd_Mo_begin_168 : decode bb_Mo_begin 168 = .ok (.aload_n 0, 1) := by decide +kernel
theorem dd_Mo_begin_169 : decode bb_Mo_begin 169 = .ok (.getfield 426, 3) := by decide +kernel
theorem dd_Mo_begin_172 : decode bb_Mo_begin 172 = .ok (.invokevirtual 429, 3) := by decide +kernel
theorem dd_Mo_begin_175 : decode bb_Mo_begin 175 = .ok (.aload_n 0, 1) := by decide +kernel
theorem dd_Mo_begin_176 : decode bb_Mo_begin 176 = .ok (.iconst 0, 1) := by decide +kernel
theorem dd_Mo_begin_177 : decode bb_Mo_begin 177 = .ok (.putfield 426, 3) := by decide +kernel
theorem dd_Mo_begin_180 : decode bb_Mo_begin 180 = .ok (.aload_n 0, 1) := by decide +kernel
theorem dd_Mo_begin_181 : decode bb_Mo_begin 181 = .ok (.bipush (-2), 2) := by decide +kernel
theorem dd_Mo_begin_183 : decode bb_Mo_begin 183 = .ok (.putfield 52, 3) := by decide +kernel
theorem dd_Mo_begin_186 : decode bb_Mo_begin 186 = .ok (.return_, 1) := by decide +kernel
def g_Mo_begin_110 (nf : Nat) (x0 : Nat) (x1 : Int32) (c : Zc) : Option ((Nat × Int32 × Zc) ⊕ (Nat × Zc)) :=
  if 640 ≤ x1 then (some (.inr (x0, c))) else ((zgr c x0 12 30).bind fun v31 => (zgi c x0 12 25).bind fun v32 => (zsi c v31 0 ((640 * v32) + x1) 0).bind fun c33 => some (.inl (x0, (x1 + 1), c33)))
def g_Mo_begin_141 (nf : Nat) (x0 : Nat) (x1 : Int32) (c : Zc) : Option ((Nat × Int32 × Zc) ⊕ (Nat × Zc)) :=
  if 66 ≤ x1 then (some (.inr (x0, c))) else ((zgr c x0 12 54).bind fun v35 => (zsi c v35 0 x1 (-1)).bind fun c36 => (zgr c36 x0 12 55).bind fun v37 => (zsi c36 v37 0 x1 (-1)).bind fun c38 => some (.inl (x0, (x1 + 1), c38)))
def f_Mo_begin_141 (nf : Nat) (x0 : Nat) (x1 : Int32) (c : Zc) : Option (Zc) :=
  (zlp (fun a => g_Mo_begin_141 nf a.1 a.2.1 a.2.2) nf (x0, x1, c)).bind fun b => (zgi b.2 b.1 12 13).bind fun v39 => (zob b.2 b.1 12).bind fun w41 => (f_Mo_cutTokens nf b.1 v39 b.2).bind fun q40 => (zpv q40 b.1 12 13 (.int 0)).bind fun c42 => (zpv c42 b.1 12 21 (.int (-2))).bind fun c43 => some c43
def f_Mo_begin_110 (nf : Nat) (x0 : Nat) (x1 : Int32) (c : Zc) : Option (Zc) :=
  (zlp (fun a => g_Mo_begin_110 nf a.1 a.2.1 a.2.2) nf (x0, x1, c)).bind fun b => f_Mo_begin_141 nf b.1 0 b.2
def f_Mo_begin (nf : Nat) (a0 : Nat) (c : Zc) : Option (Zc) :=
  (zgi c a0 12 24).bind fun v1 => (zpv c a0 12 25 (.int v1)).bind fun c2 => (zgr c2 a0 12 26).bind fun v3 => (zgi c2 a0 12 25).bind fun v4 => (zsi c2 v3 0 v4 0).bind fun c5 => (zgr c5 a0 12 27).bind fun v6 => (zgi c5 a0 12 25).bind fun v7 => (zsi c5 v6 0 v7 0).bind fun c8 => (zgr c8 a0 12 28).bind fun v9 => (zgi c8 a0 12 25).bind fun v10 => (zsi c8 v9 0 v10 0).bind fun c11 => (zgr c11 a0 12 31).bind fun v12 => (zgi c11 a0 12 25).bind fun v13 => (zsi c11 v12 0 v13 0).bind fun c14 => (zgr c14 a0 12 43).bind fun v15 => (zgi c14 a0 12 25).bind fun v16 => (zsi c14 v15 0 v16 0).bind fun c17 => (zgr c17 a0 12 47).bind fun v18 => (zgi c17 a0 12 25).bind fun v19 => (zsi c17 v18 0 v19 0).bind fun c20 => (zgr c20 a0 12 46).bind fun v21 => (zgi c20 a0 12 25).bind fun v22 => (zsi c20 v21 0 v22 (-1)).bind fun c23 => (zpv c23 a0 12 52 (.int 0)).bind fun c24 => (zpv c24 a0 12 57 (.int 0)).bind fun c25 => (zpv c25 a0 12 56 (.int 0)).bind fun c26 => (zpv c26 a0 12 53 (.int 0)).bind fun c27 => (zpv c27 a0 12 19 (.int 0)).bind fun c28 => (zpv c28 a0 12 18 (.int 0)).bind fun c29 => f_Mo_begin_110 nf a0 0 c29
set_option maxRecDepth 100000 in
set_option maxHeartbeats 4000000 in
theorem u_Mo_begin_110  (X : zX p s m args cd D cid B bb_Mo_begin 2 rr_Mo zT) (H : zH s meth B n0 none "begin") {nf : Nat} {x0 : Nat} {x1 : Int32} {c : Zc} {r : (Nat × Int32 × Zc) ⊕ (Nat × Zc)} (h : g_Mo_begin_110 nf x0 x1 c = some r) (k0 : ∀ a, r = .inl a → (fun a : Nat × Int32 × Zc => Zz p l e (zRm 3 72 0 0) s m args below meth cd Q D cid B 2 0 0 a.2.2 110 [(0, .ref a.1), (1, .int a.2.1)] []) a) (k1 : ∀ b, r = .inr b → (fun b : Nat × Zc => Zz p l e (zRm 3 72 0 0) s m args below meth cd Q D cid B 2 0 0 b.2 139 [(0, .ref b.1)] []) b) : Zz p l e (zRm 3 72 0 0) s m args below meth cd Q D cid B 2 0 0 c 110 [(0, .ref x0), (1, .int x1)] [] := by
  unfold g_Mo_begin_110 at h
  refine z_iload_n X dd_Mo_begin_110 rfl 1 rfl ?_
  refine z_sipush (v := 640) X dd_Mo_begin_111 (by decide) ?_
  refine z_icmp_ge (tgt := 139) X dd_Mo_begin_114 (by decide) (fun q30 => ?_) (fun q30 => ?_)
  · rw [if_pos q30] at h
    refine z_sub [0] rfl ?_
    obtain rfl := Option.some.inj h
    exact k1 _ rfl
  · rw [if_neg q30] at h
    refine z_aload_n X dd_Mo_begin_117 rfl 0 rfl ?_
    obtain ⟨v31, ev31, h⟩ := zb h
    refine z_get (j := 30) X dd_Mo_begin_118 kc_12 ki_12 (by decide) km_1551 (zgr_v ev31) ?_
    refine z_sipush (v := 640) X dd_Mo_begin_121 (by decide) ?_
    refine z_aload_n X dd_Mo_begin_124 rfl 0 rfl ?_
    obtain ⟨v32, ev32, h⟩ := zb h
    refine z_get (j := 25) X dd_Mo_begin_125 kc_12 ki_12 (by decide) km_1546 (zgi_v ev32) ?_
    refine z_imul X dd_Mo_begin_128 ?_
    refine z_iload_n X dd_Mo_begin_129 rfl 1 rfl ?_
    refine z_iadd X dd_Mo_begin_130 ?_
    refine z_iconst (v := 0) X dd_Mo_begin_131 (by decide) ?_
    obtain ⟨c33, ec33, h⟩ := zb h
    refine z_iastore X dd_Mo_begin_132 rfl ec33 ?_
    refine z_iinc (v := (x1 + 1)) (lv' := [(1, .int (x1 + 1)), (0, .ref x0)]) X dd_Mo_begin_133 1 rfl rfl (by decide) rfl ?_
    refine z_goto (tgt := 110) X dd_Mo_begin_136 (by decide) ?_
    refine z_sub [1, 0] rfl ?_
    obtain rfl := Option.some.inj h
    exact k0 _ rfl
set_option maxRecDepth 100000 in
set_option maxHeartbeats 4000000 in
theorem u_Mo_begin_141  (X : zX p s m args cd D cid B bb_Mo_begin 2 rr_Mo zT) (H : zH s meth B n0 none "begin") {nf : Nat} {x0 : Nat} {x1 : Int32} {c : Zc} {r : (Nat × Int32 × Zc) ⊕ (Nat × Zc)} (h : g_Mo_begin_141 nf x0 x1 c = some r) (k0 : ∀ a, r = .inl a → (fun a : Nat × Int32 × Zc => Zz p l e (zRm 3 72 0 0) s m args below meth cd Q D cid B 2 0 0 a.2.2 141 [(0, .ref a.1), (1, .int a.2.1)] []) a) (k1 : ∀ b, r = .inr b → (fun b : Nat × Zc => Zz p l e (zRm 3 72 0 0) s m args below meth cd Q D cid B 2 0 0 b.2 167 [(0, .ref b.1)] []) b) : Zz p l e (zRm 3 72 0 0) s m args below meth cd Q D cid B 2 0 0 c 141 [(0, .ref x0), (1, .int x1)] [] := by
  unfold g_Mo_begin_141 at h
  refine z_iload_n X dd_Mo_begin_141 rfl 1 rfl ?_
  refine z_bipush (v := 66) X dd_Mo_begin_142 (by decide) ?_
  refine z_icmp_ge (tgt := 167) X dd_Mo_begin_144 (by decide) (fun q34 => ?_) (fun q34 => ?_)
  · rw [if_pos q34] at h
    refine z_sub [0] rfl ?_
    obtain rfl := Option.some.inj h
    exact k1 _ rfl
  · rw [if_neg q34] at h
    refine z_aload_n X dd_Mo_begin_147 rfl 0 rfl ?_
    obtain ⟨v35, ev35, h⟩ := zb h
    refine z_get (j := 54) X dd_Mo_begin_148 kc_12 ki_12 (by decide) km_1575 (zgr_v ev35) ?_
    refine z_iload_n X dd_Mo_begin_151 rfl 1 rfl ?_
    refine z_iconst (v := (-1)) X dd_Mo_begin_152 (by decide) ?_
    obtain ⟨c36, ec36, h⟩ := zb h
    refine z_iastore X dd_Mo_begin_153 rfl ec36 ?_
    refine z_aload_n X dd_Mo_begin_154 rfl 0 rfl ?_
    obtain ⟨v37, ev37, h⟩ := zb h
    refine z_get (j := 55) X dd_Mo_begin_155 kc_12 ki_12 (by decide) km_1576 (zgr_v ev37) ?_
    refine z_iload_n X dd_Mo_begin_158 rfl 1 rfl ?_
    refine z_iconst (v := (-1)) X dd_Mo_begin_159 (by decide) ?_
    obtain ⟨c38, ec38, h⟩ := zb h
    refine z_iastore X dd_Mo_begin_160 rfl ec38 ?_
    refine z_iinc (v := (x1 + 1)) (lv' := [(1, .int (x1 + 1)), (0, .ref x0)]) X dd_Mo_begin_161 1 rfl rfl (by decide) rfl ?_
    refine z_goto (tgt := 141) X dd_Mo_begin_164 (by decide) ?_
    refine z_sub [1, 0] rfl ?_
    obtain rfl := Option.some.inj h
    exact k0 _ rfl
set_option maxRecDepth 100000 in
set_option maxHeartbeats 4000000 in
theorem t_Mo_begin_141  (X : zX p s m args cd D cid B bb_Mo_begin 2 rr_Mo zT) (H : zH s meth B n0 none "begin") {nf : Nat} {x0 : Nat} {x1 : Int32} {c : Zc} {res : Zc} (h : f_Mo_begin_141 nf x0 x1 c = some res) : Zz p l e (zRm 3 72 0 0) s m args below meth cd (MQ below (zQv D cid B res n0 0) args s 0 0 (fun q => B ≤ q)) D cid B 2 0 0 c 141 [(0, .ref x0), (1, .int x1)] [] := by
  unfold f_Mo_begin_141 at h
  obtain ⟨b, eb, h⟩ := zb h
  refine zlp_ok (P := fun a : Nat × Int32 × Zc => Zz p l e (zRm 3 72 0 0) s m args below meth cd _ D cid B 2 0 0 a.2.2 141 [(0, .ref a.1), (1, .int a.2.1)] []) (G := fun b : Nat × Zc => Zz p l e (zRm 3 72 0 0) s m args below meth cd _ D cid B 2 0 0 b.2 167 [(0, .ref b.1)] []) (fun a r ha k0 k1 => u_Mo_begin_141 X H ha k0 k1) nf _ b eb ?_
  refine z_aload_n X dd_Mo_begin_167 rfl 0 rfl ?_
  refine z_aload_n X dd_Mo_begin_168 rfl 0 rfl ?_
  obtain ⟨v39, ev39, h⟩ := zb h
  refine z_get (j := 13) X dd_Mo_begin_169 kc_12 ki_12 (by decide) km_1534 (zgi_v ev39) ?_
  obtain ⟨w41, ew41, h⟩ := zb h
  obtain ⟨q40, eq40, h⟩ := zb h
  refine z_callVv X [.int v39] rfl dd_Mo_begin_172 (c_Mo_cutTokens l eq40) (cwV 1 X.1.2.2.2.2 (zg_V km_1856 km_1858 km_64 km_138 km_1859) rfl rfl rfl (by decide +kernel) ⟨Nat.le_of_ble_eq_true rfl, Nat.le_of_ble_eq_true rfl⟩) (zob_s ew41) kc_12 rfl (Nat.le_of_ble_eq_true rfl) ⟨Nat.le_of_ble_eq_true rfl, Nat.le_of_ble_eq_true rfl⟩ ?_
  refine z_aload_n X dd_Mo_begin_175 rfl 0 rfl ?_
  refine z_iconst (v := 0) X dd_Mo_begin_176 (by decide) ?_
  obtain ⟨c42, ec42, h⟩ := zb h
  refine z_put (j := 13) X dd_Mo_begin_177 kc_12 ki_12 tt_Mo tk_Mo nn_Mo (by decide) km_1534 rfl (tk_Mo 13 (by decide)) rfl rfl ec42 ?_
  refine z_aload_n X dd_Mo_begin_180 rfl 0 rfl ?_
  refine z_bipush (v := (-2)) X dd_Mo_begin_181 (by decide) ?_
  obtain ⟨c43, ec43, h⟩ := zb h
  refine z_put (j := 21) X dd_Mo_begin_183 kc_12 ki_12 tt_Mo tk_Mo nn_Mo (by decide) km_1542 rfl (tk_Mo 21 (by decide)) rfl rfl ec43 ?_
  obtain rfl := Option.some.inj h
  exact z_vret X H.1 H.2.1 H.2.2.1 dd_Mo_begin_186
set_option maxRecDepth 100000 in
set_option maxHeartbeats 4000000 in
theorem t_Mo_begin_110  (X : zX p s m args cd D cid B bb_Mo_begin 2 rr_Mo zT) (H : zH s meth B n0 none "begin") {nf : Nat} {x0 : Nat} {x1 : Int32} {c : Zc} {res : Zc} (h : f_Mo_begin_110 nf x0 x1 c = some res) : Zz p l e (zRm 3 72 0 0) s m args below meth cd (MQ below (zQv D cid B res n0 0) args s 0 0 (fun q => B ≤ q)) D cid B 2 0 0 c 110 [(0, .ref x0), (1, .int x1)] [] := by
  unfold f_Mo_begin_110 at h
  obtain ⟨b, eb, h⟩ := zb h
  refine zlp_ok (P := fun a : Nat × Int32 × Zc => Zz p l e (zRm 3 72 0 0) s m args below meth cd _ D cid B 2 0 0 a.2.2 110 [(0, .ref a.1), (1, .int a.2.1)] []) (G := fun b : Nat × Zc => Zz p l e (zRm 3 72 0 0) s m args below meth cd _ D cid B 2 0 0 b.2 139 [(0, .ref b.1)] []) (fun a r ha k0 k1 => u_Mo_begin_110 X H ha k0 k1) nf _ b eb ?_
  refine z_iconst (v := 0) X dd_Mo_begin_139 (by decide) ?_
  refine z_istore_n (lv' := [(1, .int 0), (0, .ref b.1)]) X dd_Mo_begin_140 rfl (by decide) rfl ?_
  refine z_sub [1, 0] rfl ?_
  exact t_Mo_begin_141 X H h
set_option maxRecDepth 100000 in
set_option maxHeartbeats 4000000 in
theorem c_Mo_begin (l : Launch) {nf : Nat} {a0 : Nat} {c : Zc} {res : Zc} (h : f_Mo_begin nf a0 c = some res) : zM l yy_Mo_begin ww_Mo_begin 3 72 0 0 [.ref a0] c (fun D cid B => zQv D cid B res c.length 0) := by
  refine z_met (cc := bb_Mo_begin) (maxL := 2) (ret := none) (by decide +kernel) rfl (Nat.le_of_ble_eq_true rfl) ?_
  intro p e s m args below meth cd D cid B X h1 h2 h3 h4
  have X : zX p s m args cd D cid B bb_Mo_begin 2 rr_Mo zT := X
  have H : zH s meth B c.length none "begin" := ⟨h1, h2, h4, h3⟩
  unfold f_Mo_begin at h
  show Zz p l e (zRm 3 72 0 0) s m args below meth cd _ D cid B 2 0 0 c 0 [(0, .ref a0)] []
  refine z_aload_n X dd_Mo_begin_0 rfl 0 rfl ?_
  refine z_aload_n X dd_Mo_begin_1 rfl 0 rfl ?_
  obtain ⟨v1, ev1, h⟩ := zb h
  refine z_get (j := 24) X dd_Mo_begin_2 kc_12 ki_12 (by decide) km_1545 (zgi_v ev1) ?_
  obtain ⟨c2, ec2, h⟩ := zb h
  refine z_put (j := 25) X dd_Mo_begin_5 kc_12 ki_12 tt_Mo tk_Mo nn_Mo (by decide) km_1546 rfl (tk_Mo 25 (by decide)) rfl rfl ec2 ?_
  refine z_aload_n X dd_Mo_begin_8 rfl 0 rfl ?_
  obtain ⟨v3, ev3, h⟩ := zb h
  refine z_get (j := 26) X dd_Mo_begin_9 kc_12 ki_12 (by decide) km_1547 (zgr_v ev3) ?_
  refine z_aload_n X dd_Mo_begin_12 rfl 0 rfl ?_
  obtain ⟨v4, ev4, h⟩ := zb h
  refine z_get (j := 25) X dd_Mo_begin_13 kc_12 ki_12 (by decide) km_1546 (zgi_v ev4) ?_
  refine z_iconst (v := 0) X dd_Mo_begin_16 (by decide) ?_
  obtain ⟨c5, ec5, h⟩ := zb h
  refine z_iastore X dd_Mo_begin_17 rfl ec5 ?_
  refine z_aload_n X dd_Mo_begin_18 rfl 0 rfl ?_
  obtain ⟨v6, ev6, h⟩ := zb h
  refine z_get (j := 27) X dd_Mo_begin_19 kc_12 ki_12 (by decide) km_1548 (zgr_v ev6) ?_
  refine z_aload_n X dd_Mo_begin_22 rfl 0 rfl ?_
  obtain ⟨v7, ev7, h⟩ := zb h
  refine z_get (j := 25) X dd_Mo_begin_23 kc_12 ki_12 (by decide) km_1546 (zgi_v ev7) ?_
  refine z_iconst (v := 0) X dd_Mo_begin_26 (by decide) ?_
  obtain ⟨c8, ec8, h⟩ := zb h
  refine z_iastore X dd_Mo_begin_27 rfl ec8 ?_
  refine z_aload_n X dd_Mo_begin_28 rfl 0 rfl ?_
  obtain ⟨v9, ev9, h⟩ := zb h
  refine z_get (j := 28) X dd_Mo_begin_29 kc_12 ki_12 (by decide) km_1549 (zgr_v ev9) ?_
  refine z_aload_n X dd_Mo_begin_32 rfl 0 rfl ?_
  obtain ⟨v10, ev10, h⟩ := zb h
  refine z_get (j := 25) X dd_Mo_begin_33 kc_12 ki_12 (by decide) km_1546 (zgi_v ev10) ?_
  refine z_iconst (v := 0) X dd_Mo_begin_36 (by decide) ?_
  obtain ⟨c11, ec11, h⟩ := zb h
  refine z_iastore X dd_Mo_begin_37 rfl ec11 ?_
  refine z_aload_n X dd_Mo_begin_38 rfl 0 rfl ?_
  obtain ⟨v12, ev12, h⟩ := zb h
  refine z_get (j := 31) X dd_Mo_begin_39 kc_12 ki_12 (by decide) km_1552 (zgr_v ev12) ?_
  refine z_aload_n X dd_Mo_begin_42 rfl 0 rfl ?_
  obtain ⟨v13, ev13, h⟩ := zb h
  refine z_get (j := 25) X dd_Mo_begin_43 kc_12 ki_12 (by decide) km_1546 (zgi_v ev13) ?_
  refine z_iconst (v := 0) X dd_Mo_begin_46 (by decide) ?_
  obtain ⟨c14, ec14, h⟩ := zb h
  refine z_iastore X dd_Mo_begin_47 rfl ec14 ?_
  refine z_aload_n X dd_Mo_begin_48 rfl 0 rfl ?_
  obtain ⟨v15, ev15, h⟩ := zb h
  refine z_get (j := 43) X dd_Mo_begin_49 kc_12 ki_12 (by decide) km_1564 (zgr_v ev15) ?_
  refine z_aload_n X dd_Mo_begin_52 rfl 0 rfl ?_
  obtain ⟨v16, ev16, h⟩ := zb h
  refine z_get (j := 25) X dd_Mo_begin_53 kc_12 ki_12 (by decide) km_1546 (zgi_v ev16) ?_
  refine z_iconst (v := 0) X dd_Mo_begin_56 (by decide) ?_
  obtain ⟨c17, ec17, h⟩ := zb h
  refine z_iastore X dd_Mo_begin_57 rfl ec17 ?_
  refine z_aload_n X dd_Mo_begin_58 rfl 0 rfl ?_
  obtain ⟨v18, ev18, h⟩ := zb h
  refine z_get (j := 47) X dd_Mo_begin_59 kc_12 ki_12 (by decide) km_1568 (zgr_v ev18) ?_
  refine z_aload_n X dd_Mo_begin_62 rfl 0 rfl ?_
  obtain ⟨v19, ev19, h⟩ := zb h
  refine z_get (j := 25) X dd_Mo_begin_63 kc_12 ki_12 (by decide) km_1546 (zgi_v ev19) ?_
  refine z_iconst (v := 0) X dd_Mo_begin_66 (by decide) ?_
  obtain ⟨c20, ec20, h⟩ := zb h
  refine z_iastore X dd_Mo_begin_67 rfl ec20 ?_
  refine z_aload_n X dd_Mo_begin_68 rfl 0 rfl ?_
  obtain ⟨v21, ev21, h⟩ := zb h
  refine z_get (j := 46) X dd_Mo_begin_69 kc_12 ki_12 (by decide) km_1567 (zgr_v ev21) ?_
  refine z_aload_n X dd_Mo_begin_72 rfl 0 rfl ?_
  obtain ⟨v22, ev22, h⟩ := zb h
  refine z_get (j := 25) X dd_Mo_begin_73 kc_12 ki_12 (by decide) km_1546 (zgi_v ev22) ?_
  refine z_iconst (v := (-1)) X dd_Mo_begin_76 (by decide) ?_
  obtain ⟨c23, ec23, h⟩ := zb h
  refine z_iastore X dd_Mo_begin_77 rfl ec23 ?_
  refine z_aload_n X dd_Mo_begin_78 rfl 0 rfl ?_
  refine z_iconst (v := 0) X dd_Mo_begin_79 (by decide) ?_
  obtain ⟨c24, ec24, h⟩ := zb h
  refine z_put (j := 52) X dd_Mo_begin_80 kc_12 ki_12 tt_Mo tk_Mo nn_Mo (by decide) km_1573 rfl (tk_Mo 52 (by decide)) rfl rfl ec24 ?_
  refine z_aload_n X dd_Mo_begin_83 rfl 0 rfl ?_
  refine z_iconst (v := 0) X dd_Mo_begin_84 (by decide) ?_
  obtain ⟨c25, ec25, h⟩ := zb h
  refine z_put (j := 57) X dd_Mo_begin_85 kc_12 ki_12 tt_Mo tk_Mo nn_Mo (by decide) km_1578 rfl (tk_Mo 57 (by decide)) rfl rfl ec25 ?_
  refine z_aload_n X dd_Mo_begin_88 rfl 0 rfl ?_
  refine z_iconst (v := 0) X dd_Mo_begin_89 (by decide) ?_
  obtain ⟨c26, ec26, h⟩ := zb h
  refine z_put (j := 56) X dd_Mo_begin_90 kc_12 ki_12 tt_Mo tk_Mo nn_Mo (by decide) km_1577 rfl (tk_Mo 56 (by decide)) rfl rfl ec26 ?_
  refine z_aload_n X dd_Mo_begin_93 rfl 0 rfl ?_
  refine z_iconst (v := 0) X dd_Mo_begin_94 (by decide) ?_
  obtain ⟨c27, ec27, h⟩ := zb h
  refine z_put (j := 53) X dd_Mo_begin_95 kc_12 ki_12 tt_Mo tk_Mo nn_Mo (by decide) km_1574 rfl (tk_Mo 53 (by decide)) rfl rfl ec27 ?_
  refine z_aload_n X dd_Mo_begin_98 rfl 0 rfl ?_
  refine z_iconst (v := 0) X dd_Mo_begin_99 (by decide) ?_
  obtain ⟨c28, ec28, h⟩ := zb h
  refine z_put (j := 19) X dd_Mo_begin_100 kc_12 ki_12 tt_Mo tk_Mo nn_Mo (by decide) km_1540 rfl (tk_Mo 19 (by decide)) rfl rfl ec28 ?_
  refine z_aload_n X dd_Mo_begin_103 rfl 0 rfl ?_
  refine z_iconst (v := 0) X dd_Mo_begin_104 (by decide) ?_
  obtain ⟨c29, ec29, h⟩ := zb h
  refine z_put (j := 18) X dd_Mo_begin_105 kc_12 ki_12 tt_Mo tk_Mo nn_Mo (by decide) km_1539 rfl (tk_Mo 18 (by decide)) rfl rfl ec29 ?_
  refine z_iconst (v := 0) X dd_Mo_begin_108 (by decide) ?_
  refine z_istore_n (lv' := [(1, .int 0), (0, .ref a0)]) X dd_Mo_begin_109 rfl (by decide) rfl ?_
  refine z_sub [1, 0] rfl ?_
  exact t_Mo_begin_110 X H h
theorem dd_Mo_patterns_0 : decode bb_Mo_patterns 0 = .ok (.aload_n 0, 1) := by decide +kernel
theorem dd_Mo_patterns_1 : decode bb_Mo_patterns 1 = .ok (.bipush 100, 2) := by decide +kernel
theorem dd_Mo_patterns_3 : decode bb_Mo_patterns 3 = .ok (.invokevirtual 334, 3) := by decide +kernel
theorem dd_Mo_patterns_6 : decode bb_Mo_patterns 6 = .ok (.aload_n 0, 1) := by decide +kernel
theorem dd_Mo_patterns_7 : decode bb_Mo_patterns 7 = .ok (.getfield 294, 3) := by decide +kernel
theorem dd_Mo_patterns_10 : decode bb_Mo_patterns 10 = .ok (.ifCond .ne 7, 3) := by decide +kernel
theorem dd_Mo_patterns_13 : decode bb_Mo_patterns 13 = .ok (.aload_n 0, 1) := by decide +kernel
theorem dd_Mo_patterns_14 : decode bb_Mo_patterns 14 = .ok (.invokevirtual 420, 3) := by decide +kernel
theorem dd_Mo_patterns_17 : decode bb_Mo_patterns 17 = .ok (.aload_n 0, 1) := by decide +kernel
theorem dd_Mo_patterns_18 : decode bb_Mo_patterns 18 = .ok (.bipush 44, 2) := by decide +kernel
theorem dd_Mo_patterns_20 : decode bb_Mo_patterns 20 = .ok (.invokevirtual 316, 3) := by decide +kernel
theorem dd_Mo_patterns_23 : decode bb_Mo_patterns 23 = .ok (.ifCond .eq 10, 3) := by decide +kernel
theorem dd_Mo_patterns_26 : decode bb_Mo_patterns 26 = .ok (.aload_n 0, 1) := by decide +kernel
theorem dd_Mo_patterns_27 : decode bb_Mo_patterns 27 = .ok (.invokevirtual 420, 3) := by decide +kernel
theorem dd_Mo_patterns_30 : decode bb_Mo_patterns 30 = .ok (.goto (-13), 3) := by decide +kernel
theorem dd_Mo_patterns_33 : decode bb_Mo_patterns 33 = .ok (.aload_n 0, 1) := by decide +kernel
theorem dd_Mo_patterns_34 : decode bb_Mo_patterns 34 = .ok (.bipush 101, 2) := by decide +kernel
theorem dd_Mo_patterns_36 : decode bb_Mo_patterns 36 = .ok (.invokevirtual 316, 3) := by decide +kernel
theorem dd_Mo_patterns_39 : decode bb_Mo_patterns 39 = .ok (.ifCond .eq 21, 3) := by decide +kernel
theorem dd_Mo_patterns_42 : decode bb_Mo_patterns 42 = .ok (.aload_n 0, 1) := by decide +kernel
theorem dd_Mo_patterns_43 : decode bb_Mo_patterns 43 = .ok (.getfield 125, 3) := by decide +kernel
theorem dd_Mo_patterns_46 : decode bb_Mo_patterns 46 = .ok (.aload_n 0, 1) := by decide +kernel
theorem dd_Mo_patterns_47 : decode bb_Mo_patterns 47 = .ok (.getfield 331, 3) := by decide +kernel
theorem dd_Mo_patterns_50 : decode bb_Mo_patterns 50 = .ok (.aload_n 0, 1) := by decide +kernel
theorem dd_Mo_patterns_51 : decode bb_Mo_patterns 51 = .ok (.getfield 386, 3) := by decide +kernel
theorem dd_Mo_patterns_54 : decode bb_Mo_patterns 54 = .ok (.iastore, 1) := by decide +kernel
theorem dd_Mo_patterns_55 : decode bb_Mo_patterns 55 = .ok (.aload_n 0, 1) := by decide +kernel
theorem dd_Mo_patterns_56 : decode bb_Mo_patterns 56 = .ok (.iconst 0, 1) := by decide +kernel
theorem dd_Mo_patterns_57 : decode bb_Mo_patterns 57 = .ok (.invokevirtual 432, 3) := by decide +kernel
theorem dd_Mo_patterns_60 : decode bb_Mo_patterns 60 = .ok (.aload_n 0, 1) := by decide +kernel
theorem dd_Mo_patterns_61 : decode bb_Mo_patterns 61 = .ok (.bipush 102, 2) := by decide +kernel
theorem dd_Mo_patterns_63 : decode bb_Mo_patterns 63 = .ok (.invokevirtual 334, 3) := by decide +kernel
theorem dd_Mo_patterns_66 : decode bb_Mo_patterns 66 = .ok (.return_, 1) := by decide +kernel
def g_Mo_patterns_17 (nf : Nat) (x0 : Nat) (c : Zc) : Option ((Nat × Zc) ⊕ (Nat × Zc)) :=
  (zob c x0 12).bind fun w6 => (f_Mo_takes nf x0 44 c).bind fun q5 => if q5.1 = 0 then (some (.inr (x0, q5.2))) else ((zob q5.2 x0 12).bind fun w9 => (f_Mo_pattern nf x0 q5.2).bind fun q8 => some (.inl (x0, q8)))
def f_Mo_patterns_60 (nf : Nat) (x0 : Nat) (c : Zc) : Option (Zc) :=
  (zob c x0 12).bind fun w14 => (f_Mo_need nf x0 102 c).bind fun q13 => some q13
def f_Mo_patterns_17 (nf : Nat) (x0 : Nat) (c : Zc) : Option (Zc) :=
  (zlp (fun a => g_Mo_patterns_17 nf a.1 a.2) nf (x0, c)).bind fun b => (zob b.2 b.1 12).bind fun w11 => (f_Mo_takes nf b.1 101 b.2).bind fun q10 => if q10.1 = 0 then (f_Mo_patterns_60 nf b.1 q10.2) else ((zgr q10.2 b.1 12 46).bind fun v15 => (zgi q10.2 b.1 12 25).bind fun v16 => (zgi q10.2 b.1 12 52).bind fun v17 => (zsi q10.2 v15 0 v16 v17).bind fun c18 => (zob c18 b.1 12).bind fun w20 => (f_Mo_parse nf b.1 0 c18).bind fun q19 => f_Mo_patterns_60 nf b.1 q19)
def f_Mo_patterns (nf : Nat) (a0 : Nat) (c : Zc) : Option (Zc) :=
  (zob c a0 12).bind fun w2 => (f_Mo_need nf a0 100 c).bind fun q1 => (zgi q1 a0 12 19).bind fun v3 => if v3 = 0 then ((zob q1 a0 12).bind fun w22 => (f_Mo_pattern nf a0 q1).bind fun q21 => f_Mo_patterns_17 nf a0 q21) else (f_Mo_patterns_17 nf a0 q1)
set_option maxRecDepth 100000 in
set_option maxHeartbeats 4000000 in
theorem u_Mo_patterns_17  (X : zX p s m args cd D cid B bb_Mo_patterns 1 rr_Mo zT) (H : zH s meth B n0 none "patterns") {nf : Nat} {x0 : Nat} {c : Zc} {r : (Nat × Zc) ⊕ (Nat × Zc)} (h : g_Mo_patterns_17 nf x0 c = some r) (k0 : ∀ a, r = .inl a → (fun a : Nat × Zc => Zz p l e (zRm 13 288 0 0) s m args below meth cd Q D cid B 1 0 0 a.2 17 [(0, .ref a.1)] []) a) (k1 : ∀ b, r = .inr b → (fun b : Nat × Zc => Zz p l e (zRm 13 288 0 0) s m args below meth cd Q D cid B 1 0 0 b.2 33 [(0, .ref b.1)] []) b) : Zz p l e (zRm 13 288 0 0) s m args below meth cd Q D cid B 1 0 0 c 17 [(0, .ref x0)] [] := by
  unfold g_Mo_patterns_17 at h
  refine z_aload_n X dd_Mo_patterns_17 rfl 0 rfl ?_
  refine z_bipush (v := 44) X dd_Mo_patterns_18 (by decide) ?_
  obtain ⟨w6, ew6, h⟩ := zb h
  obtain ⟨q5, eq5, h⟩ := zb h
  refine z_callVi X [.int 44] rfl dd_Mo_patterns_20 (c_Mo_takes l eq5) (cwV 1 X.1.2.2.2.2 (zg_V km_1908 km_1910 km_69 km_138 km_1911) rfl rfl rfl (by decide +kernel) ⟨Nat.le_of_ble_eq_true rfl, Nat.le_of_ble_eq_true rfl⟩) (zob_s ew6) kc_12 rfl (Nat.le_of_ble_eq_true rfl) ⟨Nat.le_of_ble_eq_true rfl, Nat.le_of_ble_eq_true rfl⟩ ?_
  refine z_if_eq (tgt := 33) X dd_Mo_patterns_23 (by decide) (fun q7 => ?_) (fun q7 => ?_)
  · rw [if_pos q7] at h
    obtain rfl := Option.some.inj h
    exact k1 _ rfl
  · rw [if_neg q7] at h
    refine z_aload_n X dd_Mo_patterns_26 rfl 0 rfl ?_
    obtain ⟨w9, ew9, h⟩ := zb h
    obtain ⟨q8, eq8, h⟩ := zb h
    refine z_callVv X [] rfl dd_Mo_patterns_27 (c_Mo_pattern l eq8) (cwV 0 X.1.2.2.2.2 (zg_V km_1932 km_1934 km_75 km_138 km_1935) rfl rfl rfl (by decide +kernel) ⟨Nat.le_of_ble_eq_true rfl, Nat.le_of_ble_eq_true rfl⟩) (zob_s ew9) kc_12 rfl (Nat.le_of_ble_eq_true rfl) ⟨Nat.le_of_ble_eq_true rfl, Nat.le_of_ble_eq_true rfl⟩ ?_
    refine z_goto (tgt := 17) X dd_Mo_patterns_30 (by decide) ?_
    obtain rfl := Option.some.inj h
    exact k0 _ rfl
set_option maxRecDepth 100000 in
set_option maxHeartbeats 4000000 in
theorem t_Mo_patterns_60  (X : zX p s m args cd D cid B bb_Mo_patterns 1 rr_Mo zT) (H : zH s meth B n0 none "patterns") {nf : Nat} {x0 : Nat} {c : Zc} {res : Zc} (h : f_Mo_patterns_60 nf x0 c = some res) : Zz p l e (zRm 13 288 0 0) s m args below meth cd (MQ below (zQv D cid B res n0 0) args s 0 0 (fun q => B ≤ q)) D cid B 1 0 0 c 60 [(0, .ref x0)] [] := by
  unfold f_Mo_patterns_60 at h
  refine z_aload_n X dd_Mo_patterns_60 rfl 0 rfl ?_
  refine z_bipush (v := 102) X dd_Mo_patterns_61 (by decide) ?_
  obtain ⟨w14, ew14, h⟩ := zb h
  obtain ⟨q13, eq13, h⟩ := zb h
  refine z_callVv X [.int 102] rfl dd_Mo_patterns_63 (c_Mo_need l eq13) (cwV 1 X.1.2.2.2.2 (zg_V km_1904 km_1906 km_68 km_138 km_1907) rfl rfl rfl (by decide +kernel) ⟨Nat.le_of_ble_eq_true rfl, Nat.le_of_ble_eq_true rfl⟩) (zob_s ew14) kc_12 rfl (Nat.le_of_ble_eq_true rfl) ⟨Nat.le_of_ble_eq_true rfl, Nat.le_of_ble_eq_true rfl⟩ ?_
  obtain rfl := Option.some.inj h
  exact z_vret X H.1 H.2.1 H.2.2.1 dd_Mo_patterns_66
set_option maxRecDepth 100000 in
set_option maxHeartbeats 4000000 in
theorem t_Mo_patterns_17  (X : zX p s m args cd D cid B bb_Mo_patterns 1 rr_Mo zT) (H : zH s meth B n0 none "patterns") {nf : Nat} {x0 : Nat} {c : Zc} {res : Zc} (h : f_Mo_patterns_17 nf x0 c = some res) : Zz p l e (zRm 13 288 0 0) s m args below meth cd (MQ below (zQv D cid B res n0 0) args s 0 0 (fun q => B ≤ q)) D cid B 1 0 0 c 17 [(0, .ref x0)] [] := by
  unfold f_Mo_patterns_17 at h
  obtain ⟨b, eb, h⟩ := zb h
  refine zlp_ok (P := fun a : Nat × Zc => Zz p l e (zRm 13 288 0 0) s m args below meth cd _ D cid B 1 0 0 a.2 17 [(0, .ref a.1)] []) (G := fun b : Nat × Zc => Zz p l e (zRm 13 288 0 0) s m args below meth cd _ D cid B 1 0 0 b.2 33 [(0, .ref b.1)] []) (fun a r ha k0 k1 => u_Mo_patterns_17 X H ha k0 k1) nf _ b eb ?_
  refine z_aload_n X dd_Mo_patterns_33 rfl 0 rfl ?_
  refine z_bipush (v := 101) X dd_Mo_patterns_34 (by decide) ?_
  obtain ⟨w11, ew11, h⟩ := zb h
  obtain ⟨q10, eq10, h⟩ := zb h
  refine z_callVi X [.int 101] rfl dd_Mo_patterns_36 (c_Mo_takes l eq10) (cwV 1 X.1.2.2.2.2 (zg_V km_1908 km_1910 km_69 km_138 km_1911) rfl rfl rfl (by decide +kernel) ⟨Nat.le_of_ble_eq_true rfl, Nat.le_of_ble_eq_true rfl⟩) (zob_s ew11) kc_12 rfl (Nat.le_of_ble_eq_true rfl) ⟨Nat.le_of_ble_eq_true rfl, Nat.le_of_ble_eq_true rfl⟩ ?_
  refine z_if_eq (tgt := 60) X dd_Mo_patterns_39 (by decide) (fun q12 => ?_) (fun q12 => ?_)
  · rw [if_pos q12] at h
    exact t_Mo_patterns_60 X H h
  · rw [if_neg q12] at h
    refine z_aload_n X dd_Mo_patterns_42 rfl 0 rfl ?_
    obtain ⟨v15, ev15, h⟩ := zb h
    refine z_get (j := 46) X dd_Mo_patterns_43 kc_12 ki_12 (by decide) km_1567 (zgr_v ev15) ?_
    refine z_aload_n X dd_Mo_patterns_46 rfl 0 rfl ?_
    obtain ⟨v16, ev16, h⟩ := zb h
    refine z_get (j := 25) X dd_Mo_patterns_47 kc_12 ki_12 (by decide) km_1546 (zgi_v ev16) ?_
    refine z_aload_n X dd_Mo_patterns_50 rfl 0 rfl ?_
    obtain ⟨v17, ev17, h⟩ := zb h
    refine z_get (j := 52) X dd_Mo_patterns_51 kc_12 ki_12 (by decide) km_1573 (zgi_v ev17) ?_
    obtain ⟨c18, ec18, h⟩ := zb h
    refine z_iastore X dd_Mo_patterns_54 rfl ec18 ?_
    refine z_aload_n X dd_Mo_patterns_55 rfl 0 rfl ?_
    refine z_iconst (v := 0) X dd_Mo_patterns_56 (by decide) ?_
    obtain ⟨w20, ew20, h⟩ := zb h
    obtain ⟨q19, eq19, h⟩ := zb h
    refine z_callVv X [.int 0] rfl dd_Mo_patterns_57 (c_Mo_parse l eq19) (cwV 1 X.1.2.2.2.2 (zg_V km_1992 km_1994 km_90 km_138 km_1995) rfl rfl rfl (by decide +kernel) ⟨Nat.le_of_ble_eq_true rfl, Nat.le_of_ble_eq_true rfl⟩) (zob_s ew20) kc_12 rfl (Nat.le_of_ble_eq_true rfl) ⟨Nat.le_of_ble_eq_true rfl, Nat.le_of_ble_eq_true rfl⟩ ?_
    exact t_Mo_patterns_60 X H h
set_option maxRecDepth 100000 in
set_option maxHeartbeats 4000000 in
theorem c_Mo_patterns (l : Launch) {nf : Nat} {a0 : Nat} {c : Zc} {res : Zc} (h : f_Mo_patterns nf a0 c = some res) : zM l yy_Mo_patterns ww_Mo_patterns 13 288 0 0 [.ref a0] c (fun D cid B => zQv D cid B res c.length 0) := by
  refine z_met (cc := bb_Mo_patterns) (maxL := 1) (ret := none) (by decide +kernel) rfl (Nat.le_of_ble_eq_true rfl) ?_
  intro p e s m args below meth cd D cid B X h1 h2 h3 h4
  have X : zX p s m args cd D cid B bb_Mo_patterns 1 rr_Mo zT := X
  have H : zH s meth B c.length none "patterns" := ⟨h1, h2, h4, h3⟩
  unfold f_Mo_patterns at h
  show Zz p l e (zRm 13 288 0 0) s m args below meth cd _ D cid B 1 0 0 c 0 [(0, .ref a0)] []
  refine z_aload_n X dd_Mo_patterns_0 rfl 0 rfl ?_
  refine z_bipush (v := 100) X dd_Mo_patterns_1 (by decide) ?_
  obtain ⟨w2, ew2, h⟩ := zb h
  obtain ⟨q1, eq1, h⟩ := zb h
  refine z_callVv X [.int 100] rfl dd_Mo_patterns_3 (c_Mo_need l eq1) (cwV 1 X.1.2.2.2.2 (zg_V km_1904 km_1906 km_68 km_138 km_1907) rfl rfl rfl (by decide +kernel) ⟨Nat.le_of_ble_eq_true rfl, Nat.le_of_ble_eq_true rfl⟩) (zob_s ew2) kc_12 rfl (Nat.le_of_ble_eq_true rfl) ⟨Nat.le_of_ble_eq_true rfl, Nat.le_of_ble_eq_true rfl⟩ ?_
  refine z_aload_n X dd_Mo_patterns_6 rfl 0 rfl ?_
  obtain ⟨v3, ev3, h⟩ := zb h
  refine z_get (j := 19) X dd_Mo_patterns_7 kc_12 ki_12 (by decide) km_1540 (zgi_v ev3) ?_
  refine z_if_ne (tgt := 17) X dd_Mo_patterns_10 (by decide) (fun q4 => ?_) (fun q4 => ?_)
  · rw [if_neg q4] at h
    exact t_Mo_patterns_17 X H h
  · rw [if_pos q4] at h
    refine z_aload_n X dd_Mo_patterns_13 rfl 0 rfl ?_
    obtain ⟨w22, ew22, h⟩ := zb h
    obtain ⟨q21, eq21, h⟩ := zb h
    refine z_callVv X [] rfl dd_Mo_patterns_14 (c_Mo_pattern l eq21) (cwV 0 X.1.2.2.2.2 (zg_V km_1932 km_1934 km_75 km_138 km_1935) rfl rfl rfl (by decide +kernel) ⟨Nat.le_of_ble_eq_true rfl, Nat.le_of_ble_eq_true rfl⟩) (zob_s ew22) kc_12 rfl (Nat.le_of_ble_eq_true rfl) ⟨Nat.le_of_ble_eq_true rfl, Nat.le_of_ble_eq_true rfl⟩ ?_
    exact t_Mo_patterns_17 X H h
theorem dd_Mo_item_0 : decode bb_Mo_item 0 = .ok (.aload_n 0, 1) := by decide +kernel
theorem dd_Mo_item_1 : decode bb_Mo_item 1 = .ok (.invokevirtual 306, 3) := by decide +kernel
theorem dd_Mo_item_4 : decode bb_Mo_item 4 = .ok (.istore_n 1, 1) := by decide +kernel
theorem dd_Mo_item_5 : decode bb_Mo_item 5 = .ok (.iload_n 1, 1) := by decide +kernel
theorem dd_Mo_item_6 : decode bb_Mo_item 6 = .ok (.bipush 109, 2) := by decide +kernel
theorem dd_Mo_item_8 : decode bb_Mo_item 8 = .ok (.if_icmp .eq 49, 3) := by decide +kernel
theorem dd_Mo_item_11 : decode bb_Mo_item 11 = .ok (.iload_n 1, 1) := by decide +kernel
theorem dd_Mo_item_12 : decode bb_Mo_item 12 = .ok (.bipush 110, 2) := by decide +kernel
theorem dd_Mo_item_14 : decode bb_Mo_item 14 = .ok (.if_icmp .eq 43, 3) := by decide +kernel
theorem dd_Mo_item_17 : decode bb_Mo_item 17 = .ok (.iload_n 1, 1) := by decide +kernel
theorem dd_Mo_item_18 : decode bb_Mo_item 18 = .ok (.bipush 111, 2) := by decide +kernel
theorem dd_Mo_item_20 : decode bb_Mo_item 20 = .ok (.if_icmp .eq 37, 3) := by decide +kernel
theorem dd_Mo_item_23 : decode bb_Mo_item 23 = .ok (.iload_n 1, 1) := by decide +kernel
theorem dd_Mo_item_24 : decode bb_Mo_item 24 = .ok (.bipush 112, 2) := by decide +kernel
theorem dd_Mo_item_26 : decode bb_Mo_item 26 = .ok (.if_icmp .eq 31, 3) := by decide +kernel
theorem dd_Mo_item_29 : decode bb_Mo_item 29 = .ok (.iload_n 1, 1) := by decide +kernel
theorem dd_Mo_item_30 : decode bb_Mo_item 30 = .ok (.bipush 45, 2) := by decide +kernel
theorem dd_Mo_item_32 : decode bb_Mo_item 32 = .ok (.if_icmp .eq 25, 3) := by decide +kernel
theorem dd_Mo_item_35 : decode bb_Mo_item 35 = .ok (.iload_n 1, 1) := by decide +kernel
theorem dd_Mo_item_36 : decode bb_Mo_item 36 = .ok (.bipush 40, 2) := by decide +kernel
theorem dd_Mo_item_38 : decode bb_Mo_item 38 = .ok (.if_icmp .eq 19, 3) := by decide +kernel
theorem dd_Mo_item_41 : decode bb_Mo_item 41 = .ok (.iload_n 1, 1) := by decide +kernel
theorem dd_Mo_item_42 : decode bb_Mo_item 42 = .ok (.bipush 6, 2) := by decide +kernel
theorem dd_Mo_item_44 : decode bb_Mo_item 44 = .ok (.if_icmp .eq 13, 3) := by decide +kernel
theorem dd_Mo_item_47 : decode bb_Mo_item 47 = .ok (.iload_n 1, 1) := by decide +kernel
theorem dd_Mo_item_48 : decode bb_Mo_item 48 = .ok (.iconst 2, 1) := by decide +kernel
theorem dd_Mo_item_49 : decode bb_Mo_item 49 = .ok (.if_icmp .eq 8, 3) := by decide +kernel
theorem dd_Mo_item_52 : decode bb_Mo_item 52 = .ok (.aload_n 0, 1) := by decide +kernel
theorem dd_Mo_item_53 : decode bb_Mo_item 53 = .ok (.invokevirtual 319, 3) := by decide +kernel
theorem dd_Mo_item_56 : decode bb_Mo_item 56 = .ok (.return_, 1) := by decide +kernel
theorem dd_Mo_item_57 : decode bb_Mo_item 57 = .ok (.aload_n 0, 1) := by decide +kernel
theorem dd_Mo_item_58 : decode bb_Mo_item 58 = .ok (.invokevirtual 310, 3) := by decide +kernel
theorem dd_Mo_item_61 : decode bb_Mo_item 61 = .ok (.aload_n 0, 1) := by decide +kernel
theorem dd_Mo_item_62 : decode bb_Mo_item 62 = .ok (.getfield 116, 3) := by decide +kernel
theorem dd_Mo_item_65 : decode bb_Mo_item 65 = .ok (.aload_n 0, 1) := by decide +kernel
theorem dd_Mo_item_66 : decode bb_Mo_item 66 = .ok (.getfield 331, 3) := by decide +kernel
theorem dd_Mo_item_69 : decode bb_Mo_item 69 = .ok (.iaload, 1) := by decide +kernel
theorem dd_Mo_item_70 : decode bb_Mo_item 70 = .ok (.bipush 8, 2) := by decide +kernel
theorem dd_Mo_item_72 : decode bb_Mo_item 72 = .ok (.if_icmp .ne 18, 3) := by decide +kernel
theorem dd_Mo_item_75 : decode bb_Mo_item 75 = .ok (.aload_n 0, 1) := by decide +kernel
theorem dd_Mo_item_76 : decode bb_Mo_item 76 = .ok (.iconst 3, 1) := by decide +kernel
theorem dd_Mo_item_77 : decode bb_Mo_item 77 = .ok (.aload_n 0, 1) := by decide +kernel
theorem dd_Mo_item_78 : decode bb_Mo_item 78 = .ok (.getfield 49, 3) := by decide +kernel
theorem dd_Mo_item_81 : decode bb_Mo_item 81 = .ok (.aload_n 0, 1) := by decide +kernel
theorem dd_Mo_item_82 : decode bb_Mo_item 82 = .ok (.getfield 300, 3) := by decide +kernel
theorem dd_Mo_item_85 : decode bb_Mo_item 85 = .ok (.iaload, 1) := by decide +kernel
theorem dd_Mo_item_86 : decode bb_Mo_item 86 = .ok (.invokevirtual 303, 3) := by decide +kernel
theorem dd_Mo_item_89 : decode bb_Mo_item 89 = .ok (.return_, 1) := by decide +kernel
theorem dd_Mo_item_90 : decode bb_Mo_item 90 = .ok (.bipush 8, 2) := by decide +kernel
theorem dd_Mo_item_92 : decode bb_Mo_item 92 = .ok (.aload_n 0, 1) := by decide +kernel
theorem dd_Mo_item_93 : decode bb_Mo_item 93 = .ok (.getfield 331, 3) := by decide +kernel
theorem dd_Mo_item_96 : decode bb_Mo_item 96 = .ok (.imul, 1) := by decide +kernel
theorem dd_Mo_item_97 : decode bb_Mo_item 97 = .ok (.aload_n 0, 1) := by decide +kernel
theorem dd_Mo_item_98 : decode bb_Mo_item 98 = .ok (.getfield 116, 3) := by decide +kernel
theorem dd_Mo_item_101 : decode bb_Mo_item 101 = .ok (.aload_n 0, 1) := by decide +kernel
theorem dd_Mo_item_102 : decode bb_Mo_item 102 = .ok (.getfield 331, 3) := by decide +kernel
theorem dd_Mo_item_105 : decode bb_Mo_item 105 = .ok (.iaload, 1) := by decide +kernel
theorem dd_Mo_item_106 : decode bb_Mo_item 106 = .ok (.iadd, 1) := by decide +kernel
theorem dd_Mo_item_107 : decode bb_Mo_item 107 = .ok (.istore_n 2, 1) := by decide +kernel
theorem dd_Mo_item_108 : decode bb_Mo_item 108 = .ok (.aload_n 0, 1) := by decide +kernel
theorem dd_Mo_item_109 : decode bb_Mo_item 109 = .ok (.getfield 116, 3) := by decide +kernel
theorem dd_Mo_item_112 : decode bb_Mo_item 112 = .ok (.aload_n 0, 1) := by decide +kernel
theorem dd_Mo_item_113 : decode bb_Mo_item 113 = .ok (.getfield 331, 3) := by decide +kernel
theorem dd_Mo_item_116 : decode bb_Mo_item 116 = .ok (.dup2, 1) := by decide +kernel
theorem dd_Mo_item_117 : decode bb_Mo_item 117 = .ok (.iaload, 1) := by decide +kernel
theorem dd_Mo_item_118 : decode bb_Mo_item 118 = .ok (.iconst 1, 1) := by decide +kernel
theorem dd_Mo_item_119 : decode bb_Mo_item 119 = .ok (.iadd, 1) := by decide +kernel
theorem dd_Mo_item_120 : decode bb_Mo_item 120 = .ok (.iastore, 1) := by decide +kernel
theorem dd_Mo_item_121 : decode bb_Mo_item 121 = .ok (.aload_n 0, 1) := by decide +kernel
theorem dd_Mo_item_122 : decode bb_Mo_item 122 = .ok (.getfield 119, 3) := by decide +kernel
theorem dd_Mo_item_125 : decode bb_Mo_item 125 = .ok (.iload_n 2, 1) := by decide +kernel
theorem dd_Mo_item_126 : decode bb_Mo_item 126 = .ok (.iload_n 1, 1) := by decide +kernel
theorem dd_Mo_item_127 : decode bb_Mo_item 127 = .ok (.bipush 109, 2) := by decide +kernel
theorem dd_Mo_item_129 : decode bb_Mo_item 129 = .ok (.if_icmp .lt 13, 3) := by decide +kernel
theorem dd_Mo_item_132 : decode bb_Mo_item 132 = .ok (.iload_n 1, 1) := by decide +kernel
theorem dd_Mo_item_133 : decode bb_Mo_item 133 = .ok (.bipush 112, 2) := by decide +kernel
theorem dd_Mo_item_135 : decode bb_Mo_item 135 = .ok (.if_icmp .gt 7, 3) := by decide +kernel
theorem dd_Mo_item_138 : decode bb_Mo_item 138 = .ok (.iload_n 1, 1) := by decide +kernel
theorem dd_Mo_item_139 : decode bb_Mo_item 139 = .ok (.goto 4, 3) := by decide +kernel
theorem dd_Mo_item_142 : decode bb_Mo_item 142 = .ok (.iconst 0, 1) := by decide +kernel
theorem dd_Mo_item_143 : decode bb_Mo_item 143 = .ok (.iastore, 1) := by decide +kernel
theorem dd_Mo_item_144 : decode bb_Mo_item 144 = .ok (.aload_n 0, 1) := by decide +kernel
theorem dd_Mo_item_145 : decode bb_Mo_item 145 = .ok (.getfield 119, 3) := by decide +kernel
theorem dd_Mo_item_148 : decode bb_Mo_item 148 = .ok (.iload_n 2, 1) := by decide +kernel
theorem dd_Mo_item_149 : decode bb_Mo_item 149 = .ok (.iaload, 1) := by decide +kernel
theorem dd_Mo_item_150 : decode bb_Mo_item 150 = .ok (.ifCond .le 7, 3) := by decide +kernel
theorem dd_Mo_item_153 : decode bb_Mo_item 153 = .ok (.aload_n 0, 1) := by decide +kernel
theorem dd_Mo_item_154 : decode bb_Mo_item 154 = .ok (.invokevirtual 313, 3) := by decide +kernel
theorem dd_Mo_item_157 : decode bb_Mo_item 157 = .ok (.aload_n 0, 1) := by decide +kernel
theorem dd_Mo_item_158 : decode bb_Mo_item 158 = .ok (.getfield 122, 3) := by decide +kernel
theorem dd_Mo_item_161 : decode bb_Mo_item 161 = .ok (.iload_n 2, 1) := by decide +kernel
theorem dd_Mo_item_162 : decode bb_Mo_item 162 = .ok (.aload_n 0, 1) := by decide +kernel
theorem dd_Mo_item_163 : decode bb_Mo_item 163 = .ok (.getfield 386, 3) := by decide +kernel
theorem dd_Mo_item_166 : decode bb_Mo_item 166 = .ok (.iastore, 1) := by decide +kernel
theorem dd_Mo_item_167 : decode bb_Mo_item 167 = .ok (.aload_n 0, 1) := by decide +kernel
theorem dd_Mo_item_168 : decode bb_Mo_item 168 = .ok (.getfield 294, 3) := by decide +kernel
theorem dd_Mo_item_171 : decode bb_Mo_item 171 = .ok (.ifCond .ne 14, 3) := by decide +kernel
theorem dd_Mo_item_174 : decode bb_Mo_item 174 = .ok (.iload_n 1, 1) := by decide +kernel
theorem dd_Mo_item_175 : decode bb_Mo_item 175 = .ok (.bipush 109, 2) := by decide +kernel
theorem dd_Mo_item_177 : decode bb_Mo_item 177 = .ok (.if_icmp .eq 8, 3) := by decide +kernel
theorem dd_Mo_item_180 : decode bb_Mo_item 180 = .ok (.aload_n 0, 1) := by decide +kernel
theorem dd_Mo_item_181 : decode bb_Mo_item 181 = .ok (.iconst 3, 1) := by decide +kernel
theorem dd_Mo_item_182 : decode bb_Mo_item 182 = .ok (.invokevirtual 432, 3) := by decide +kernel
theorem dd_Mo_item_185 : decode bb_Mo_item 185 = .ok (.return_, 1) := by decide +kernel
def f_Mo_item_185 (nf : Nat)  (c : Zc) : Option (Zc) :=
  some c
def f_Mo_item_157 (nf : Nat) (x0 : Nat) (x1 : Int32) (x2 : Int32) (c : Zc) : Option (Zc) :=
  (zgr c x0 12 45).bind fun v24 => (zgi c x0 12 52).bind fun v25 => (zsi c v24 0 x2 v25).bind fun c26 => (zgi c26 x0 12 19).bind fun v27 => if v27 = 0 then (if x1 = 109 then (f_Mo_item_185 nf  c26) else ((zob c26 x0 12).bind fun w31 => (f_Mo_parse nf x0 3 c26).bind fun q30 => f_Mo_item_185 nf  q30)) else (f_Mo_item_185 nf  c26)
def f_Mo_item_143 (nf : Nat) (x0 : Nat) (x1 : Int32) (x2 : Int32) (s0 : Nat) (s1 : Int32) (s2 : Int32) (c : Zc) : Option (Zc) :=
  (zsi c s0 0 s1 s2).bind fun c20 => (zgr c20 x0 12 44).bind fun v21 => (zai c20 v21 0 x2).bind fun v22 => if v22 ≤ 0 then (f_Mo_item_157 nf x0 x1 x2 c20) else ((zob c20 x0 12).bind fun w33 => (f_Mo_pass nf x0 c20).bind fun q32 => f_Mo_item_157 nf x0 x1 x2 q32)
def f_Mo_item_142 (nf : Nat) (x0 : Nat) (x1 : Int32) (x2 : Int32) (s0 : Nat) (s1 : Int32) (c : Zc) : Option (Zc) :=
  f_Mo_item_143 nf x0 x1 x2 s0 s1 0 c
def f_Mo_item_57 (nf : Nat) (x0 : Nat) (x1 : Int32) (c : Zc) : Option (Zc) :=
  (zob c x0 12).bind fun w5 => (f_Mo_stands nf x0 c).bind fun q4 => (zgr q4 x0 12 43).bind fun v6 => (zgi q4 x0 12 25).bind fun v7 => (zai q4 v6 0 v7).bind fun v8 => if v8 = 8 then ((zgr q4 x0 12 16).bind fun v35 => (zgi q4 x0 12 18).bind fun v36 => (zai q4 v35 0 v36).bind fun v37 => (zob q4 x0 12).bind fun w39 => (f_Mo_refuse nf x0 3 v37 q4).bind fun q38 => some q38) else ((zgi q4 x0 12 25).bind fun v10 => (zgr q4 x0 12 43).bind fun v11 => (zgi q4 x0 12 25).bind fun v12 => (zai q4 v11 0 v12).bind fun v13 => (zgr q4 x0 12 43).bind fun v14 => (zgi q4 x0 12 25).bind fun v15 => (zai q4 v14 0 v15).bind fun v16 => (zsi q4 v14 0 v15 (v16 + 1)).bind fun c17 => (zgr c17 x0 12 44).bind fun v18 => if x1 < 109 then (f_Mo_item_142 nf x0 x1 ((8 * v10) + v13) v18 ((8 * v10) + v13) c17) else (if 112 < x1 then (f_Mo_item_142 nf x0 x1 ((8 * v10) + v13) v18 ((8 * v10) + v13) c17) else (f_Mo_item_143 nf x0 x1 ((8 * v10) + v13) v18 ((8 * v10) + v13) x1 c17)))
def f_Mo_item (nf : Nat) (a0 : Nat) (c : Zc) : Option (Zc) :=
  (zob c a0 12).bind fun w2 => (f_Mo_kind nf a0 c).bind fun q1 => if q1.1 = 109 then (f_Mo_item_57 nf a0 q1.1 q1.2) else (if q1.1 = 110 then (f_Mo_item_57 nf a0 q1.1 q1.2) else (if q1.1 = 111 then (f_Mo_item_57 nf a0 q1.1 q1.2) else (if q1.1 = 112 then (f_Mo_item_57 nf a0 q1.1 q1.2) else (if q1.1 = 45 then (f_Mo_item_57 nf a0 q1.1 q1.2) else (if q1.1 = 40 then (f_Mo_item_57 nf a0 q1.1 q1.2) else (if q1.1 = 6 then (f_Mo_item_57 nf a0 q1.1 q1.2) else (if q1.1 = 2 then (f_Mo_item_57 nf a0 q1.1 q1.2) else ((zob q1.2 a0 12).bind fun w48 => (f_Mo_wrong nf a0 q1.2).bind fun q47 => some q47))))))))
set_option maxRecDepth 100000 in
set_option maxHeartbeats 4000000 in
theorem t_Mo_item_185  (X : zX p s m args cd D cid B bb_Mo_item 3 rr_Mo zT) (H : zH s meth B n0 none "item") {nf : Nat}  {c : Zc} {res : Zc} (h : f_Mo_item_185 nf  c = some res) : Zz p l e (zRm 13 288 0 0) s m args below meth cd (MQ below (zQv D cid B res n0 0) args s 0 0 (fun q => B ≤ q)) D cid B 3 0 0 c 185 [] [] := by
  unfold f_Mo_item_185 at h
  obtain rfl := Option.some.inj h
  exact z_vret X H.1 H.2.1 H.2.2.1 dd_Mo_item_185
set_option maxRecDepth 100000 in
set_option maxHeartbeats 4000000 in
theorem t_Mo_item_157  (X : zX p s m args cd D cid B bb_Mo_item 3 rr_Mo zT) (H : zH s meth B n0 none "item") {nf : Nat} {x0 : Nat} {x1 : Int32} {x2 : Int32} {c : Zc} {res : Zc} (h : f_Mo_item_157 nf x0 x1 x2 c = some res) : Zz p l e (zRm 13 288 0 0) s m args below meth cd (MQ below (zQv D cid B res n0 0) args s 0 0 (fun q => B ≤ q)) D cid B 3 0 0 c 157 [(0, .ref x0), (1, .int x1), (2, .int x2)] [] := by
  unfold f_Mo_item_157 at h
  refine z_aload_n X dd_Mo_item_157 rfl 0 rfl ?_
  obtain ⟨v24, ev24, h⟩ := zb h
  refine z_get (j := 45) X dd_Mo_item_158 kc_12 ki_12 (by decide) km_1566 (zgr_v ev24) ?_
  refine z_iload_n X dd_Mo_item_161 rfl 2 rfl ?_
  refine z_aload_n X dd_Mo_item_162 rfl 0 rfl ?_
  obtain ⟨v25, ev25, h⟩ := zb h
  refine z_get (j := 52) X dd_Mo_item_163 kc_12 ki_12 (by decide) km_1573 (zgi_v ev25) ?_
  obtain ⟨c26, ec26, h⟩ := zb h
  refine z_iastore X dd_Mo_item_166 rfl ec26 ?_
  refine z_aload_n X dd_Mo_item_167 rfl 0 rfl ?_
  obtain ⟨v27, ev27, h⟩ := zb h
  refine z_get (j := 19) X dd_Mo_item_168 kc_12 ki_12 (by decide) km_1540 (zgi_v ev27) ?_
  refine z_if_ne (tgt := 185) X dd_Mo_item_171 (by decide) (fun q28 => ?_) (fun q28 => ?_)
  · rw [if_neg q28] at h
    refine z_sub [] rfl ?_
    exact t_Mo_item_185 X H h
  · rw [if_pos q28] at h
    refine z_iload_n X dd_Mo_item_174 rfl 1 rfl ?_
    refine z_bipush (v := 109) X dd_Mo_item_175 (by decide) ?_
    refine z_icmp_eq (tgt := 185) X dd_Mo_item_177 (by decide) (fun q29 => ?_) (fun q29 => ?_)
    · rw [if_pos q29] at h
      refine z_sub [] rfl ?_
      exact t_Mo_item_185 X H h
    · rw [if_neg q29] at h
      refine z_aload_n X dd_Mo_item_180 rfl 0 rfl ?_
      refine z_iconst (v := 3) X dd_Mo_item_181 (by decide) ?_
      obtain ⟨w31, ew31, h⟩ := zb h
      obtain ⟨q30, eq30, h⟩ := zb h
      refine z_callVv X [.int 3] rfl dd_Mo_item_182 (c_Mo_parse l eq30) (cwV 1 X.1.2.2.2.2 (zg_V km_1992 km_1994 km_90 km_138 km_1995) rfl rfl rfl (by decide +kernel) ⟨Nat.le_of_ble_eq_true rfl, Nat.le_of_ble_eq_true rfl⟩) (zob_s ew31) kc_12 rfl (Nat.le_of_ble_eq_true rfl) ⟨Nat.le_of_ble_eq_true rfl, Nat.le_of_ble_eq_true rfl⟩ ?_
      refine z_sub [] rfl ?_
      exact t_Mo_item_185 X H h
set_option maxRecDepth 100000 in
set_option maxHeartbeats 4000000 in
theorem t_Mo_item_143  (X : zX p s m args cd D cid B bb_Mo_item 3 rr_Mo zT) (H : zH s meth B n0 none "item") {nf : Nat} {x0 : Nat} {x1 : Int32} {x2 : Int32} {s0 : Nat} {s1 : Int32} {s2 : Int32} {c : Zc} {res : Zc} (h : f_Mo_item_143 nf x0 x1 x2 s0 s1 s2 c = some res) : Zz p l e (zRm 13 288 0 0) s m args below meth cd (MQ below (zQv D cid B res n0 0) args s 0 0 (fun q => B ≤ q)) D cid B 3 0 0 c 143 [(0, .ref x0), (1, .int x1), (2, .int x2)] [.int s2, .int s1, .ref s0] := by
  unfold f_Mo_item_143 at h
  obtain ⟨c20, ec20, h⟩ := zb h
  refine z_iastore X dd_Mo_item_143 rfl ec20 ?_
  refine z_aload_n X dd_Mo_item_144 rfl 0 rfl ?_
  obtain ⟨v21, ev21, h⟩ := zb h
  refine z_get (j := 44) X dd_Mo_item_145 kc_12 ki_12 (by decide) km_1565 (zgr_v ev21) ?_
  refine z_iload_n X dd_Mo_item_148 rfl 2 rfl ?_
  obtain ⟨v22, ev22, h⟩ := zb h
  refine z_iaload X dd_Mo_item_149 rfl ev22 ?_
  refine z_if_le (tgt := 157) X dd_Mo_item_150 (by decide) (fun q23 => ?_) (fun q23 => ?_)
  · rw [if_pos q23] at h
    exact t_Mo_item_157 X H h
  · rw [if_neg q23] at h
    refine z_aload_n X dd_Mo_item_153 rfl 0 rfl ?_
    obtain ⟨w33, ew33, h⟩ := zb h
    obtain ⟨q32, eq32, h⟩ := zb h
    refine z_callVv X [] rfl dd_Mo_item_154 (c_Mo_pass l eq32) (cwV 0 X.1.2.2.2.2 (zg_V km_1920 km_1922 km_72 km_138 km_1923) rfl rfl rfl (by decide +kernel) ⟨Nat.le_of_ble_eq_true rfl, Nat.le_of_ble_eq_true rfl⟩) (zob_s ew33) kc_12 rfl (Nat.le_of_ble_eq_true rfl) ⟨Nat.le_of_ble_eq_true rfl, Nat.le_of_ble_eq_true rfl⟩ ?_
    exact t_Mo_item_157 X H h
set_option maxRecDepth 100000 in
set_option maxHeartbeats 4000000 in
theorem t_Mo_item_142  (X : zX p s m args cd D cid B bb_Mo_item 3 rr_Mo zT) (H : zH s meth B n0 none "item") {nf : Nat} {x0 : Nat} {x1 : Int32} {x2 : Int32} {s0 : Nat} {s1 : Int32} {c : Zc} {res : Zc} (h : f_Mo_item_142 nf x0 x1 x2 s0 s1 c = some res) : Zz p l e (zRm 13 288 0 0) s m args below meth cd (MQ below (zQv D cid B res n0 0) args s 0 0 (fun q => B ≤ q)) D cid B 3 0 0 c 142 [(0, .ref x0), (1, .int x1), (2, .int x2)] [.int s1, .ref s0] := by
  unfold f_Mo_item_142 at h
  refine z_iconst (v := 0) X dd_Mo_item_142 (by decide) ?_
  exact t_Mo_item_143 X H h
set_option maxRecDepth 100000 in
set_option maxHeartbeats 4000000 in
theorem t_Mo_item_57  (X : zX p s m args cd D cid B bb_Mo_item 3 rr_Mo zT) (H : zH s meth B n0 none "item") {nf : Nat} {x0 : Nat} {x1 : Int32} {c : Zc} {res : Zc} (h : f_Mo_item_57 nf x0 x1 c = some res) : Zz p l e (zRm 13 288 0 0) s m args below meth cd (MQ below (zQv D cid B res n0 0) args s 0 0 (fun q => B ≤ q)) D cid B 3 0 0 c 57 [(0, .ref x0), (1, .int x1)] [] := by
  unfold f_Mo_item_57 at h
  refine z_aload_n X dd_Mo_item_57 rfl 0 rfl ?_
  obtain ⟨w5, ew5, h⟩ := zb h
  obtain ⟨q4, eq4, h⟩ := zb h
  refine z_callVv X [] rfl dd_Mo_item_58 (c_Mo_stands l eq4) (cwV 0 X.1.2.2.2.2 (zg_V km_1924 km_1926 km_73 km_138 km_1927) rfl rfl rfl (by decide +kernel) ⟨Nat.le_of_ble_eq_true rfl, Nat.le_of_ble_eq_true rfl⟩) (zob_s ew5) kc_12 rfl (Nat.le_of_ble_eq_true rfl) ⟨Nat.le_of_ble_eq_true rfl, Nat.le_of_ble_eq_true rfl⟩ ?_
  refine z_aload_n X dd_Mo_item_61 rfl 0 rfl ?_
  obtain ⟨v6, ev6, h⟩ := zb h
  refine z_get (j := 43) X dd_Mo_item_62 kc_12 ki_12 (by decide) km_1564 (zgr_v ev6) ?_
  refine z_aload_n X dd_Mo_item_65 rfl 0 rfl ?_
  obtain ⟨v7, ev7, h⟩ := zb h
  refine z_get (j := 25) X dd_Mo_item_66 kc_12 ki_12 (by decide) km_1546 (zgi_v ev7) ?_
  obtain ⟨v8, ev8, h⟩ := zb h
  refine z_iaload X dd_Mo_item_69 rfl ev8 ?_
  refine z_bipush (v := 8) X dd_Mo_item_70 (by decide) ?_
  refine z_icmp_ne (tgt := 90) X dd_Mo_item_72 (by decide) (fun q9 => ?_) (fun q9 => ?_)
  · rw [if_neg q9] at h
    refine z_bipush (v := 8) X dd_Mo_item_90 (by decide) ?_
    refine z_aload_n X dd_Mo_item_92 rfl 0 rfl ?_
    obtain ⟨v10, ev10, h⟩ := zb h
    refine z_get (j := 25) X dd_Mo_item_93 kc_12 ki_12 (by decide) km_1546 (zgi_v ev10) ?_
    refine z_imul X dd_Mo_item_96 ?_
    refine z_aload_n X dd_Mo_item_97 rfl 0 rfl ?_
    obtain ⟨v11, ev11, h⟩ := zb h
    refine z_get (j := 43) X dd_Mo_item_98 kc_12 ki_12 (by decide) km_1564 (zgr_v ev11) ?_
    refine z_aload_n X dd_Mo_item_101 rfl 0 rfl ?_
    obtain ⟨v12, ev12, h⟩ := zb h
    refine z_get (j := 25) X dd_Mo_item_102 kc_12 ki_12 (by decide) km_1546 (zgi_v ev12) ?_
    obtain ⟨v13, ev13, h⟩ := zb h
    refine z_iaload X dd_Mo_item_105 rfl ev13 ?_
    refine z_iadd X dd_Mo_item_106 ?_
    refine z_istore_n (lv' := [(2, .int ((8 * v10) + v13)), (0, .ref x0), (1, .int x1)]) X dd_Mo_item_107 rfl (by decide) rfl ?_
    refine z_aload_n X dd_Mo_item_108 rfl 1 rfl ?_
    obtain ⟨v14, ev14, h⟩ := zb h
    refine z_get (j := 43) X dd_Mo_item_109 kc_12 ki_12 (by decide) km_1564 (zgr_v ev14) ?_
    refine z_aload_n X dd_Mo_item_112 rfl 1 rfl ?_
    obtain ⟨v15, ev15, h⟩ := zb h
    refine z_get (j := 25) X dd_Mo_item_113 kc_12 ki_12 (by decide) km_1546 (zgi_v ev15) ?_
    refine z_dup2_11 X dd_Mo_item_116 rfl rfl ?_
    obtain ⟨v16, ev16, h⟩ := zb h
    refine z_iaload X dd_Mo_item_117 rfl ev16 ?_
    refine z_iconst (v := 1) X dd_Mo_item_118 (by decide) ?_
    refine z_iadd X dd_Mo_item_119 ?_
    obtain ⟨c17, ec17, h⟩ := zb h
    refine z_iastore X dd_Mo_item_120 rfl ec17 ?_
    refine z_aload_n X dd_Mo_item_121 rfl 1 rfl ?_
    obtain ⟨v18, ev18, h⟩ := zb h
    refine z_get (j := 44) X dd_Mo_item_122 kc_12 ki_12 (by decide) km_1565 (zgr_v ev18) ?_
    refine z_iload_n X dd_Mo_item_125 rfl 0 rfl ?_
    refine z_iload_n X dd_Mo_item_126 rfl 2 rfl ?_
    refine z_bipush (v := 109) X dd_Mo_item_127 (by decide) ?_
    refine z_icmp_lt (tgt := 142) X dd_Mo_item_129 (by decide) (fun q19 => ?_) (fun q19 => ?_)
    · rw [if_pos q19] at h
      refine z_sub [1, 2, 0] rfl ?_
      exact t_Mo_item_142 X H h
    · rw [if_neg q19] at h
      refine z_iload_n X dd_Mo_item_132 rfl 2 rfl ?_
      refine z_bipush (v := 112) X dd_Mo_item_133 (by decide) ?_
      refine z_icmp_gt (tgt := 142) X dd_Mo_item_135 (by decide) (fun q34 => ?_) (fun q34 => ?_)
      · rw [if_pos q34] at h
        refine z_sub [1, 2, 0] rfl ?_
        exact t_Mo_item_142 X H h
      · rw [if_neg q34] at h
        refine z_iload_n X dd_Mo_item_138 rfl 2 rfl ?_
        refine z_goto (tgt := 143) X dd_Mo_item_139 (by decide) ?_
        refine z_sub [1, 2, 0] rfl ?_
        exact t_Mo_item_143 X H h
  · rw [if_pos q9] at h
    refine z_aload_n X dd_Mo_item_75 rfl 0 rfl ?_
    refine z_iconst (v := 3) X dd_Mo_item_76 (by decide) ?_
    refine z_aload_n X dd_Mo_item_77 rfl 0 rfl ?_
    obtain ⟨v35, ev35, h⟩ := zb h
    refine z_get (j := 16) X dd_Mo_item_78 kc_12 ki_12 (by decide) km_1537 (zgr_v ev35) ?_
    refine z_aload_n X dd_Mo_item_81 rfl 0 rfl ?_
    obtain ⟨v36, ev36, h⟩ := zb h
    refine z_get (j := 18) X dd_Mo_item_82 kc_12 ki_12 (by decide) km_1539 (zgi_v ev36) ?_
    obtain ⟨v37, ev37, h⟩ := zb h
    refine z_iaload X dd_Mo_item_85 rfl ev37 ?_
    obtain ⟨w39, ew39, h⟩ := zb h
    obtain ⟨q38, eq38, h⟩ := zb h
    refine z_callVv X [.int 3, .int v37] rfl dd_Mo_item_86 (c_Mo_refuse l eq38) (cwV 2 X.1.2.2.2.2 (zg_V km_1916 km_1918 km_71 km_138 km_1919) rfl rfl rfl (by decide +kernel) ⟨Nat.le_of_ble_eq_true rfl, Nat.le_of_ble_eq_true rfl⟩) (zob_s ew39) kc_12 rfl (Nat.le_of_ble_eq_true rfl) ⟨Nat.le_of_ble_eq_true rfl, Nat.le_of_ble_eq_true rfl⟩ ?_
    obtain rfl := Option.some.inj h
    exact z_vret X H.1 H.2.1 H.2.2.1 dd_Mo_item_89
set_option maxRecDepth 100000 in
set_option maxHeartbeats 4000000 in
theorem c_Mo_item (l : Launch) {nf : Nat} {a0 : Nat} {c : Zc} {res : Zc} (h : f_Mo_item nf a0 c = some res) : zM l yy_Mo_item ww_Mo_item 13 288 0 0 [.ref a0] c (fun D cid B => zQv D cid B res c.length 0) := by
  refine z_met (cc := bb_Mo_item) (maxL := 3) (ret := none) (by decide +kernel) rfl (Nat.le_of_ble_eq_true rfl) ?_
  intro p e s m args below meth cd D cid B X h1 h2 h3 h4
  have X : zX p s m args cd D cid B bb_Mo_item 3 rr_Mo zT := X
  have H : zH s meth B c.length none "item" := ⟨h1, h2, h4, h3⟩
  unfold f_Mo_item at h
  show Zz p l e (zRm 13 288 0 0) s m args below meth cd _ D cid B 3 0 0 c 0 [(0, .ref a0)] []
  refine z_aload_n X dd_Mo_item_0 rfl 0 rfl ?_
  obtain ⟨w2, ew2, h⟩ := zb h
  obtain ⟨q1, eq1, h⟩ := zb h
  refine z_callVi X [] rfl dd_Mo_item_1 (c_Mo_kind l eq1) (cwV 0 X.1.2.2.2.2 (zg_V km_1912 km_1914 km_70 km_138 km_1915) rfl rfl rfl (by decide +kernel) ⟨Nat.le_of_ble_eq_true rfl, Nat.le_of_ble_eq_true rfl⟩) (zob_s ew2) kc_12 rfl (Nat.le_of_ble_eq_true rfl) ⟨Nat.le_of_ble_eq_true rfl, Nat.le_of_ble_eq_true rfl⟩ ?_
  refine z_istore_n (lv' := [(1, .int q1.1), (0, .ref a0)]) X dd_Mo_item_4 rfl (by decide) rfl ?_
  refine z_iload_n X dd_Mo_item_5 rfl 0 rfl ?_
  refine z_bipush (v := 109) X dd_Mo_item_6 (by decide) ?_
  refine z_icmp_eq (tgt := 57) X dd_Mo_item_8 (by decide) (fun q3 => ?_) (fun q3 => ?_)
  · rw [if_pos q3] at h
    refine z_sub [1, 0] rfl ?_
    exact t_Mo_item_57 X H h
  · rw [if_neg q3] at h
    refine z_iload_n X dd_Mo_item_11 rfl 0 rfl ?_
    refine z_bipush (v := 110) X dd_Mo_item_12 (by decide) ?_
    refine z_icmp_eq (tgt := 57) X dd_Mo_item_14 (by decide) (fun q40 => ?_) (fun q40 => ?_)
    · rw [if_pos q40] at h
      refine z_sub [1, 0] rfl ?_
      exact t_Mo_item_57 X H h
    · rw [if_neg q40] at h
      refine z_iload_n X dd_Mo_item_17 rfl 0 rfl ?_
      refine z_bipush (v := 111) X dd_Mo_item_18 (by decide) ?_
      refine z_icmp_eq (tgt := 57) X dd_Mo_item_20 (by decide) (fun q41 => ?_) (fun q41 => ?_)
      · rw [if_pos q41] at h
        refine z_sub [1, 0] rfl ?_
        exact t_Mo_item_57 X H h
      · rw [if_neg q41] at h
        refine z_iload_n X dd_Mo_item_23 rfl 0 rfl ?_
        refine z_bipush (v := 112) X dd_Mo_item_24 (by decide) ?_
        refine z_icmp_eq (tgt := 57) X dd_Mo_item_26 (by decide) (fun q42 => ?_) (fun q42 => ?_)
        · rw [if_pos q42] at h
          refine z_sub [1, 0] rfl ?_
          exact t_Mo_item_57 X H h
        · rw [if_neg q42] at h
          refine z_iload_n X dd_Mo_item_29 rfl 0 rfl ?_
          refine z_bipush (v := 45) X dd_Mo_item_30 (by decide) ?_
          refine z_icmp_eq (tgt := 57) X dd_Mo_item_32 (by decide) (fun q43 => ?_) (fun q43 => ?_)
          · rw [if_pos q43] at h
            refine z_sub [1, 0] rfl ?_
            exact t_Mo_item_57 X H h
          · rw [if_neg q43] at h
            refine z_iload_n X dd_Mo_item_35 rfl 0 rfl ?_
            refine z_bipush (v := 40) X dd_Mo_item_36 (by decide) ?_
            refine z_icmp_eq (tgt := 57) X dd_Mo_item_38 (by decide) (fun q44 => ?_) (fun q44 => ?_)
            · rw [if_pos q44] at h
              refine z_sub [1, 0] rfl ?_
              exact t_Mo_item_57 X H h
            · rw [if_neg q44] at h
              refine z_iload_n X dd_Mo_item_41 rfl 0 rfl ?_
              refine z_bipush (v := 6) X dd_Mo_item_42 (by decide) ?_
              refine z_icmp_eq (tgt := 57) X dd_Mo_item_44 (by decide) (fun q45 => ?_) (fun q45 => ?_)
              · rw [if_pos q45] at h
                refine z_sub [1, 0] rfl ?_
                exact t_Mo_item_57 X H h
              · rw [if_neg q45] at h
                refine z_iload_n X dd_Mo_item_47 rfl 0 rfl ?_
                refine z_iconst (v := 2) X dd_Mo_item_48 (by decide) ?_
                refine z_icmp_eq (tgt := 57) X dd_Mo_item_49 (by decide) (fun q46 => ?_) (fun q46 => ?_)
                · rw [if_pos q46] at h
                  refine z_sub [1, 0] rfl ?_
                  exact t_Mo_item_57 X H h
                · rw [if_neg q46] at h
                  refine z_aload_n X dd_Mo_item_52 rfl 1 rfl ?_
                  obtain ⟨w48, ew48, h⟩ := zb h
                  obtain ⟨q47, eq47, h⟩ := zb h
                  refine z_callVv X [] rfl dd_Mo_item_53 (c_Mo_wrong l eq47) (cwV 0 X.1.2.2.2.2 (zg_V km_1928 km_1930 km_74 km_138 km_1931) rfl rfl rfl (by decide +kernel) ⟨Nat.le_of_ble_eq_true rfl, Nat.le_of_ble_eq_true rfl⟩) (zob_s ew48) kc_12 rfl (Nat.le_of_ble_eq_true rfl) ⟨Nat.le_of_ble_eq_true rfl, Nat.le_of_ble_eq_true rfl⟩ ?_
                  obtain rfl := Option.some.inj h
                  exact z_vret X H.1 H.2.1 H.2.2.1 dd_Mo_item_56
theorem dd_Mo_ended_0 : decode bb_Mo_ended 0 = .ok (.aload_n 0, 1) := by decide +kernel
theorem dd_Mo_ended_1 : decode bb_Mo_ended 1 = .ok (.getfield 294, 3) := by decide +kernel
theorem dd_Mo_ended_4 : decode bb_Mo_ended 4 = .ok (.ifCond .ne 14, 3) := by decide +kernel
theorem dd_Mo_ended_7 : decode bb_Mo_ended 7 = .ok (.aload_n 0, 1) := by decide +kernel
theorem dd_Mo_ended_8 : decode bb_Mo_ended 8 = .ok (.invokevirtual 306, 3) := by decide +kernel
theorem dd_Mo_ended_11 : decode bb_Mo_ended 11 = .ok (.ifCond .eq 7, 3) := by decide +kernel
theorem dd_Mo_ended_14 : decode bb_Mo_ended 14 = .ok (.aload_n 0, 1) := by decide +kernel
theorem dd_Mo_ended_15 : decode bb_Mo_ended 15 = .ok (.invokevirtual 319, 3) := by decide +kernel
theorem dd_Mo_ended_18 : decode bb_Mo_ended 18 = .ok (.aload_n 0, 1) := by decide +kernel
theorem dd_Mo_ended_19 : decode bb_Mo_ended 19 = .ok (.getfield 294, 3) := by decide +kernel
theorem dd_Mo_ended_22 : decode bb_Mo_ended 22 = .ok (.ifCond .eq 19, 3) := by decide +kernel
theorem dd_Mo_ended_25 : decode bb_Mo_ended 25 = .ok (.aload_n 0, 1) := by decide +kernel
theorem dd_Mo_ended_26 : decode bb_Mo_ended 26 = .ok (.aload_n 0, 1) := by decide +kernel
theorem dd_Mo_ended_27 : decode bb_Mo_ended 27 = .ok (.getfield 297, 3) := by decide +kernel
theorem dd_Mo_ended_30 : decode bb_Mo_ended 30 = .ok (.putfield 52, 3) := by decide +kernel
theorem dd_Mo_ended_33 : decode bb_Mo_ended 33 = .ok (.bipush (-10), 2) := by decide +kernel
theorem dd_Mo_ended_35 : decode bb_Mo_ended 35 = .ok (.aload_n 0, 1) := by decide +kernel
theorem dd_Mo_ended_36 : decode bb_Mo_ended 36 = .ok (.getfield 294, 3) := by decide +kernel
theorem dd_Mo_ended_39 : decode bb_Mo_ended 39 = .ok (.isub, 1) := by decide +kernel
theorem dd_Mo_ended_40 : decode bb_Mo_ended 40 = .ok (.ireturn, 1) := by decide +kernel
theorem dd_Mo_ended_41 : decode bb_Mo_ended 41 = .ok (.iload_n 1, 1) := by decide +kernel
theorem dd_Mo_ended_42 : decode bb_Mo_ended 42 = .ok (.ireturn, 1) := by decide +kernel
def f_Mo_ended_18 (nf : Nat) (x0 : Nat) (x1 : Int32) (c : Zc) : Option (Int32 × Zc) :=
  (zgi c x0 12 19).bind fun v3 => if v3 = 0 then (some (x1, c)) else ((zgi c x0 12 20).bind fun v5 => (zpv c x0 12 21 (.int v5)).bind fun c6 => (zgi c6 x0 12 19).bind fun v7 => some (((-10) - v7), c6))
def f_Mo_ended (nf : Nat) (a0 : Nat) (a1 : Int32) (c : Zc) : Option (Int32 × Zc) :=
  (zgi c a0 12 19).bind fun v1 => if v1 = 0 then ((zob c a0 12).bind fun w9 => (f_Mo_kind nf a0 c).bind fun q8 => if q8.1 = 0 then (f_Mo_ended_18 nf a0 a1 q8.2) else ((zob q8.2 a0 12).bind fun w12 => (f_Mo_wrong nf a0 q8.2).bind fun q11 => f_Mo_ended_18 nf a0 a1 q11)) else (f_Mo_ended_18 nf a0 a1 c)
set_option maxRecDepth 100000 in
set_option maxHeartbeats 4000000 in
theorem t_Mo_ended_18  (X : zX p s m args cd D cid B bb_Mo_ended 2 rr_Mo zT) (H : zH s meth B n0 (some (.int)) "ended") {nf : Nat} {x0 : Nat} {x1 : Int32} {c : Zc} {res : Int32 × Zc} (h : f_Mo_ended_18 nf x0 x1 c = some res) : Zz p l e (zRm 3 62 0 0) s m args below meth cd (MQ below (zQi D cid B res.1 res.2 n0 0) args s 0 0 (fun q => B ≤ q)) D cid B 2 0 0 c 18 [(0, .ref x0), (1, .int x1)] [] := by
  unfold f_Mo_ended_18 at h
  refine z_aload_n X dd_Mo_ended_18 rfl 0 rfl ?_
  obtain ⟨v3, ev3, h⟩ := zb h
  refine z_get (j := 19) X dd_Mo_ended_19 kc_12 ki_12 (by decide) km_1540 (zgi_v ev3) ?_
  refine z_if_eq (tgt := 41) X dd_Mo_ended_22 (by decide) (fun q4 => ?_) (fun q4 => ?_)
  · rw [if_pos q4] at h
    refine z_iload_n X dd_Mo_ended_41 rfl 1 rfl ?_
    obtain rfl := Option.some.inj h
    exact z_iret X H.1 H.2.1 H.2.2.1 dd_Mo_ended_42
  · rw [if_neg q4] at h
    refine z_aload_n X dd_Mo_ended_25 rfl 0 rfl ?_
    refine z_aload_n X dd_Mo_ended_26 rfl 0 rfl ?_
    obtain ⟨v5, ev5, h⟩ := zb h
    refine z_get (j := 20) X dd_Mo_ended_27 kc_12 ki_12 (by decide) km_1541 (zgi_v ev5) ?_
    obtain ⟨c6, ec6, h⟩ := zb h
    refine z_put (j := 21) X dd_Mo_ended_30 kc_12 ki_12 tt_Mo tk_Mo nn_Mo (by decide) km_1542 rfl (tk_Mo 21 (by decide)) rfl rfl ec6 ?_
    refine z_bipush (v := (-10)) X dd_Mo_ended_33 (by decide) ?_
    refine z_aload_n X dd_Mo_ended_35 rfl 0 rfl ?_
    obtain ⟨v7, ev7, h⟩ := zb h
    refine z_get (j := 19) X dd_Mo_ended_36 kc_12 ki_12 (by decide) km_1540 (zgi_v ev7) ?_
    refine z_isub X dd_Mo_ended_39 ?_
    obtain rfl := Option.some.inj h
    exact z_iret X H.1 H.2.1 H.2.2.1 dd_Mo_ended_40
set_option maxRecDepth 100000 in
set_option maxHeartbeats 4000000 in
theorem c_Mo_ended (l : Launch) {nf : Nat} {a0 : Nat} {a1 : Int32} {c : Zc} {res : Int32 × Zc} (h : f_Mo_ended nf a0 a1 c = some res) : zM l yy_Mo_ended ww_Mo_ended 3 62 0 0 [.ref a0, .int a1] c (fun D cid B => zQi D cid B res.1 res.2 c.length 0) := by
  refine z_met (cc := bb_Mo_ended) (maxL := 2) (ret := (some (.int))) (by decide +kernel) rfl (Nat.le_of_ble_eq_true rfl) ?_
  intro p e s m args below meth cd D cid B X h1 h2 h3 h4
  have X : zX p s m args cd D cid B bb_Mo_ended 2 rr_Mo zT := X
  have H : zH s meth B c.length (some (.int)) "ended" := ⟨h1, h2, h4, h3⟩
  unfold f_Mo_ended at h
  show Zz p l e (zRm 3 62 0 0) s m args below meth cd _ D cid B 2 0 0 c 0 [(0, .ref a0), (1, .int a1)] []
  refine z_aload_n X dd_Mo_ended_0 rfl 0 rfl ?_
  obtain ⟨v1, ev1, h⟩ := zb h
  refine z_get (j := 19) X dd_Mo_ended_1 kc_12 ki_12 (by decide) km_1540 (zgi_v ev1) ?_
  refine z_if_ne (tgt := 18) X dd_Mo_ended_4 (by decide) (fun q2 => ?_) (fun q2 => ?_)
  · rw [if_neg q2] at h
    exact t_Mo_ended_18 X H h
  · rw [if_pos q2] at h
    refine z_aload_n X dd_Mo_ended_7 rfl 0 rfl ?_
    obtain ⟨w9, ew9, h⟩ := zb h
    obtain ⟨q8, eq8, h⟩ := zb h
    refine z_callVi X [] rfl dd_Mo_ended_8 (c_Mo_kind l eq8) (cwV 0 X.1.2.2.2.2 (zg_V km_1912 km_1914 km_70 km_138 km_1915) rfl rfl rfl (by decide +kernel) ⟨Nat.le_of_ble_eq_true rfl, Nat.le_of_ble_eq_true rfl⟩) (zob_s ew9) kc_12 rfl (Nat.le_of_ble_eq_true rfl) ⟨Nat.le_of_ble_eq_true rfl, Nat.le_of_ble_eq_true rfl⟩ ?_
    refine z_if_eq (tgt := 18) X dd_Mo_ended_11 (by decide) (fun q10 => ?_) (fun q10 => ?_)
    · rw [if_pos q10] at h
      exact t_Mo_ended_18 X H h
    · rw [if_neg q10] at h
      refine z_aload_n X dd_Mo_ended_14 rfl 0 rfl ?_
      obtain ⟨w12, ew12, h⟩ := zb h
      obtain ⟨q11, eq11, h⟩ := zb h
      refine z_callVv X [] rfl dd_Mo_ended_15 (c_Mo_wrong l eq11) (cwV 0 X.1.2.2.2.2 (zg_V km_1928 km_1930 km_74 km_138 km_1931) rfl rfl rfl (by decide +kernel) ⟨Nat.le_of_ble_eq_true rfl, Nat.le_of_ble_eq_true rfl⟩) (zob_s ew12) kc_12 rfl (Nat.le_of_ble_eq_true rfl) ⟨Nat.le_of_ble_eq_true rfl, Nat.le_of_ble_eq_true rfl⟩ ?_
      exact t_Mo_ended_18 X H h
end ZzM
