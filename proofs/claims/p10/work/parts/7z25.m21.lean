section ZzM
variable {p : Program} {l : Launch} {e : Env} {s : State} {m : MethodId} {args : Array Value} {below : List Frame} {meth : Method} {cd : Code} {Q : State → Prop} {D : va_G} {cid : Nat → ClassId} {B n0 : Nat}
theorem dd_Mo_leadsBy_0 : decode bb_Mo_leadsBy 0 = .ok (.aload_n 0, 1) := by decide +kernel
theorem dd_Mo_leadsBy_1 : decode bb_Mo_leadsBy 1 = .ok (.getfield 107, 3) := by decide +kernel
theorem dd_Mo_leadsBy_4 : decode bb_Mo_leadsBy 4 = .ok (.iload_n 1, 1) := by decide +kernel
theorem dd_Mo_leadsBy_5 : decode bb_Mo_leadsBy 5 = .ok (.iaload, 1) := by decide +kernel
theorem dd_Mo_leadsBy_6 : decode bb_Mo_leadsBy 6 = .ok (.istore 4, 2) := by decide +kernel
theorem dd_Mo_leadsBy_8 : decode bb_Mo_leadsBy 8 = .ok (.aload_n 0, 1) := by decide +kernel
theorem dd_Mo_leadsBy_9 : decode bb_Mo_leadsBy 9 = .ok (.getfield 32, 3) := by decide +kernel
theorem dd_Mo_leadsBy_12 : decode bb_Mo_leadsBy 12 = .ok (.sipush 256, 3) := by decide +kernel
theorem dd_Mo_leadsBy_15 : decode bb_Mo_leadsBy 15 = .ok (.iload 4, 2) := by decide +kernel
theorem dd_Mo_leadsBy_17 : decode bb_Mo_leadsBy 17 = .ok (.imul, 1) := by decide +kernel
theorem dd_Mo_leadsBy_18 : decode bb_Mo_leadsBy 18 = .ok (.aload_n 0, 1) := by decide +kernel
theorem dd_Mo_leadsBy_19 : decode bb_Mo_leadsBy 19 = .ok (.getfield 110, 3) := by decide +kernel
theorem dd_Mo_leadsBy_22 : decode bb_Mo_leadsBy 22 = .ok (.iload_n 1, 1) := by decide +kernel
theorem dd_Mo_leadsBy_23 : decode bb_Mo_leadsBy 23 = .ok (.baload, 1) := by decide +kernel
theorem dd_Mo_leadsBy_24 : decode bb_Mo_leadsBy 24 = .ok (.ifCond .eq 12, 3) := by decide +kernel
theorem dd_Mo_leadsBy_27 : decode bb_Mo_leadsBy 27 = .ok (.bipush 16, 2) := by decide +kernel
theorem dd_Mo_leadsBy_29 : decode bb_Mo_leadsBy 29 = .ok (.iload_n 3, 1) := by decide +kernel
theorem dd_Mo_leadsBy_30 : decode bb_Mo_leadsBy 30 = .ok (.imul, 1) := by decide +kernel
theorem dd_Mo_leadsBy_31 : decode bb_Mo_leadsBy 31 = .ok (.iload_n 2, 1) := by decide +kernel
theorem dd_Mo_leadsBy_32 : decode bb_Mo_leadsBy 32 = .ok (.iadd, 1) := by decide +kernel
theorem dd_Mo_leadsBy_33 : decode bb_Mo_leadsBy 33 = .ok (.goto 9, 3) := by decide +kernel
theorem dd_Mo_leadsBy_36 : decode bb_Mo_leadsBy 36 = .ok (.bipush 16, 2) := by decide +kernel
theorem dd_Mo_leadsBy_38 : decode bb_Mo_leadsBy 38 = .ok (.iload_n 2, 1) := by decide +kernel
theorem dd_Mo_leadsBy_39 : decode bb_Mo_leadsBy 39 = .ok (.imul, 1) := by decide +kernel
theorem dd_Mo_leadsBy_40 : decode bb_Mo_leadsBy 40 = .ok (.iload_n 3, 1) := by decide +kernel
theorem dd_Mo_leadsBy_41 : decode bb_Mo_leadsBy 41 = .ok (.iadd, 1) := by decide +kernel
theorem dd_Mo_leadsBy_42 : decode bb_Mo_leadsBy 42 = .ok (.iadd, 1) := by decide +kernel
theorem dd_Mo_leadsBy_43 : decode bb_Mo_leadsBy 43 = .ok (.iaload, 1) := by decide +kernel
theorem dd_Mo_leadsBy_44 : decode bb_Mo_leadsBy 44 = .ok (.ifCond .le 7, 3) := by decide +kernel
theorem dd_Mo_leadsBy_47 : decode bb_Mo_leadsBy 47 = .ok (.iconst 1, 1) := by decide +kernel
theorem dd_Mo_leadsBy_48 : decode bb_Mo_leadsBy 48 = .ok (.goto 4, 3) := by decide +kernel
theorem dd_Mo_leadsBy_51 : decode bb_Mo_leadsBy 51 = .ok (.iconst 0, 1) := by decide +kernel
theorem dd_Mo_leadsBy_52 : decode bb_Mo_leadsBy 52 = .ok (.ireturn, 1) := by decide +kernel
set_option maxRecDepth 100000 in
set_option maxHeartbeats 4000000 in
theorem t_Mo_leadsBy_52  (X : zX p s m args cd D cid B bb_Mo_leadsBy 5 rr_Mo zT) (H : zH s meth B n0 (some (.boolean)) "leadsBy") {nf : Nat} {s0 : Int32} {c : Zc} {res : Int32 × Zc} (h : f_Mo_leadsBy_52 nf s0 c = some res) : Zz p l e (zRm 0 0 0 0) s m args below meth cd (MQ below (zQi D cid B res.1 res.2 n0 0) args s 0 0 (fun q => B ≤ q)) D cid B 5 0 0 c 52 [] [.int s0] := by
  unfold f_Mo_leadsBy_52 at h
  obtain ⟨hz, h⟩ := zrz_s h
  obtain rfl := h
  exact z_zret X H.1 (zn_z hz) H.2.1 H.2.2.1 dd_Mo_leadsBy_52
set_option maxRecDepth 100000 in
set_option maxHeartbeats 4000000 in
theorem t_Mo_leadsBy_42  (X : zX p s m args cd D cid B bb_Mo_leadsBy 5 rr_Mo zT) (H : zH s meth B n0 (some (.boolean)) "leadsBy") {nf : Nat} {s0 : Nat} {s1 : Int32} {s2 : Int32} {c : Zc} {res : Int32 × Zc} (h : f_Mo_leadsBy_42 nf s0 s1 s2 c = some res) : Zz p l e (zRm 0 0 0 0) s m args below meth cd (MQ below (zQi D cid B res.1 res.2 n0 0) args s 0 0 (fun q => B ≤ q)) D cid B 5 0 0 c 42 [] [.int s2, .int s1, .ref s0] := by
  unfold f_Mo_leadsBy_42 at h
  refine z_iadd X dd_Mo_leadsBy_42 ?_
  obtain ⟨v7, ev7, h⟩ := zb h
  refine z_iaload X dd_Mo_leadsBy_43 rfl ev7 ?_
  refine z_if_le (tgt := 51) X dd_Mo_leadsBy_44 (by decide) (fun q8 => ?_) (fun q8 => ?_)
  · rw [if_pos q8] at h
    refine z_iconst (v := 0) X dd_Mo_leadsBy_51 (by decide) ?_
    exact t_Mo_leadsBy_52 X H h
  · rw [if_neg q8] at h
    refine z_iconst (v := 1) X dd_Mo_leadsBy_47 (by decide) ?_
    refine z_goto (tgt := 52) X dd_Mo_leadsBy_48 (by decide) ?_
    exact t_Mo_leadsBy_52 X H h
set_option maxRecDepth 100000 in
set_option maxHeartbeats 4000000 in
theorem c_Mo_leadsBy (l : Launch) {nf : Nat} {a0 : Nat} {a1 : Int32} {a2 : Int32} {a3 : Int32} {c : Zc} {res : Int32 × Zc} (h : f_Mo_leadsBy nf a0 a1 a2 a3 c = some res) : zM l yy_Mo_leadsBy ww_Mo_leadsBy 0 0 0 0 [.ref a0, .int a1, .int a2, .int a3] c (fun D cid B => zQi D cid B res.1 res.2 c.length 0) := by
  refine z_met (cc := bb_Mo_leadsBy) (maxL := 5) (ret := (some (.boolean))) (by decide +kernel) rfl (Nat.le_of_ble_eq_true rfl) ?_
  intro p e s m args below meth cd D cid B X h1 h2 h3 h4
  have X : zX p s m args cd D cid B bb_Mo_leadsBy 5 rr_Mo zT := X
  have H : zH s meth B c.length (some (.boolean)) "leadsBy" := ⟨h1, h2, h4, h3⟩
  unfold f_Mo_leadsBy at h
  show Zz p l e (zRm 0 0 0 0) s m args below meth cd _ D cid B 5 0 0 c 0 [(0, .ref a0), (1, .int a1), (2, .int a2), (3, .int a3)] []
  refine z_aload_n X dd_Mo_leadsBy_0 rfl 0 rfl ?_
  obtain ⟨v1, ev1, h⟩ := zb h
  refine z_get (j := 40) X dd_Mo_leadsBy_1 kc_12 ki_12 (by decide) km_1561 (zgr_v ev1) ?_
  refine z_iload_n X dd_Mo_leadsBy_4 rfl 1 rfl ?_
  obtain ⟨v2, ev2, h⟩ := zb h
  refine z_iaload X dd_Mo_leadsBy_5 rfl ev2 ?_
  refine z_istore (lv' := [(4, .int v2), (0, .ref a0), (1, .int a1), (2, .int a2), (3, .int a3)]) X dd_Mo_leadsBy_6 (by decide) rfl ?_
  refine z_aload_n X dd_Mo_leadsBy_8 rfl 1 rfl ?_
  obtain ⟨v3, ev3, h⟩ := zb h
  refine z_get (j := 9) X dd_Mo_leadsBy_9 kc_12 ki_12 (by decide) km_1530 (zgr_v ev3) ?_
  refine z_sipush (v := 256) X dd_Mo_leadsBy_12 (by decide) ?_
  refine z_iload X dd_Mo_leadsBy_15 0 rfl ?_
  refine z_imul X dd_Mo_leadsBy_17 ?_
  refine z_aload_n X dd_Mo_leadsBy_18 rfl 1 rfl ?_
  obtain ⟨v4, ev4, h⟩ := zb h
  refine z_get (j := 41) X dd_Mo_leadsBy_19 kc_12 ki_12 (by decide) km_1562 (zgr_v ev4) ?_
  refine z_iload_n X dd_Mo_leadsBy_22 rfl 2 rfl ?_
  obtain ⟨v5, ev5, h⟩ := zb h
  refine z_zaload X dd_Mo_leadsBy_23 rfl ev5 ?_
  refine z_if_eq (tgt := 36) X dd_Mo_leadsBy_24 (by decide) (fun q6 => ?_) (fun q6 => ?_)
  · rw [if_pos q6] at h
    refine z_bipush (v := 16) X dd_Mo_leadsBy_36 (by decide) ?_
    refine z_iload_n X dd_Mo_leadsBy_38 rfl 3 rfl ?_
    refine z_imul X dd_Mo_leadsBy_39 ?_
    refine z_iload_n X dd_Mo_leadsBy_40 rfl 4 rfl ?_
    refine z_iadd X dd_Mo_leadsBy_41 ?_
    refine z_sub [] rfl ?_
    exact t_Mo_leadsBy_42 X H h
  · rw [if_neg q6] at h
    refine z_bipush (v := 16) X dd_Mo_leadsBy_27 (by decide) ?_
    refine z_iload_n X dd_Mo_leadsBy_29 rfl 4 rfl ?_
    refine z_imul X dd_Mo_leadsBy_30 ?_
    refine z_iload_n X dd_Mo_leadsBy_31 rfl 3 rfl ?_
    refine z_iadd X dd_Mo_leadsBy_32 ?_
    refine z_goto (tgt := 42) X dd_Mo_leadsBy_33 (by decide) ?_
    refine z_sub [] rfl ?_
    exact t_Mo_leadsBy_42 X H h
theorem dd_Mo_measure_0 : decode bb_Mo_measure 0 = .ok (.sipush 256, 3) := by decide +kernel
theorem dd_Mo_measure_3 : decode bb_Mo_measure 3 = .ok (.iload_n 1, 1) := by decide +kernel
theorem dd_Mo_measure_4 : decode bb_Mo_measure 4 = .ok (.bipush 11, 2) := by decide +kernel
theorem dd_Mo_measure_6 : decode bb_Mo_measure 6 = .ok (.irem, 1) := by decide +kernel
theorem dd_Mo_measure_7 : decode bb_Mo_measure 7 = .ok (.imul, 1) := by decide +kernel
theorem dd_Mo_measure_8 : decode bb_Mo_measure 8 = .ok (.bipush 16, 2) := by decide +kernel
theorem dd_Mo_measure_10 : decode bb_Mo_measure 10 = .ok (.iload_n 2, 1) := by decide +kernel
theorem dd_Mo_measure_11 : decode bb_Mo_measure 11 = .ok (.imul, 1) := by decide +kernel
theorem dd_Mo_measure_12 : decode bb_Mo_measure 12 = .ok (.iadd, 1) := by decide +kernel
theorem dd_Mo_measure_13 : decode bb_Mo_measure 13 = .ok (.istore_n 3, 1) := by decide +kernel
theorem dd_Mo_measure_14 : decode bb_Mo_measure 14 = .ok (.iconst 0, 1) := by decide +kernel
theorem dd_Mo_measure_15 : decode bb_Mo_measure 15 = .ok (.istore 4, 2) := by decide +kernel
theorem dd_Mo_measure_17 : decode bb_Mo_measure 17 = .ok (.iload 4, 2) := by decide +kernel
theorem dd_Mo_measure_19 : decode bb_Mo_measure 19 = .ok (.bipush 16, 2) := by decide +kernel
theorem dd_Mo_measure_21 : decode bb_Mo_measure 21 = .ok (.if_icmp .ge 19, 3) := by decide +kernel
theorem dd_Mo_measure_24 : decode bb_Mo_measure 24 = .ok (.aload_n 0, 1) := by decide +kernel
theorem dd_Mo_measure_25 : decode bb_Mo_measure 25 = .ok (.getfield 179, 3) := by decide +kernel
theorem dd_Mo_measure_28 : decode bb_Mo_measure 28 = .ok (.iload_n 3, 1) := by decide +kernel
theorem dd_Mo_measure_29 : decode bb_Mo_measure 29 = .ok (.iload 4, 2) := by decide +kernel
theorem dd_Mo_measure_31 : decode bb_Mo_measure 31 = .ok (.iadd, 1) := by decide +kernel
theorem dd_Mo_measure_32 : decode bb_Mo_measure 32 = .ok (.iconst (-1), 1) := by decide +kernel
theorem dd_Mo_measure_33 : decode bb_Mo_measure 33 = .ok (.iastore, 1) := by decide +kernel
theorem dd_Mo_measure_34 : decode bb_Mo_measure 34 = .ok (.iinc 4 1, 3) := by decide +kernel
theorem dd_Mo_measure_37 : decode bb_Mo_measure 37 = .ok (.goto (-20), 3) := by decide +kernel
theorem dd_Mo_measure_40 : decode bb_Mo_measure 40 = .ok (.iconst 0, 1) := by decide +kernel
theorem dd_Mo_measure_41 : decode bb_Mo_measure 41 = .ok (.istore 4, 2) := by decide +kernel
theorem dd_Mo_measure_43 : decode bb_Mo_measure 43 = .ok (.iload 4, 2) := by decide +kernel
theorem dd_Mo_measure_45 : decode bb_Mo_measure 45 = .ok (.sipush 272, 3) := by decide +kernel
theorem dd_Mo_measure_48 : decode bb_Mo_measure 48 = .ok (.if_icmp .ge 17, 3) := by decide +kernel
theorem dd_Mo_measure_51 : decode bb_Mo_measure 51 = .ok (.aload_n 0, 1) := by decide +kernel
theorem dd_Mo_measure_52 : decode bb_Mo_measure 52 = .ok (.getfield 188, 3) := by decide +kernel
theorem dd_Mo_measure_55 : decode bb_Mo_measure 55 = .ok (.iload 4, 2) := by decide +kernel
theorem dd_Mo_measure_57 : decode bb_Mo_measure 57 = .ok (.iconst (-1), 1) := by decide +kernel
theorem dd_Mo_measure_58 : decode bb_Mo_measure 58 = .ok (.iastore, 1) := by decide +kernel
theorem dd_Mo_measure_59 : decode bb_Mo_measure 59 = .ok (.iinc 4 1, 3) := by decide +kernel
theorem dd_Mo_measure_62 : decode bb_Mo_measure 62 = .ok (.goto (-19), 3) := by decide +kernel
theorem dd_Mo_measure_65 : decode bb_Mo_measure 65 = .ok (.aload_n 0, 1) := by decide +kernel
theorem dd_Mo_measure_66 : decode bb_Mo_measure 66 = .ok (.getfield 95, 3) := by decide +kernel
theorem dd_Mo_measure_69 : decode bb_Mo_measure 69 = .ok (.iload_n 1, 1) := by decide +kernel
theorem dd_Mo_measure_70 : decode bb_Mo_measure 70 = .ok (.baload, 1) := by decide +kernel
theorem dd_Mo_measure_71 : decode bb_Mo_measure 71 = .ok (.ifCond .eq 12, 3) := by decide +kernel
theorem dd_Mo_measure_74 : decode bb_Mo_measure 74 = .ok (.aload_n 0, 1) := by decide +kernel
theorem dd_Mo_measure_75 : decode bb_Mo_measure 75 = .ok (.getfield 179, 3) := by decide +kernel
theorem dd_Mo_measure_78 : decode bb_Mo_measure 78 = .ok (.iload_n 3, 1) := by decide +kernel
theorem dd_Mo_measure_79 : decode bb_Mo_measure 79 = .ok (.iload_n 2, 1) := by decide +kernel
theorem dd_Mo_measure_80 : decode bb_Mo_measure 80 = .ok (.iadd, 1) := by decide +kernel
theorem dd_Mo_measure_81 : decode bb_Mo_measure 81 = .ok (.iconst 0, 1) := by decide +kernel
theorem dd_Mo_measure_82 : decode bb_Mo_measure 82 = .ok (.iastore, 1) := by decide +kernel
theorem dd_Mo_measure_83 : decode bb_Mo_measure 83 = .ok (.iconst 0, 1) := by decide +kernel
theorem dd_Mo_measure_84 : decode bb_Mo_measure 84 = .ok (.istore 4, 2) := by decide +kernel
theorem dd_Mo_measure_86 : decode bb_Mo_measure 86 = .ok (.iconst 1, 1) := by decide +kernel
theorem dd_Mo_measure_87 : decode bb_Mo_measure 87 = .ok (.istore 5, 2) := by decide +kernel
theorem dd_Mo_measure_89 : decode bb_Mo_measure 89 = .ok (.aload_n 0, 1) := by decide +kernel
theorem dd_Mo_measure_90 : decode bb_Mo_measure 90 = .ok (.getfield 182, 3) := by decide +kernel
theorem dd_Mo_measure_93 : decode bb_Mo_measure 93 = .ok (.iconst 0, 1) := by decide +kernel
theorem dd_Mo_measure_94 : decode bb_Mo_measure 94 = .ok (.iload_n 2, 1) := by decide +kernel
theorem dd_Mo_measure_95 : decode bb_Mo_measure 95 = .ok (.iastore, 1) := by decide +kernel
theorem dd_Mo_measure_96 : decode bb_Mo_measure 96 = .ok (.aload_n 0, 1) := by decide +kernel
theorem dd_Mo_measure_97 : decode bb_Mo_measure 97 = .ok (.getfield 185, 3) := by decide +kernel
theorem dd_Mo_measure_100 : decode bb_Mo_measure 100 = .ok (.iconst 0, 1) := by decide +kernel
theorem dd_Mo_measure_101 : decode bb_Mo_measure 101 = .ok (.bipush 16, 2) := by decide +kernel
theorem dd_Mo_measure_103 : decode bb_Mo_measure 103 = .ok (.iastore, 1) := by decide +kernel
theorem dd_Mo_measure_104 : decode bb_Mo_measure 104 = .ok (.aload_n 0, 1) := by decide +kernel
theorem dd_Mo_measure_105 : decode bb_Mo_measure 105 = .ok (.getfield 188, 3) := by decide +kernel
theorem dd_Mo_measure_108 : decode bb_Mo_measure 108 = .ok (.sipush 256, 3) := by decide +kernel
theorem dd_Mo_measure_111 : decode bb_Mo_measure 111 = .ok (.iload_n 2, 1) := by decide +kernel
theorem dd_Mo_measure_112 : decode bb_Mo_measure 112 = .ok (.iadd, 1) := by decide +kernel
theorem dd_Mo_measure_113 : decode bb_Mo_measure 113 = .ok (.iconst 0, 1) := by decide +kernel
theorem dd_Mo_measure_114 : decode bb_Mo_measure 114 = .ok (.iastore, 1) := by decide +kernel
theorem dd_Mo_measure_115 : decode bb_Mo_measure 115 = .ok (.iload 4, 2) := by decide +kernel
theorem dd_Mo_measure_117 : decode bb_Mo_measure 117 = .ok (.iload 5, 2) := by decide +kernel
theorem dd_Mo_measure_119 : decode bb_Mo_measure 119 = .ok (.if_icmp .ge 235, 3) := by decide +kernel
theorem dd_Mo_measure_122 : decode bb_Mo_measure 122 = .ok (.aload_n 0, 1) := by decide +kernel
theorem dd_Mo_measure_123 : decode bb_Mo_measure 123 = .ok (.getfield 182, 3) := by decide +kernel
theorem dd_Mo_measure_126 : decode bb_Mo_measure 126 = .ok (.iload 4, 2) := by decide +kernel
theorem dd_Mo_measure_128 : decode bb_Mo_measure 128 = .ok (.iaload, 1) := by decide +kernel
theorem dd_Mo_measure_129 : decode bb_Mo_measure 129 = .ok (.istore 6, 2) := by decide +kernel
theorem dd_Mo_measure_131 : decode bb_Mo_measure 131 = .ok (.aload_n 0, 1) := by decide +kernel
theorem dd_Mo_measure_132 : decode bb_Mo_measure 132 = .ok (.getfield 185, 3) := by decide +kernel
theorem dd_Mo_measure_135 : decode bb_Mo_measure 135 = .ok (.iload 4, 2) := by decide +kernel
theorem dd_Mo_measure_137 : decode bb_Mo_measure 137 = .ok (.iaload, 1) := by decide +kernel
theorem dd_Mo_measure_138 : decode bb_Mo_measure 138 = .ok (.istore 7, 2) := by decide +kernel
theorem dd_Mo_measure_140 : decode bb_Mo_measure 140 = .ok (.iinc 4 1, 3) := by decide +kernel
theorem dd_Mo_measure_143 : decode bb_Mo_measure 143 = .ok (.aload_n 0, 1) := by decide +kernel
theorem dd_Mo_measure_144 : decode bb_Mo_measure 144 = .ok (.getfield 188, 3) := by decide +kernel
theorem dd_Mo_measure_147 : decode bb_Mo_measure 147 = .ok (.bipush 16, 2) := by decide +kernel
theorem dd_Mo_measure_149 : decode bb_Mo_measure 149 = .ok (.iload 7, 2) := by decide +kernel
theorem dd_Mo_measure_151 : decode bb_Mo_measure 151 = .ok (.imul, 1) := by decide +kernel
theorem dd_Mo_measure_152 : decode bb_Mo_measure 152 = .ok (.iload 6, 2) := by decide +kernel
theorem dd_Mo_measure_154 : decode bb_Mo_measure 154 = .ok (.iadd, 1) := by decide +kernel
theorem dd_Mo_measure_155 : decode bb_Mo_measure 155 = .ok (.iaload, 1) := by decide +kernel
theorem dd_Mo_measure_156 : decode bb_Mo_measure 156 = .ok (.istore 8, 2) := by decide +kernel
theorem dd_Mo_measure_158 : decode bb_Mo_measure 158 = .ok (.iload 7, 2) := by decide +kernel
theorem dd_Mo_measure_160 : decode bb_Mo_measure 160 = .ok (.bipush 16, 2) := by decide +kernel
theorem dd_Mo_measure_162 : decode bb_Mo_measure 162 = .ok (.if_icmp .ne 12, 3) := by decide +kernel
theorem dd_Mo_measure_165 : decode bb_Mo_measure 165 = .ok (.aload_n 0, 1) := by decide +kernel
theorem dd_Mo_measure_166 : decode bb_Mo_measure 166 = .ok (.getfield 98, 3) := by decide +kernel
theorem dd_Mo_measure_169 : decode bb_Mo_measure 169 = .ok (.iload_n 1, 1) := by decide +kernel
theorem dd_Mo_measure_170 : decode bb_Mo_measure 170 = .ok (.iaload, 1) := by decide +kernel
theorem dd_Mo_measure_171 : decode bb_Mo_measure 171 = .ok (.goto 15, 3) := by decide +kernel
theorem dd_Mo_measure_174 : decode bb_Mo_measure 174 = .ok (.aload_n 0, 1) := by decide +kernel
theorem dd_Mo_measure_175 : decode bb_Mo_measure 175 = .ok (.getfield 113, 3) := by decide +kernel
theorem dd_Mo_measure_178 : decode bb_Mo_measure 178 = .ok (.bipush 16, 2) := by decide +kernel
theorem dd_Mo_measure_180 : decode bb_Mo_measure 180 = .ok (.iload_n 1, 1) := by decide +kernel
theorem dd_Mo_measure_181 : decode bb_Mo_measure 181 = .ok (.imul, 1) := by decide +kernel
theorem dd_Mo_measure_182 : decode bb_Mo_measure 182 = .ok (.iload 7, 2) := by decide +kernel
theorem dd_Mo_measure_184 : decode bb_Mo_measure 184 = .ok (.iadd, 1) := by decide +kernel
theorem dd_Mo_measure_185 : decode bb_Mo_measure 185 = .ok (.iaload, 1) := by decide +kernel
theorem dd_Mo_measure_186 : decode bb_Mo_measure 186 = .ok (.istore 9, 2) := by decide +kernel
theorem dd_Mo_measure_188 : decode bb_Mo_measure 188 = .ok (.iconst 0, 1) := by decide +kernel
theorem dd_Mo_measure_189 : decode bb_Mo_measure 189 = .ok (.istore 10, 2) := by decide +kernel
theorem dd_Mo_measure_191 : decode bb_Mo_measure 191 = .ok (.iload 10, 2) := by decide +kernel
theorem dd_Mo_measure_193 : decode bb_Mo_measure 193 = .ok (.aload_n 0, 1) := by decide +kernel
theorem dd_Mo_measure_194 : decode bb_Mo_measure 194 = .ok (.getfield 104, 3) := by decide +kernel
theorem dd_Mo_measure_197 : decode bb_Mo_measure 197 = .ok (.iload_n 1, 1) := by decide +kernel
theorem dd_Mo_measure_198 : decode bb_Mo_measure 198 = .ok (.iaload, 1) := by decide +kernel
theorem dd_Mo_measure_199 : decode bb_Mo_measure 199 = .ok (.if_icmp .ge 152, 3) := by decide +kernel
theorem dd_Mo_measure_202 : decode bb_Mo_measure 202 = .ok (.iconst 0, 1) := by decide +kernel
theorem dd_Mo_measure_203 : decode bb_Mo_measure 203 = .ok (.istore 11, 2) := by decide +kernel
theorem dd_Mo_measure_205 : decode bb_Mo_measure 205 = .ok (.iload 11, 2) := by decide +kernel
theorem dd_Mo_measure_207 : decode bb_Mo_measure 207 = .ok (.aload_n 0, 1) := by decide +kernel
theorem dd_Mo_measure_208 : decode bb_Mo_measure 208 = .ok (.getfield 450, 3) := by decide +kernel
theorem dd_Mo_measure_211 : decode bb_Mo_measure 211 = .ok (.if_icmp .ge 134, 3) := by decide +kernel
theorem dd_Mo_measure_214 : decode bb_Mo_measure 214 = .ok (.iload 9, 2) := by decide +kernel
theorem dd_Mo_measure_216 : decode bb_Mo_measure 216 = .ok (.iload 10, 2) := by decide +kernel
theorem dd_Mo_measure_218 : decode bb_Mo_measure 218 = .ok (.ishr, 1) := by decide +kernel
theorem dd_Mo_measure_219 : decode bb_Mo_measure 219 = .ok (.iconst 1, 1) := by decide +kernel
theorem dd_Mo_measure_220 : decode bb_Mo_measure 220 = .ok (.iand, 1) := by decide +kernel
theorem dd_Mo_measure_221 : decode bb_Mo_measure 221 = .ok (.iconst 1, 1) := by decide +kernel
theorem dd_Mo_measure_222 : decode bb_Mo_measure 222 = .ok (.if_icmp .ne 123, 3) := by decide +kernel
theorem dd_Mo_measure_225 : decode bb_Mo_measure 225 = .ok (.aload_n 0, 1) := by decide +kernel
theorem dd_Mo_measure_226 : decode bb_Mo_measure 226 = .ok (.getfield 188, 3) := by decide +kernel
theorem dd_Mo_measure_229 : decode bb_Mo_measure 229 = .ok (.bipush 16, 2) := by decide +kernel
theorem dd_Mo_measure_231 : decode bb_Mo_measure 231 = .ok (.iload 10, 2) := by decide +kernel
theorem dd_Mo_measure_233 : decode bb_Mo_measure 233 = .ok (.imul, 1) := by decide +kernel
theorem dd_Mo_measure_234 : decode bb_Mo_measure 234 = .ok (.iload 11, 2) := by decide +kernel
theorem dd_Mo_measure_236 : decode bb_Mo_measure 236 = .ok (.iadd, 1) := by decide +kernel
theorem dd_Mo_measure_237 : decode bb_Mo_measure 237 = .ok (.iaload, 1) := by decide +kernel
theorem dd_Mo_measure_238 : decode bb_Mo_measure 238 = .ok (.iconst (-1), 1) := by decide +kernel
theorem dd_Mo_measure_239 : decode bb_Mo_measure 239 = .ok (.if_icmp .ne 100, 3) := by decide +kernel
theorem dd_Mo_measure_242 : decode bb_Mo_measure 242 = .ok (.aload_n 0, 1) := by decide +kernel
theorem dd_Mo_measure_243 : decode bb_Mo_measure 243 = .ok (.bipush 16, 2) := by decide +kernel
theorem dd_Mo_measure_245 : decode bb_Mo_measure 245 = .ok (.iload_n 1, 1) := by decide +kernel
theorem dd_Mo_measure_246 : decode bb_Mo_measure 246 = .ok (.imul, 1) := by decide +kernel
theorem dd_Mo_measure_247 : decode bb_Mo_measure 247 = .ok (.iload 10, 2) := by decide +kernel
theorem dd_Mo_measure_249 : decode bb_Mo_measure 249 = .ok (.iadd, 1) := by decide +kernel
theorem dd_Mo_measure_250 : decode bb_Mo_measure 250 = .ok (.iload 6, 2) := by decide +kernel
theorem dd_Mo_measure_252 : decode bb_Mo_measure 252 = .ok (.iload 11, 2) := by decide +kernel
theorem dd_Mo_measure_254 : decode bb_Mo_measure 254 = .ok (.invokevirtual 453, 3) := by decide +kernel
theorem dd_Mo_measure_257 : decode bb_Mo_measure 257 = .ok (.ifCond .eq 82, 3) := by decide +kernel
theorem dd_Mo_measure_260 : decode bb_Mo_measure 260 = .ok (.aload_n 0, 1) := by decide +kernel
theorem dd_Mo_measure_261 : decode bb_Mo_measure 261 = .ok (.getfield 188, 3) := by decide +kernel
theorem dd_Mo_measure_264 : decode bb_Mo_measure 264 = .ok (.bipush 16, 2) := by decide +kernel
theorem dd_Mo_measure_266 : decode bb_Mo_measure 266 = .ok (.iload 10, 2) := by decide +kernel
theorem dd_Mo_measure_268 : decode bb_Mo_measure 268 = .ok (.imul, 1) := by decide +kernel
theorem dd_Mo_measure_269 : decode bb_Mo_measure 269 = .ok (.iload 11, 2) := by decide +kernel
theorem dd_Mo_measure_271 : decode bb_Mo_measure 271 = .ok (.iadd, 1) := by decide +kernel
theorem dd_Mo_measure_272 : decode bb_Mo_measure 272 = .ok (.iload 8, 2) := by decide +kernel
theorem dd_Mo_measure_274 : decode bb_Mo_measure 274 = .ok (.iconst 1, 1) := by decide +kernel
theorem dd_Mo_measure_275 : decode bb_Mo_measure 275 = .ok (.iadd, 1) := by decide +kernel
theorem dd_Mo_measure_276 : decode bb_Mo_measure 276 = .ok (.iastore, 1) := by decide +kernel
theorem dd_Mo_measure_277 : decode bb_Mo_measure 277 = .ok (.aload_n 0, 1) := by decide +kernel
theorem dd_Mo_measure_278 : decode bb_Mo_measure 278 = .ok (.getfield 182, 3) := by decide +kernel
theorem dd_Mo_measure_281 : decode bb_Mo_measure 281 = .ok (.iload 5, 2) := by decide +kernel
theorem dd_Mo_measure_283 : decode bb_Mo_measure 283 = .ok (.iload 11, 2) := by decide +kernel
theorem dd_Mo_measure_285 : decode bb_Mo_measure 285 = .ok (.iastore, 1) := by decide +kernel
theorem dd_Mo_measure_286 : decode bb_Mo_measure 286 = .ok (.aload_n 0, 1) := by decide +kernel
theorem dd_Mo_measure_287 : decode bb_Mo_measure 287 = .ok (.getfield 185, 3) := by decide +kernel
theorem dd_Mo_measure_290 : decode bb_Mo_measure 290 = .ok (.iload 5, 2) := by decide +kernel
theorem dd_Mo_measure_292 : decode bb_Mo_measure 292 = .ok (.iload 10, 2) := by decide +kernel
theorem dd_Mo_measure_294 : decode bb_Mo_measure 294 = .ok (.iastore, 1) := by decide +kernel
theorem dd_Mo_measure_295 : decode bb_Mo_measure 295 = .ok (.iinc 5 1, 3) := by decide +kernel
theorem dd_Mo_measure_298 : decode bb_Mo_measure 298 = .ok (.aload_n 0, 1) := by decide +kernel
theorem dd_Mo_measure_299 : decode bb_Mo_measure 299 = .ok (.getfield 101, 3) := by decide +kernel
theorem dd_Mo_measure_302 : decode bb_Mo_measure 302 = .ok (.iload_n 1, 1) := by decide +kernel
theorem dd_Mo_measure_303 : decode bb_Mo_measure 303 = .ok (.iaload, 1) := by decide +kernel
theorem dd_Mo_measure_304 : decode bb_Mo_measure 304 = .ok (.iload 10, 2) := by decide +kernel
theorem dd_Mo_measure_306 : decode bb_Mo_measure 306 = .ok (.ishr, 1) := by decide +kernel
theorem dd_Mo_measure_307 : decode bb_Mo_measure 307 = .ok (.iconst 1, 1) := by decide +kernel
theorem dd_Mo_measure_308 : decode bb_Mo_measure 308 = .ok (.iand, 1) := by decide +kernel
theorem dd_Mo_measure_309 : decode bb_Mo_measure 309 = .ok (.iconst 1, 1) := by decide +kernel
theorem dd_Mo_measure_310 : decode bb_Mo_measure 310 = .ok (.if_icmp .ne 29, 3) := by decide +kernel
theorem dd_Mo_measure_313 : decode bb_Mo_measure 313 = .ok (.aload_n 0, 1) := by decide +kernel
theorem dd_Mo_measure_314 : decode bb_Mo_measure 314 = .ok (.getfield 179, 3) := by decide +kernel
theorem dd_Mo_measure_317 : decode bb_Mo_measure 317 = .ok (.iload_n 3, 1) := by decide +kernel
theorem dd_Mo_measure_318 : decode bb_Mo_measure 318 = .ok (.iload 11, 2) := by decide +kernel
theorem dd_Mo_measure_320 : decode bb_Mo_measure 320 = .ok (.iadd, 1) := by decide +kernel
theorem dd_Mo_measure_321 : decode bb_Mo_measure 321 = .ok (.iaload, 1) := by decide +kernel
theorem dd_Mo_measure_322 : decode bb_Mo_measure 322 = .ok (.iconst (-1), 1) := by decide +kernel
theorem dd_Mo_measure_323 : decode bb_Mo_measure 323 = .ok (.if_icmp .ne 16, 3) := by decide +kernel
theorem dd_Mo_measure_326 : decode bb_Mo_measure 326 = .ok (.aload_n 0, 1) := by decide +kernel
theorem dd_Mo_measure_327 : decode bb_Mo_measure 327 = .ok (.getfield 179, 3) := by decide +kernel
theorem dd_Mo_measure_330 : decode bb_Mo_measure 330 = .ok (.iload_n 3, 1) := by decide +kernel
theorem dd_Mo_measure_331 : decode bb_Mo_measure 331 = .ok (.iload 11, 2) := by decide +kernel
theorem dd_Mo_measure_333 : decode bb_Mo_measure 333 = .ok (.iadd, 1) := by decide +kernel
theorem dd_Mo_measure_334 : decode bb_Mo_measure 334 = .ok (.iload 8, 2) := by decide +kernel
theorem dd_Mo_measure_336 : decode bb_Mo_measure 336 = .ok (.iconst 1, 1) := by decide +kernel
theorem dd_Mo_measure_337 : decode bb_Mo_measure 337 = .ok (.iadd, 1) := by decide +kernel
theorem dd_Mo_measure_338 : decode bb_Mo_measure 338 = .ok (.iastore, 1) := by decide +kernel
theorem dd_Mo_measure_339 : decode bb_Mo_measure 339 = .ok (.iinc 11 1, 3) := by decide +kernel
theorem dd_Mo_measure_342 : decode bb_Mo_measure 342 = .ok (.goto (-137), 3) := by decide +kernel
theorem dd_Mo_measure_345 : decode bb_Mo_measure 345 = .ok (.iinc 10 1, 3) := by decide +kernel
theorem dd_Mo_measure_348 : decode bb_Mo_measure 348 = .ok (.goto (-157), 3) := by decide +kernel
theorem dd_Mo_measure_351 : decode bb_Mo_measure 351 = .ok (.goto (-236), 3) := by decide +kernel
theorem dd_Mo_measure_354 : decode bb_Mo_measure 354 = .ok (.return_, 1) := by decide +kernel
set_option maxRecDepth 100000 in
set_option maxHeartbeats 4000000 in
theorem u_Mo_measure_17  (X : zX p s m args cd D cid B bb_Mo_measure 12 rr_Mo zT) (H : zH s meth B n0 none "measure") {nf : Nat} {x0 : Nat} {x1 : Int32} {x2 : Int32} {x3 : Int32} {x4 : Int32} {c : Zc} {r : (Nat × Int32 × Int32 × Int32 × Int32 × Zc) ⊕ (Nat × Int32 × Int32 × Int32 × Zc)} (h : g_Mo_measure_17 nf x0 x1 x2 x3 x4 c = some r) (k0 : ∀ a, r = .inl a → (fun a : Nat × Int32 × Int32 × Int32 × Int32 × Zc => Zz p l e (zRm 1 24 0 0) s m args below meth cd Q D cid B 12 0 0 a.2.2.2.2.2 17 [(0, .ref a.1), (1, .int a.2.1), (2, .int a.2.2.1), (3, .int a.2.2.2.1), (4, .int a.2.2.2.2.1)] []) a) (k1 : ∀ b, r = .inr b → (fun b : Nat × Int32 × Int32 × Int32 × Zc => Zz p l e (zRm 1 24 0 0) s m args below meth cd Q D cid B 12 0 0 b.2.2.2.2 40 [(0, .ref b.1), (1, .int b.2.1), (2, .int b.2.2.1), (3, .int b.2.2.2.1)] []) b) : Zz p l e (zRm 1 24 0 0) s m args below meth cd Q D cid B 12 0 0 c 17 [(0, .ref x0), (1, .int x1), (2, .int x2), (3, .int x3), (4, .int x4)] [] := by
  unfold g_Mo_measure_17 at h
  refine z_iload X dd_Mo_measure_17 4 rfl ?_
  refine z_bipush (v := 16) X dd_Mo_measure_19 (by decide) ?_
  refine z_icmp_ge (tgt := 40) X dd_Mo_measure_21 (by decide) (fun q2 => ?_) (fun q2 => ?_)
  · rw [if_pos q2] at h
    refine z_sub [0, 1, 2, 3] rfl ?_
    obtain rfl := Option.some.inj h
    exact k1 _ rfl
  · rw [if_neg q2] at h
    refine z_aload_n X dd_Mo_measure_24 rfl 0 rfl ?_
    obtain ⟨v3, ev3, h⟩ := zb h
    refine z_get (j := 70) X dd_Mo_measure_25 kc_12 ki_12 (by decide) km_1591 (zgr_v ev3) ?_
    refine z_iload_n X dd_Mo_measure_28 rfl 3 rfl ?_
    refine z_iload X dd_Mo_measure_29 4 rfl ?_
    refine z_iadd X dd_Mo_measure_31 ?_
    refine z_iconst (v := (-1)) X dd_Mo_measure_32 (by decide) ?_
    obtain ⟨c4, ec4, h⟩ := zb h
    refine z_iastore X dd_Mo_measure_33 rfl ec4 ?_
    refine z_iinc (v := (x4 + 1)) (lv' := [(4, .int (x4 + 1)), (0, .ref x0), (1, .int x1), (2, .int x2), (3, .int x3)]) X dd_Mo_measure_34 4 rfl rfl (by decide) rfl ?_
    refine z_goto (tgt := 17) X dd_Mo_measure_37 (by decide) ?_
    refine z_sub [1, 2, 3, 4, 0] rfl ?_
    obtain rfl := Option.some.inj h
    exact k0 _ rfl
set_option maxRecDepth 100000 in
set_option maxHeartbeats 4000000 in
theorem u_Mo_measure_43  (X : zX p s m args cd D cid B bb_Mo_measure 12 rr_Mo zT) (H : zH s meth B n0 none "measure") {nf : Nat} {x0 : Nat} {x1 : Int32} {x2 : Int32} {x3 : Int32} {x4 : Int32} {c : Zc} {r : (Nat × Int32 × Int32 × Int32 × Int32 × Zc) ⊕ (Nat × Int32 × Int32 × Int32 × Zc)} (h : g_Mo_measure_43 nf x0 x1 x2 x3 x4 c = some r) (k0 : ∀ a, r = .inl a → (fun a : Nat × Int32 × Int32 × Int32 × Int32 × Zc => Zz p l e (zRm 1 24 0 0) s m args below meth cd Q D cid B 12 0 0 a.2.2.2.2.2 43 [(0, .ref a.1), (1, .int a.2.1), (2, .int a.2.2.1), (3, .int a.2.2.2.1), (4, .int a.2.2.2.2.1)] []) a) (k1 : ∀ b, r = .inr b → (fun b : Nat × Int32 × Int32 × Int32 × Zc => Zz p l e (zRm 1 24 0 0) s m args below meth cd Q D cid B 12 0 0 b.2.2.2.2 65 [(0, .ref b.1), (1, .int b.2.1), (2, .int b.2.2.1), (3, .int b.2.2.2.1)] []) b) : Zz p l e (zRm 1 24 0 0) s m args below meth cd Q D cid B 12 0 0 c 43 [(0, .ref x0), (1, .int x1), (2, .int x2), (3, .int x3), (4, .int x4)] [] := by
  unfold g_Mo_measure_43 at h
  refine z_iload X dd_Mo_measure_43 4 rfl ?_
  refine z_sipush (v := 272) X dd_Mo_measure_45 (by decide) ?_
  refine z_icmp_ge (tgt := 65) X dd_Mo_measure_48 (by decide) (fun q5 => ?_) (fun q5 => ?_)
  · rw [if_pos q5] at h
    refine z_sub [0, 1, 2, 3] rfl ?_
    obtain rfl := Option.some.inj h
    exact k1 _ rfl
  · rw [if_neg q5] at h
    refine z_aload_n X dd_Mo_measure_51 rfl 0 rfl ?_
    obtain ⟨v6, ev6, h⟩ := zb h
    refine z_get (j := 73) X dd_Mo_measure_52 kc_12 ki_12 (by decide) km_1594 (zgr_v ev6) ?_
    refine z_iload X dd_Mo_measure_55 4 rfl ?_
    refine z_iconst (v := (-1)) X dd_Mo_measure_57 (by decide) ?_
    obtain ⟨c7, ec7, h⟩ := zb h
    refine z_iastore X dd_Mo_measure_58 rfl ec7 ?_
    refine z_iinc (v := (x4 + 1)) (lv' := [(4, .int (x4 + 1)), (0, .ref x0), (1, .int x1), (2, .int x2), (3, .int x3)]) X dd_Mo_measure_59 4 rfl rfl (by decide) rfl ?_
    refine z_goto (tgt := 43) X dd_Mo_measure_62 (by decide) ?_
    refine z_sub [1, 2, 3, 4, 0] rfl ?_
    obtain rfl := Option.some.inj h
    exact k0 _ rfl
set_option maxRecDepth 100000 in
set_option maxHeartbeats 4000000 in
theorem t_Mo_measure_339  (X : zX p s m args cd D cid B bb_Mo_measure 12 rr_Mo zT) (H : zH s meth B n0 none "measure") {nf : Nat} {x0 : Nat} {x1 : Int32} {x3 : Int32} {x4 : Int32} {x5 : Int32} {x6 : Int32} {x8 : Int32} {x9 : Int32} {x10 : Int32} {x11 : Int32} {c : Zc} {r : (Nat × Int32 × Int32 × Int32 × Int32 × Int32 × Int32 × Int32 × Int32 × Int32 × Zc) ⊕ (Nat × Int32 × Int32 × Int32 × Int32 × Int32 × Int32 × Int32 × Int32 × Zc)} (h : f_Mo_measure_339 nf x0 x1 x3 x4 x5 x6 x8 x9 x10 x11 c = some r) (k0 : ∀ a, r = .inl a → (fun a : Nat × Int32 × Int32 × Int32 × Int32 × Int32 × Int32 × Int32 × Int32 × Int32 × Zc => Zz p l e (zRm 1 24 0 0) s m args below meth cd Q D cid B 12 0 0 a.2.2.2.2.2.2.2.2.2.2 205 [(0, .ref a.1), (1, .int a.2.1), (3, .int a.2.2.1), (4, .int a.2.2.2.1), (5, .int a.2.2.2.2.1), (6, .int a.2.2.2.2.2.1), (8, .int a.2.2.2.2.2.2.1), (9, .int a.2.2.2.2.2.2.2.1), (10, .int a.2.2.2.2.2.2.2.2.1), (11, .int a.2.2.2.2.2.2.2.2.2.1)] []) a) (k1 : ∀ b, r = .inr b → (fun b : Nat × Int32 × Int32 × Int32 × Int32 × Int32 × Int32 × Int32 × Int32 × Zc => Zz p l e (zRm 1 24 0 0) s m args below meth cd Q D cid B 12 0 0 b.2.2.2.2.2.2.2.2.2 345 [(0, .ref b.1), (1, .int b.2.1), (3, .int b.2.2.1), (4, .int b.2.2.2.1), (5, .int b.2.2.2.2.1), (6, .int b.2.2.2.2.2.1), (8, .int b.2.2.2.2.2.2.1), (9, .int b.2.2.2.2.2.2.2.1), (10, .int b.2.2.2.2.2.2.2.2.1)] []) b) : Zz p l e (zRm 1 24 0 0) s m args below meth cd Q D cid B 12 0 0 c 339 [(0, .ref x0), (1, .int x1), (3, .int x3), (4, .int x4), (5, .int x5), (6, .int x6), (8, .int x8), (9, .int x9), (10, .int x10), (11, .int x11)] [] := by
  unfold f_Mo_measure_339 at h
  refine z_iinc (v := (x11 + 1)) (lv' := [(11, .int (x11 + 1)), (0, .ref x0), (1, .int x1), (3, .int x3), (4, .int x4), (5, .int x5), (6, .int x6), (8, .int x8), (9, .int x9), (10, .int x10)]) X dd_Mo_measure_339 9 rfl rfl (by decide) rfl ?_
  refine z_goto (tgt := 205) X dd_Mo_measure_342 (by decide) ?_
  refine z_sub [1, 2, 3, 4, 5, 6, 7, 8, 9, 0] rfl ?_
  obtain rfl := Option.some.inj h
  exact k0 _ rfl
set_option maxRecDepth 100000 in
set_option maxHeartbeats 4000000 in
theorem u_Mo_measure_205  (X : zX p s m args cd D cid B bb_Mo_measure 12 rr_Mo zT) (H : zH s meth B n0 none "measure") {nf : Nat} {x0 : Nat} {x1 : Int32} {x3 : Int32} {x4 : Int32} {x5 : Int32} {x6 : Int32} {x8 : Int32} {x9 : Int32} {x10 : Int32} {x11 : Int32} {c : Zc} {r : (Nat × Int32 × Int32 × Int32 × Int32 × Int32 × Int32 × Int32 × Int32 × Int32 × Zc) ⊕ (Nat × Int32 × Int32 × Int32 × Int32 × Int32 × Int32 × Int32 × Int32 × Zc)} (h : g_Mo_measure_205 nf x0 x1 x3 x4 x5 x6 x8 x9 x10 x11 c = some r) (k0 : ∀ a, r = .inl a → (fun a : Nat × Int32 × Int32 × Int32 × Int32 × Int32 × Int32 × Int32 × Int32 × Int32 × Zc => Zz p l e (zRm 1 24 0 0) s m args below meth cd Q D cid B 12 0 0 a.2.2.2.2.2.2.2.2.2.2 205 [(0, .ref a.1), (1, .int a.2.1), (3, .int a.2.2.1), (4, .int a.2.2.2.1), (5, .int a.2.2.2.2.1), (6, .int a.2.2.2.2.2.1), (8, .int a.2.2.2.2.2.2.1), (9, .int a.2.2.2.2.2.2.2.1), (10, .int a.2.2.2.2.2.2.2.2.1), (11, .int a.2.2.2.2.2.2.2.2.2.1)] []) a) (k1 : ∀ b, r = .inr b → (fun b : Nat × Int32 × Int32 × Int32 × Int32 × Int32 × Int32 × Int32 × Int32 × Zc => Zz p l e (zRm 1 24 0 0) s m args below meth cd Q D cid B 12 0 0 b.2.2.2.2.2.2.2.2.2 345 [(0, .ref b.1), (1, .int b.2.1), (3, .int b.2.2.1), (4, .int b.2.2.2.1), (5, .int b.2.2.2.2.1), (6, .int b.2.2.2.2.2.1), (8, .int b.2.2.2.2.2.2.1), (9, .int b.2.2.2.2.2.2.2.1), (10, .int b.2.2.2.2.2.2.2.2.1)] []) b) : Zz p l e (zRm 1 24 0 0) s m args below meth cd Q D cid B 12 0 0 c 205 [(0, .ref x0), (1, .int x1), (3, .int x3), (4, .int x4), (5, .int x5), (6, .int x6), (8, .int x8), (9, .int x9), (10, .int x10), (11, .int x11)] [] := by
  unfold g_Mo_measure_205 at h
  refine z_iload X dd_Mo_measure_205 9 rfl ?_
  refine z_aload_n X dd_Mo_measure_207 rfl 0 rfl ?_
  obtain ⟨v30, ev30, h⟩ := zb h
  refine z_get (j := 0) X dd_Mo_measure_208 kc_12 ki_12 (by decide) km_1521 (zgi_v ev30) ?_
  refine z_icmp_ge (tgt := 345) X dd_Mo_measure_211 (by decide) (fun q31 => ?_) (fun q31 => ?_)
  · rw [if_pos q31] at h
    refine z_sub [0, 1, 2, 3, 4, 5, 6, 7, 8] rfl ?_
    obtain rfl := Option.some.inj h
    exact k1 _ rfl
  · rw [if_neg q31] at h
    refine z_iload X dd_Mo_measure_214 7 rfl ?_
    refine z_iload X dd_Mo_measure_216 8 rfl ?_
    refine z_ishr X dd_Mo_measure_218 ?_
    refine z_iconst (v := 1) X dd_Mo_measure_219 (by decide) ?_
    refine z_iand X dd_Mo_measure_220 ?_
    refine z_iconst (v := 1) X dd_Mo_measure_221 (by decide) ?_
    refine z_icmp_ne (tgt := 345) X dd_Mo_measure_222 (by decide) (fun q32 => ?_) (fun q32 => ?_)
    · rw [if_neg q32] at h
      refine z_sub [0, 1, 2, 3, 4, 5, 6, 7, 8] rfl ?_
      obtain rfl := Option.some.inj h
      exact k1 _ rfl
    · rw [if_pos q32] at h
      refine z_aload_n X dd_Mo_measure_225 rfl 0 rfl ?_
      obtain ⟨v33, ev33, h⟩ := zb h
      refine z_get (j := 73) X dd_Mo_measure_226 kc_12 ki_12 (by decide) km_1594 (zgr_v ev33) ?_
      refine z_bipush (v := 16) X dd_Mo_measure_229 (by decide) ?_
      refine z_iload X dd_Mo_measure_231 8 rfl ?_
      refine z_imul X dd_Mo_measure_233 ?_
      refine z_iload X dd_Mo_measure_234 9 rfl ?_
      refine z_iadd X dd_Mo_measure_236 ?_
      obtain ⟨v34, ev34, h⟩ := zb h
      refine z_iaload X dd_Mo_measure_237 rfl ev34 ?_
      refine z_iconst (v := (-1)) X dd_Mo_measure_238 (by decide) ?_
      refine z_icmp_ne (tgt := 339) X dd_Mo_measure_239 (by decide) (fun q35 => ?_) (fun q35 => ?_)
      · rw [if_neg q35] at h
        exact t_Mo_measure_339 X H h k0 k1
      · rw [if_pos q35] at h
        refine z_aload_n X dd_Mo_measure_242 rfl 0 rfl ?_
        refine z_bipush (v := 16) X dd_Mo_measure_243 (by decide) ?_
        refine z_iload_n X dd_Mo_measure_245 rfl 1 rfl ?_
        refine z_imul X dd_Mo_measure_246 ?_
        refine z_iload X dd_Mo_measure_247 8 rfl ?_
        refine z_iadd X dd_Mo_measure_249 ?_
        refine z_iload X dd_Mo_measure_250 5 rfl ?_
        refine z_iload X dd_Mo_measure_252 9 rfl ?_
        obtain ⟨w37, ew37, h⟩ := zb h
        obtain ⟨q36, eq36, h⟩ := zb h
        refine z_callVi X [.int ((16 * x1) + x10), .int x6, .int x11] rfl dd_Mo_measure_254 (c_Mo_leadsBy l eq36) (cwV 3 X.1.2.2.2.2 (zg_V km_2093 km_2095 km_110 km_138 km_2096) rfl rfl rfl (by decide +kernel) ⟨Nat.le_of_ble_eq_true rfl, Nat.le_of_ble_eq_true rfl⟩) (zob_s ew37) kc_12 rfl (Nat.le_of_ble_eq_true rfl) ⟨Nat.le_of_ble_eq_true rfl, Nat.le_of_ble_eq_true rfl⟩ ?_
        refine z_if_eq (tgt := 339) X dd_Mo_measure_257 (by decide) (fun q38 => ?_) (fun q38 => ?_)
        · rw [if_pos q38] at h
          exact t_Mo_measure_339 X H h k0 k1
        · rw [if_neg q38] at h
          refine z_aload_n X dd_Mo_measure_260 rfl 0 rfl ?_
          obtain ⟨v39, ev39, h⟩ := zb h
          refine z_get (j := 73) X dd_Mo_measure_261 kc_12 ki_12 (by decide) km_1594 (zgr_v ev39) ?_
          refine z_bipush (v := 16) X dd_Mo_measure_264 (by decide) ?_
          refine z_iload X dd_Mo_measure_266 8 rfl ?_
          refine z_imul X dd_Mo_measure_268 ?_
          refine z_iload X dd_Mo_measure_269 9 rfl ?_
          refine z_iadd X dd_Mo_measure_271 ?_
          refine z_iload X dd_Mo_measure_272 6 rfl ?_
          refine z_iconst (v := 1) X dd_Mo_measure_274 (by decide) ?_
          refine z_iadd X dd_Mo_measure_275 ?_
          obtain ⟨c40, ec40, h⟩ := zb h
          refine z_iastore X dd_Mo_measure_276 rfl ec40 ?_
          refine z_aload_n X dd_Mo_measure_277 rfl 0 rfl ?_
          obtain ⟨v41, ev41, h⟩ := zb h
          refine z_get (j := 71) X dd_Mo_measure_278 kc_12 ki_12 (by decide) km_1592 (zgr_v ev41) ?_
          refine z_iload X dd_Mo_measure_281 4 rfl ?_
          refine z_iload X dd_Mo_measure_283 9 rfl ?_
          obtain ⟨c42, ec42, h⟩ := zb h
          refine z_iastore X dd_Mo_measure_285 rfl ec42 ?_
          refine z_aload_n X dd_Mo_measure_286 rfl 0 rfl ?_
          obtain ⟨v43, ev43, h⟩ := zb h
          refine z_get (j := 72) X dd_Mo_measure_287 kc_12 ki_12 (by decide) km_1593 (zgr_v ev43) ?_
          refine z_iload X dd_Mo_measure_290 4 rfl ?_
          refine z_iload X dd_Mo_measure_292 8 rfl ?_
          obtain ⟨c44, ec44, h⟩ := zb h
          refine z_iastore X dd_Mo_measure_294 rfl ec44 ?_
          refine z_iinc (v := (x5 + 1)) (lv' := [(5, .int (x5 + 1)), (0, .ref x0), (1, .int x1), (3, .int x3), (4, .int x4), (6, .int x6), (8, .int x8), (9, .int x9), (10, .int x10), (11, .int x11)]) X dd_Mo_measure_295 4 rfl rfl (by decide) rfl ?_
          refine z_aload_n X dd_Mo_measure_298 rfl 1 rfl ?_
          obtain ⟨v45, ev45, h⟩ := zb h
          refine z_get (j := 38) X dd_Mo_measure_299 kc_12 ki_12 (by decide) km_1559 (zgr_v ev45) ?_
          refine z_iload_n X dd_Mo_measure_302 rfl 2 rfl ?_
          obtain ⟨v46, ev46, h⟩ := zb h
          refine z_iaload X dd_Mo_measure_303 rfl ev46 ?_
          refine z_iload X dd_Mo_measure_304 8 rfl ?_
          refine z_ishr X dd_Mo_measure_306 ?_
          refine z_iconst (v := 1) X dd_Mo_measure_307 (by decide) ?_
          refine z_iand X dd_Mo_measure_308 ?_
          refine z_iconst (v := 1) X dd_Mo_measure_309 (by decide) ?_
          refine z_icmp_ne (tgt := 339) X dd_Mo_measure_310 (by decide) (fun q47 => ?_) (fun q47 => ?_)
          · rw [if_neg q47] at h
            refine z_sub [1, 2, 3, 4, 0, 5, 6, 7, 8, 9] rfl ?_
            exact t_Mo_measure_339 X H h k0 k1
          · rw [if_pos q47] at h
            refine z_aload_n X dd_Mo_measure_313 rfl 1 rfl ?_
            obtain ⟨v48, ev48, h⟩ := zb h
            refine z_get (j := 70) X dd_Mo_measure_314 kc_12 ki_12 (by decide) km_1591 (zgr_v ev48) ?_
            refine z_iload_n X dd_Mo_measure_317 rfl 3 rfl ?_
            refine z_iload X dd_Mo_measure_318 9 rfl ?_
            refine z_iadd X dd_Mo_measure_320 ?_
            obtain ⟨v49, ev49, h⟩ := zb h
            refine z_iaload X dd_Mo_measure_321 rfl ev49 ?_
            refine z_iconst (v := (-1)) X dd_Mo_measure_322 (by decide) ?_
            refine z_icmp_ne (tgt := 339) X dd_Mo_measure_323 (by decide) (fun q50 => ?_) (fun q50 => ?_)
            · rw [if_neg q50] at h
              refine z_sub [1, 2, 3, 4, 0, 5, 6, 7, 8, 9] rfl ?_
              exact t_Mo_measure_339 X H h k0 k1
            · rw [if_pos q50] at h
              refine z_aload_n X dd_Mo_measure_326 rfl 1 rfl ?_
              obtain ⟨v51, ev51, h⟩ := zb h
              refine z_get (j := 70) X dd_Mo_measure_327 kc_12 ki_12 (by decide) km_1591 (zgr_v ev51) ?_
              refine z_iload_n X dd_Mo_measure_330 rfl 3 rfl ?_
              refine z_iload X dd_Mo_measure_331 9 rfl ?_
              refine z_iadd X dd_Mo_measure_333 ?_
              refine z_iload X dd_Mo_measure_334 6 rfl ?_
              refine z_iconst (v := 1) X dd_Mo_measure_336 (by decide) ?_
              refine z_iadd X dd_Mo_measure_337 ?_
              obtain ⟨c52, ec52, h⟩ := zb h
              refine z_iastore X dd_Mo_measure_338 rfl ec52 ?_
              refine z_sub [1, 2, 3, 4, 0, 5, 6, 7, 8, 9] rfl ?_
              exact t_Mo_measure_339 X H h k0 k1
set_option maxRecDepth 100000 in
set_option maxHeartbeats 4000000 in
theorem t_Mo_measure_345  (X : zX p s m args cd D cid B bb_Mo_measure 12 rr_Mo zT) (H : zH s meth B n0 none "measure") {nf : Nat} {x0 : Nat} {x1 : Int32} {x3 : Int32} {x4 : Int32} {x5 : Int32} {x6 : Int32} {x8 : Int32} {x9 : Int32} {x10 : Int32} {c : Zc} {r : (Nat × Int32 × Int32 × Int32 × Int32 × Int32 × Int32 × Int32 × Int32 × Zc) ⊕ (Nat × Int32 × Int32 × Int32 × Int32 × Zc)} (h : f_Mo_measure_345 nf x0 x1 x3 x4 x5 x6 x8 x9 x10 c = some r) (k0 : ∀ a, r = .inl a → (fun a : Nat × Int32 × Int32 × Int32 × Int32 × Int32 × Int32 × Int32 × Int32 × Zc => Zz p l e (zRm 1 24 0 0) s m args below meth cd Q D cid B 12 0 0 a.2.2.2.2.2.2.2.2.2 191 [(0, .ref a.1), (1, .int a.2.1), (3, .int a.2.2.1), (4, .int a.2.2.2.1), (5, .int a.2.2.2.2.1), (6, .int a.2.2.2.2.2.1), (8, .int a.2.2.2.2.2.2.1), (9, .int a.2.2.2.2.2.2.2.1), (10, .int a.2.2.2.2.2.2.2.2.1)] []) a) (k1 : ∀ b, r = .inr b → (fun b : Nat × Int32 × Int32 × Int32 × Int32 × Zc => Zz p l e (zRm 1 24 0 0) s m args below meth cd Q D cid B 12 0 0 b.2.2.2.2.2 351 [(0, .ref b.1), (1, .int b.2.1), (3, .int b.2.2.1), (4, .int b.2.2.2.1), (5, .int b.2.2.2.2.1)] []) b) : Zz p l e (zRm 1 24 0 0) s m args below meth cd Q D cid B 12 0 0 c 345 [(0, .ref x0), (1, .int x1), (3, .int x3), (4, .int x4), (5, .int x5), (6, .int x6), (8, .int x8), (9, .int x9), (10, .int x10)] [] := by
  unfold f_Mo_measure_345 at h
  refine z_iinc (v := (x10 + 1)) (lv' := [(10, .int (x10 + 1)), (0, .ref x0), (1, .int x1), (3, .int x3), (4, .int x4), (5, .int x5), (6, .int x6), (8, .int x8), (9, .int x9)]) X dd_Mo_measure_345 8 rfl rfl (by decide) rfl ?_
  refine z_goto (tgt := 191) X dd_Mo_measure_348 (by decide) ?_
  refine z_sub [1, 2, 3, 4, 5, 6, 7, 8, 0] rfl ?_
  obtain rfl := Option.some.inj h
  exact k0 _ rfl
set_option maxRecDepth 100000 in
set_option maxHeartbeats 4000000 in
theorem t_Mo_measure_205  (X : zX p s m args cd D cid B bb_Mo_measure 12 rr_Mo zT) (H : zH s meth B n0 none "measure") {nf : Nat} {x0 : Nat} {x1 : Int32} {x3 : Int32} {x4 : Int32} {x5 : Int32} {x6 : Int32} {x8 : Int32} {x9 : Int32} {x10 : Int32} {x11 : Int32} {c : Zc} {r : (Nat × Int32 × Int32 × Int32 × Int32 × Int32 × Int32 × Int32 × Int32 × Zc) ⊕ (Nat × Int32 × Int32 × Int32 × Int32 × Zc)} (h : f_Mo_measure_205 nf x0 x1 x3 x4 x5 x6 x8 x9 x10 x11 c = some r) (k0 : ∀ a, r = .inl a → (fun a : Nat × Int32 × Int32 × Int32 × Int32 × Int32 × Int32 × Int32 × Int32 × Zc => Zz p l e (zRm 1 24 0 0) s m args below meth cd Q D cid B 12 0 0 a.2.2.2.2.2.2.2.2.2 191 [(0, .ref a.1), (1, .int a.2.1), (3, .int a.2.2.1), (4, .int a.2.2.2.1), (5, .int a.2.2.2.2.1), (6, .int a.2.2.2.2.2.1), (8, .int a.2.2.2.2.2.2.1), (9, .int a.2.2.2.2.2.2.2.1), (10, .int a.2.2.2.2.2.2.2.2.1)] []) a) (k1 : ∀ b, r = .inr b → (fun b : Nat × Int32 × Int32 × Int32 × Int32 × Zc => Zz p l e (zRm 1 24 0 0) s m args below meth cd Q D cid B 12 0 0 b.2.2.2.2.2 351 [(0, .ref b.1), (1, .int b.2.1), (3, .int b.2.2.1), (4, .int b.2.2.2.1), (5, .int b.2.2.2.2.1)] []) b) : Zz p l e (zRm 1 24 0 0) s m args below meth cd Q D cid B 12 0 0 c 205 [(0, .ref x0), (1, .int x1), (3, .int x3), (4, .int x4), (5, .int x5), (6, .int x6), (8, .int x8), (9, .int x9), (10, .int x10), (11, .int x11)] [] := by
  unfold f_Mo_measure_205 at h
  obtain ⟨b, eb, h⟩ := zb h
  refine zlp_ok (P := fun a : Nat × Int32 × Int32 × Int32 × Int32 × Int32 × Int32 × Int32 × Int32 × Int32 × Zc => Zz p l e (zRm 1 24 0 0) s m args below meth cd _ D cid B 12 0 0 a.2.2.2.2.2.2.2.2.2.2 205 [(0, .ref a.1), (1, .int a.2.1), (3, .int a.2.2.1), (4, .int a.2.2.2.1), (5, .int a.2.2.2.2.1), (6, .int a.2.2.2.2.2.1), (8, .int a.2.2.2.2.2.2.1), (9, .int a.2.2.2.2.2.2.2.1), (10, .int a.2.2.2.2.2.2.2.2.1), (11, .int a.2.2.2.2.2.2.2.2.2.1)] []) (G := fun b : Nat × Int32 × Int32 × Int32 × Int32 × Int32 × Int32 × Int32 × Int32 × Zc => Zz p l e (zRm 1 24 0 0) s m args below meth cd _ D cid B 12 0 0 b.2.2.2.2.2.2.2.2.2 345 [(0, .ref b.1), (1, .int b.2.1), (3, .int b.2.2.1), (4, .int b.2.2.2.1), (5, .int b.2.2.2.2.1), (6, .int b.2.2.2.2.2.1), (8, .int b.2.2.2.2.2.2.1), (9, .int b.2.2.2.2.2.2.2.1), (10, .int b.2.2.2.2.2.2.2.2.1)] []) (fun a r ha k0 k1 => u_Mo_measure_205 X H ha k0 k1) nf _ b eb ?_
  exact t_Mo_measure_345 X H h k0 k1
set_option maxRecDepth 100000 in
set_option maxHeartbeats 4000000 in
theorem u_Mo_measure_191  (X : zX p s m args cd D cid B bb_Mo_measure 12 rr_Mo zT) (H : zH s meth B n0 none "measure") {nf : Nat} {x0 : Nat} {x1 : Int32} {x3 : Int32} {x4 : Int32} {x5 : Int32} {x6 : Int32} {x8 : Int32} {x9 : Int32} {x10 : Int32} {c : Zc} {r : (Nat × Int32 × Int32 × Int32 × Int32 × Int32 × Int32 × Int32 × Int32 × Zc) ⊕ (Nat × Int32 × Int32 × Int32 × Int32 × Zc)} (h : g_Mo_measure_191 nf x0 x1 x3 x4 x5 x6 x8 x9 x10 c = some r) (k0 : ∀ a, r = .inl a → (fun a : Nat × Int32 × Int32 × Int32 × Int32 × Int32 × Int32 × Int32 × Int32 × Zc => Zz p l e (zRm 1 24 0 0) s m args below meth cd Q D cid B 12 0 0 a.2.2.2.2.2.2.2.2.2 191 [(0, .ref a.1), (1, .int a.2.1), (3, .int a.2.2.1), (4, .int a.2.2.2.1), (5, .int a.2.2.2.2.1), (6, .int a.2.2.2.2.2.1), (8, .int a.2.2.2.2.2.2.1), (9, .int a.2.2.2.2.2.2.2.1), (10, .int a.2.2.2.2.2.2.2.2.1)] []) a) (k1 : ∀ b, r = .inr b → (fun b : Nat × Int32 × Int32 × Int32 × Int32 × Zc => Zz p l e (zRm 1 24 0 0) s m args below meth cd Q D cid B 12 0 0 b.2.2.2.2.2 351 [(0, .ref b.1), (1, .int b.2.1), (3, .int b.2.2.1), (4, .int b.2.2.2.1), (5, .int b.2.2.2.2.1)] []) b) : Zz p l e (zRm 1 24 0 0) s m args below meth cd Q D cid B 12 0 0 c 191 [(0, .ref x0), (1, .int x1), (3, .int x3), (4, .int x4), (5, .int x5), (6, .int x6), (8, .int x8), (9, .int x9), (10, .int x10)] [] := by
  unfold g_Mo_measure_191 at h
  refine z_iload X dd_Mo_measure_191 8 rfl ?_
  refine z_aload_n X dd_Mo_measure_193 rfl 0 rfl ?_
  obtain ⟨v27, ev27, h⟩ := zb h
  refine z_get (j := 39) X dd_Mo_measure_194 kc_12 ki_12 (by decide) km_1560 (zgr_v ev27) ?_
  refine z_iload_n X dd_Mo_measure_197 rfl 1 rfl ?_
  obtain ⟨v28, ev28, h⟩ := zb h
  refine z_iaload X dd_Mo_measure_198 rfl ev28 ?_
  refine z_icmp_ge (tgt := 351) X dd_Mo_measure_199 (by decide) (fun q29 => ?_) (fun q29 => ?_)
  · rw [if_pos q29] at h
    refine z_sub [0, 1, 2, 3, 4] rfl ?_
    obtain rfl := Option.some.inj h
    exact k1 _ rfl
  · rw [if_neg q29] at h
    refine z_iconst (v := 0) X dd_Mo_measure_202 (by decide) ?_
    refine z_istore (lv' := [(11, .int 0), (0, .ref x0), (1, .int x1), (3, .int x3), (4, .int x4), (5, .int x5), (6, .int x6), (8, .int x8), (9, .int x9), (10, .int x10)]) X dd_Mo_measure_203 (by decide) rfl ?_
    refine z_sub [1, 2, 3, 4, 5, 6, 7, 8, 9, 0] rfl ?_
    exact t_Mo_measure_205 X H h k0 k1
set_option maxRecDepth 100000 in
set_option maxHeartbeats 4000000 in
theorem t_Mo_measure_191  (X : zX p s m args cd D cid B bb_Mo_measure 12 rr_Mo zT) (H : zH s meth B n0 none "measure") {nf : Nat} {x0 : Nat} {x1 : Int32} {x3 : Int32} {x4 : Int32} {x5 : Int32} {x6 : Int32} {x8 : Int32} {x9 : Int32} {x10 : Int32} {c : Zc} {r : (Nat × Int32 × Int32 × Int32 × Int32 × Zc) ⊕ (Zc)} (h : f_Mo_measure_191 nf x0 x1 x3 x4 x5 x6 x8 x9 x10 c = some r) (k0 : ∀ a, r = .inl a → (fun a : Nat × Int32 × Int32 × Int32 × Int32 × Zc => Zz p l e (zRm 1 24 0 0) s m args below meth cd Q D cid B 12 0 0 a.2.2.2.2.2 115 [(0, .ref a.1), (1, .int a.2.1), (3, .int a.2.2.1), (4, .int a.2.2.2.1), (5, .int a.2.2.2.2.1)] []) a) (k1 : ∀ b, r = .inr b → (fun b : Zc => Zz p l e (zRm 1 24 0 0) s m args below meth cd Q D cid B 12 0 0 b 354 [] []) b) : Zz p l e (zRm 1 24 0 0) s m args below meth cd Q D cid B 12 0 0 c 191 [(0, .ref x0), (1, .int x1), (3, .int x3), (4, .int x4), (5, .int x5), (6, .int x6), (8, .int x8), (9, .int x9), (10, .int x10)] [] := by
  unfold f_Mo_measure_191 at h
  obtain ⟨b, eb, h⟩ := zb h
  refine zlp_ok (P := fun a : Nat × Int32 × Int32 × Int32 × Int32 × Int32 × Int32 × Int32 × Int32 × Zc => Zz p l e (zRm 1 24 0 0) s m args below meth cd _ D cid B 12 0 0 a.2.2.2.2.2.2.2.2.2 191 [(0, .ref a.1), (1, .int a.2.1), (3, .int a.2.2.1), (4, .int a.2.2.2.1), (5, .int a.2.2.2.2.1), (6, .int a.2.2.2.2.2.1), (8, .int a.2.2.2.2.2.2.1), (9, .int a.2.2.2.2.2.2.2.1), (10, .int a.2.2.2.2.2.2.2.2.1)] []) (G := fun b : Nat × Int32 × Int32 × Int32 × Int32 × Zc => Zz p l e (zRm 1 24 0 0) s m args below meth cd _ D cid B 12 0 0 b.2.2.2.2.2 351 [(0, .ref b.1), (1, .int b.2.1), (3, .int b.2.2.1), (4, .int b.2.2.2.1), (5, .int b.2.2.2.2.1)] []) (fun a r ha k0 k1 => u_Mo_measure_191 X H ha k0 k1) nf _ b eb ?_
  refine z_goto (tgt := 115) X dd_Mo_measure_351 (by decide) ?_
  obtain rfl := Option.some.inj h
  exact k0 _ rfl
set_option maxRecDepth 100000 in
set_option maxHeartbeats 4000000 in
theorem t_Mo_measure_186  (X : zX p s m args cd D cid B bb_Mo_measure 12 rr_Mo zT) (H : zH s meth B n0 none "measure") {nf : Nat} {x0 : Nat} {x1 : Int32} {x3 : Int32} {x4 : Int32} {x5 : Int32} {x6 : Int32} {x8 : Int32} {s0 : Int32} {c : Zc} {r : (Nat × Int32 × Int32 × Int32 × Int32 × Zc) ⊕ (Zc)} (h : f_Mo_measure_186 nf x0 x1 x3 x4 x5 x6 x8 s0 c = some r) (k0 : ∀ a, r = .inl a → (fun a : Nat × Int32 × Int32 × Int32 × Int32 × Zc => Zz p l e (zRm 1 24 0 0) s m args below meth cd Q D cid B 12 0 0 a.2.2.2.2.2 115 [(0, .ref a.1), (1, .int a.2.1), (3, .int a.2.2.1), (4, .int a.2.2.2.1), (5, .int a.2.2.2.2.1)] []) a) (k1 : ∀ b, r = .inr b → (fun b : Zc => Zz p l e (zRm 1 24 0 0) s m args below meth cd Q D cid B 12 0 0 b 354 [] []) b) : Zz p l e (zRm 1 24 0 0) s m args below meth cd Q D cid B 12 0 0 c 186 [(0, .ref x0), (1, .int x1), (3, .int x3), (4, .int x4), (5, .int x5), (6, .int x6), (8, .int x8)] [.int s0] := by
  unfold f_Mo_measure_186 at h
  refine z_istore (lv' := [(9, .int s0), (0, .ref x0), (1, .int x1), (3, .int x3), (4, .int x4), (5, .int x5), (6, .int x6), (8, .int x8)]) X dd_Mo_measure_186 (by decide) rfl ?_
  refine z_iconst (v := 0) X dd_Mo_measure_188 (by decide) ?_
  refine z_istore (lv' := [(10, .int 0), (9, .int s0), (0, .ref x0), (1, .int x1), (3, .int x3), (4, .int x4), (5, .int x5), (6, .int x6), (8, .int x8)]) X dd_Mo_measure_189 (by decide) rfl ?_
  refine z_sub [2, 3, 4, 5, 6, 7, 8, 1, 0] rfl ?_
  exact t_Mo_measure_191 X H h k0 k1
set_option maxRecDepth 100000 in
set_option maxHeartbeats 4000000 in
theorem u_Mo_measure_115  (X : zX p s m args cd D cid B bb_Mo_measure 12 rr_Mo zT) (H : zH s meth B n0 none "measure") {nf : Nat} {x0 : Nat} {x1 : Int32} {x3 : Int32} {x4 : Int32} {x5 : Int32} {c : Zc} {r : (Nat × Int32 × Int32 × Int32 × Int32 × Zc) ⊕ (Zc)} (h : g_Mo_measure_115 nf x0 x1 x3 x4 x5 c = some r) (k0 : ∀ a, r = .inl a → (fun a : Nat × Int32 × Int32 × Int32 × Int32 × Zc => Zz p l e (zRm 1 24 0 0) s m args below meth cd Q D cid B 12 0 0 a.2.2.2.2.2 115 [(0, .ref a.1), (1, .int a.2.1), (3, .int a.2.2.1), (4, .int a.2.2.2.1), (5, .int a.2.2.2.2.1)] []) a) (k1 : ∀ b, r = .inr b → (fun b : Zc => Zz p l e (zRm 1 24 0 0) s m args below meth cd Q D cid B 12 0 0 b 354 [] []) b) : Zz p l e (zRm 1 24 0 0) s m args below meth cd Q D cid B 12 0 0 c 115 [(0, .ref x0), (1, .int x1), (3, .int x3), (4, .int x4), (5, .int x5)] [] := by
  unfold g_Mo_measure_115 at h
  refine z_iload X dd_Mo_measure_115 3 rfl ?_
  refine z_iload X dd_Mo_measure_117 4 rfl ?_
  refine z_icmp_ge (tgt := 354) X dd_Mo_measure_119 (by decide) (fun q17 => ?_) (fun q17 => ?_)
  · rw [if_pos q17] at h
    refine z_sub [] rfl ?_
    obtain rfl := Option.some.inj h
    exact k1 _ rfl
  · rw [if_neg q17] at h
    refine z_aload_n X dd_Mo_measure_122 rfl 0 rfl ?_
    obtain ⟨v18, ev18, h⟩ := zb h
    refine z_get (j := 71) X dd_Mo_measure_123 kc_12 ki_12 (by decide) km_1592 (zgr_v ev18) ?_
    refine z_iload X dd_Mo_measure_126 3 rfl ?_
    obtain ⟨v19, ev19, h⟩ := zb h
    refine z_iaload X dd_Mo_measure_128 rfl ev19 ?_
    refine z_istore (lv' := [(6, .int v19), (0, .ref x0), (1, .int x1), (3, .int x3), (4, .int x4), (5, .int x5)]) X dd_Mo_measure_129 (by decide) rfl ?_
    refine z_aload_n X dd_Mo_measure_131 rfl 1 rfl ?_
    obtain ⟨v20, ev20, h⟩ := zb h
    refine z_get (j := 72) X dd_Mo_measure_132 kc_12 ki_12 (by decide) km_1593 (zgr_v ev20) ?_
    refine z_iload X dd_Mo_measure_135 4 rfl ?_
    obtain ⟨v21, ev21, h⟩ := zb h
    refine z_iaload X dd_Mo_measure_137 rfl ev21 ?_
    refine z_istore (lv' := [(7, .int v21), (6, .int v19), (0, .ref x0), (1, .int x1), (3, .int x3), (4, .int x4), (5, .int x5)]) X dd_Mo_measure_138 (by decide) rfl ?_
    refine z_iinc (v := (x4 + 1)) (lv' := [(4, .int (x4 + 1)), (7, .int v21), (6, .int v19), (0, .ref x0), (1, .int x1), (3, .int x3), (5, .int x5)]) X dd_Mo_measure_140 5 rfl rfl (by decide) rfl ?_
    refine z_aload_n X dd_Mo_measure_143 rfl 3 rfl ?_
    obtain ⟨v22, ev22, h⟩ := zb h
    refine z_get (j := 73) X dd_Mo_measure_144 kc_12 ki_12 (by decide) km_1594 (zgr_v ev22) ?_
    refine z_bipush (v := 16) X dd_Mo_measure_147 (by decide) ?_
    refine z_iload X dd_Mo_measure_149 1 rfl ?_
    refine z_imul X dd_Mo_measure_151 ?_
    refine z_iload X dd_Mo_measure_152 2 rfl ?_
    refine z_iadd X dd_Mo_measure_154 ?_
    obtain ⟨v23, ev23, h⟩ := zb h
    refine z_iaload X dd_Mo_measure_155 rfl ev23 ?_
    refine z_istore (lv' := [(8, .int v23), (4, .int (x4 + 1)), (7, .int v21), (6, .int v19), (0, .ref x0), (1, .int x1), (3, .int x3), (5, .int x5)]) X dd_Mo_measure_156 (by decide) rfl ?_
    refine z_iload X dd_Mo_measure_158 2 rfl ?_
    refine z_bipush (v := 16) X dd_Mo_measure_160 (by decide) ?_
    refine z_icmp_ne (tgt := 174) X dd_Mo_measure_162 (by decide) (fun q24 => ?_) (fun q24 => ?_)
    · rw [if_neg q24] at h
      refine z_aload_n X dd_Mo_measure_174 rfl 4 rfl ?_
      obtain ⟨v25, ev25, h⟩ := zb h
      refine z_get (j := 42) X dd_Mo_measure_175 kc_12 ki_12 (by decide) km_1563 (zgr_v ev25) ?_
      refine z_bipush (v := 16) X dd_Mo_measure_178 (by decide) ?_
      refine z_iload_n X dd_Mo_measure_180 rfl 5 rfl ?_
      refine z_imul X dd_Mo_measure_181 ?_
      refine z_iload X dd_Mo_measure_182 2 rfl ?_
      refine z_iadd X dd_Mo_measure_184 ?_
      obtain ⟨v26, ev26, h⟩ := zb h
      refine z_iaload X dd_Mo_measure_185 rfl ev26 ?_
      refine z_sub [4, 5, 6, 1, 7, 3, 0] rfl ?_
      exact t_Mo_measure_186 X H h k0 k1
    · rw [if_pos q24] at h
      refine z_aload_n X dd_Mo_measure_165 rfl 4 rfl ?_
      obtain ⟨v53, ev53, h⟩ := zb h
      refine z_get (j := 37) X dd_Mo_measure_166 kc_12 ki_12 (by decide) km_1558 (zgr_v ev53) ?_
      refine z_iload_n X dd_Mo_measure_169 rfl 5 rfl ?_
      obtain ⟨v54, ev54, h⟩ := zb h
      refine z_iaload X dd_Mo_measure_170 rfl ev54 ?_
      refine z_goto (tgt := 186) X dd_Mo_measure_171 (by decide) ?_
      refine z_sub [4, 5, 6, 1, 7, 3, 0] rfl ?_
      exact t_Mo_measure_186 X H h k0 k1
set_option maxRecDepth 100000 in
set_option maxHeartbeats 4000000 in
theorem t_Mo_measure_115  (X : zX p s m args cd D cid B bb_Mo_measure 12 rr_Mo zT) (H : zH s meth B n0 none "measure") {nf : Nat} {x0 : Nat} {x1 : Int32} {x3 : Int32} {x4 : Int32} {x5 : Int32} {c : Zc} {res : Zc} (h : f_Mo_measure_115 nf x0 x1 x3 x4 x5 c = some res) : Zz p l e (zRm 1 24 0 0) s m args below meth cd (MQ below (zQv D cid B res n0 0) args s 0 0 (fun q => B ≤ q)) D cid B 12 0 0 c 115 [(0, .ref x0), (1, .int x1), (3, .int x3), (4, .int x4), (5, .int x5)] [] := by
  unfold f_Mo_measure_115 at h
  obtain ⟨b, eb, h⟩ := zb h
  refine zlp_ok (P := fun a : Nat × Int32 × Int32 × Int32 × Int32 × Zc => Zz p l e (zRm 1 24 0 0) s m args below meth cd _ D cid B 12 0 0 a.2.2.2.2.2 115 [(0, .ref a.1), (1, .int a.2.1), (3, .int a.2.2.1), (4, .int a.2.2.2.1), (5, .int a.2.2.2.2.1)] []) (G := fun b : Zc => Zz p l e (zRm 1 24 0 0) s m args below meth cd _ D cid B 12 0 0 b 354 [] []) (fun a r ha k0 k1 => u_Mo_measure_115 X H ha k0 k1) nf _ b eb ?_
  obtain rfl := Option.some.inj h
  exact z_vret X H.1 H.2.1 H.2.2.1 dd_Mo_measure_354
set_option maxRecDepth 100000 in
set_option maxHeartbeats 4000000 in
theorem t_Mo_measure_83  (X : zX p s m args cd D cid B bb_Mo_measure 12 rr_Mo zT) (H : zH s meth B n0 none "measure") {nf : Nat} {x0 : Nat} {x1 : Int32} {x2 : Int32} {x3 : Int32} {c : Zc} {res : Zc} (h : f_Mo_measure_83 nf x0 x1 x2 x3 c = some res) : Zz p l e (zRm 1 24 0 0) s m args below meth cd (MQ below (zQv D cid B res n0 0) args s 0 0 (fun q => B ≤ q)) D cid B 12 0 0 c 83 [(0, .ref x0), (1, .int x1), (2, .int x2), (3, .int x3)] [] := by
  unfold f_Mo_measure_83 at h
  refine z_iconst (v := 0) X dd_Mo_measure_83 (by decide) ?_
  refine z_istore (lv' := [(4, .int 0), (0, .ref x0), (1, .int x1), (2, .int x2), (3, .int x3)]) X dd_Mo_measure_84 (by decide) rfl ?_
  refine z_iconst (v := 1) X dd_Mo_measure_86 (by decide) ?_
  refine z_istore (lv' := [(5, .int 1), (4, .int 0), (0, .ref x0), (1, .int x1), (2, .int x2), (3, .int x3)]) X dd_Mo_measure_87 (by decide) rfl ?_
  refine z_aload_n X dd_Mo_measure_89 rfl 2 rfl ?_
  obtain ⟨v11, ev11, h⟩ := zb h
  refine z_get (j := 71) X dd_Mo_measure_90 kc_12 ki_12 (by decide) km_1592 (zgr_v ev11) ?_
  refine z_iconst (v := 0) X dd_Mo_measure_93 (by decide) ?_
  refine z_iload_n X dd_Mo_measure_94 rfl 4 rfl ?_
  obtain ⟨c12, ec12, h⟩ := zb h
  refine z_iastore X dd_Mo_measure_95 rfl ec12 ?_
  refine z_aload_n X dd_Mo_measure_96 rfl 2 rfl ?_
  obtain ⟨v13, ev13, h⟩ := zb h
  refine z_get (j := 72) X dd_Mo_measure_97 kc_12 ki_12 (by decide) km_1593 (zgr_v ev13) ?_
  refine z_iconst (v := 0) X dd_Mo_measure_100 (by decide) ?_
  refine z_bipush (v := 16) X dd_Mo_measure_101 (by decide) ?_
  obtain ⟨c14, ec14, h⟩ := zb h
  refine z_iastore X dd_Mo_measure_103 rfl ec14 ?_
  refine z_aload_n X dd_Mo_measure_104 rfl 2 rfl ?_
  obtain ⟨v15, ev15, h⟩ := zb h
  refine z_get (j := 73) X dd_Mo_measure_105 kc_12 ki_12 (by decide) km_1594 (zgr_v ev15) ?_
  refine z_sipush (v := 256) X dd_Mo_measure_108 (by decide) ?_
  refine z_iload_n X dd_Mo_measure_111 rfl 4 rfl ?_
  refine z_iadd X dd_Mo_measure_112 ?_
  refine z_iconst (v := 0) X dd_Mo_measure_113 (by decide) ?_
  obtain ⟨c16, ec16, h⟩ := zb h
  refine z_iastore X dd_Mo_measure_114 rfl ec16 ?_
  refine z_sub [2, 3, 5, 1, 0] rfl ?_
  exact t_Mo_measure_115 X H h
set_option maxRecDepth 100000 in
set_option maxHeartbeats 4000000 in
theorem t_Mo_measure_43  (X : zX p s m args cd D cid B bb_Mo_measure 12 rr_Mo zT) (H : zH s meth B n0 none "measure") {nf : Nat} {x0 : Nat} {x1 : Int32} {x2 : Int32} {x3 : Int32} {x4 : Int32} {c : Zc} {res : Zc} (h : f_Mo_measure_43 nf x0 x1 x2 x3 x4 c = some res) : Zz p l e (zRm 1 24 0 0) s m args below meth cd (MQ below (zQv D cid B res n0 0) args s 0 0 (fun q => B ≤ q)) D cid B 12 0 0 c 43 [(0, .ref x0), (1, .int x1), (2, .int x2), (3, .int x3), (4, .int x4)] [] := by
  unfold f_Mo_measure_43 at h
  obtain ⟨b, eb, h⟩ := zb h
  refine zlp_ok (P := fun a : Nat × Int32 × Int32 × Int32 × Int32 × Zc => Zz p l e (zRm 1 24 0 0) s m args below meth cd _ D cid B 12 0 0 a.2.2.2.2.2 43 [(0, .ref a.1), (1, .int a.2.1), (2, .int a.2.2.1), (3, .int a.2.2.2.1), (4, .int a.2.2.2.2.1)] []) (G := fun b : Nat × Int32 × Int32 × Int32 × Zc => Zz p l e (zRm 1 24 0 0) s m args below meth cd _ D cid B 12 0 0 b.2.2.2.2 65 [(0, .ref b.1), (1, .int b.2.1), (2, .int b.2.2.1), (3, .int b.2.2.2.1)] []) (fun a r ha k0 k1 => u_Mo_measure_43 X H ha k0 k1) nf _ b eb ?_
  refine z_aload_n X dd_Mo_measure_65 rfl 0 rfl ?_
  obtain ⟨v8, ev8, h⟩ := zb h
  refine z_get (j := 36) X dd_Mo_measure_66 kc_12 ki_12 (by decide) km_1557 (zgr_v ev8) ?_
  refine z_iload_n X dd_Mo_measure_69 rfl 1 rfl ?_
  obtain ⟨v9, ev9, h⟩ := zb h
  refine z_zaload X dd_Mo_measure_70 rfl ev9 ?_
  refine z_if_eq (tgt := 83) X dd_Mo_measure_71 (by decide) (fun q10 => ?_) (fun q10 => ?_)
  · rw [if_pos q10] at h
    exact t_Mo_measure_83 X H h
  · rw [if_neg q10] at h
    refine z_aload_n X dd_Mo_measure_74 rfl 0 rfl ?_
    obtain ⟨v55, ev55, h⟩ := zb h
    refine z_get (j := 70) X dd_Mo_measure_75 kc_12 ki_12 (by decide) km_1591 (zgr_v ev55) ?_
    refine z_iload_n X dd_Mo_measure_78 rfl 3 rfl ?_
    refine z_iload_n X dd_Mo_measure_79 rfl 2 rfl ?_
    refine z_iadd X dd_Mo_measure_80 ?_
    refine z_iconst (v := 0) X dd_Mo_measure_81 (by decide) ?_
    obtain ⟨c56, ec56, h⟩ := zb h
    refine z_iastore X dd_Mo_measure_82 rfl ec56 ?_
    exact t_Mo_measure_83 X H h
set_option maxRecDepth 100000 in
set_option maxHeartbeats 4000000 in
theorem t_Mo_measure_17  (X : zX p s m args cd D cid B bb_Mo_measure 12 rr_Mo zT) (H : zH s meth B n0 none "measure") {nf : Nat} {x0 : Nat} {x1 : Int32} {x2 : Int32} {x3 : Int32} {x4 : Int32} {c : Zc} {res : Zc} (h : f_Mo_measure_17 nf x0 x1 x2 x3 x4 c = some res) : Zz p l e (zRm 1 24 0 0) s m args below meth cd (MQ below (zQv D cid B res n0 0) args s 0 0 (fun q => B ≤ q)) D cid B 12 0 0 c 17 [(0, .ref x0), (1, .int x1), (2, .int x2), (3, .int x3), (4, .int x4)] [] := by
  unfold f_Mo_measure_17 at h
  obtain ⟨b, eb, h⟩ := zb h
  refine zlp_ok (P := fun a : Nat × Int32 × Int32 × Int32 × Int32 × Zc => Zz p l e (zRm 1 24 0 0) s m args below meth cd _ D cid B 12 0 0 a.2.2.2.2.2 17 [(0, .ref a.1), (1, .int a.2.1), (2, .int a.2.2.1), (3, .int a.2.2.2.1), (4, .int a.2.2.2.2.1)] []) (G := fun b : Nat × Int32 × Int32 × Int32 × Zc => Zz p l e (zRm 1 24 0 0) s m args below meth cd _ D cid B 12 0 0 b.2.2.2.2 40 [(0, .ref b.1), (1, .int b.2.1), (2, .int b.2.2.1), (3, .int b.2.2.2.1)] []) (fun a r ha k0 k1 => u_Mo_measure_17 X H ha k0 k1) nf _ b eb ?_
  refine z_iconst (v := 0) X dd_Mo_measure_40 (by decide) ?_
  refine z_istore (lv' := [(4, .int 0), (0, .ref b.1), (1, .int b.2.1), (2, .int b.2.2.1), (3, .int b.2.2.2.1)]) X dd_Mo_measure_41 (by decide) rfl ?_
  refine z_sub [1, 2, 3, 4, 0] rfl ?_
  exact t_Mo_measure_43 X H h
set_option maxRecDepth 100000 in
set_option maxHeartbeats 4000000 in
theorem c_Mo_measure (l : Launch) {nf : Nat} {a0 : Nat} {a1 : Int32} {a2 : Int32} {c : Zc} {res : Zc} (h : f_Mo_measure nf a0 a1 a2 c = some res) : zM l yy_Mo_measure ww_Mo_measure 1 24 0 0 [.ref a0, .int a1, .int a2] c (fun D cid B => zQv D cid B res c.length 0) := by
  refine z_met (cc := bb_Mo_measure) (maxL := 12) (ret := none) (by decide +kernel) rfl (Nat.le_of_ble_eq_true rfl) ?_
  intro p e s m args below meth cd D cid B X h1 h2 h3 h4
  have X : zX p s m args cd D cid B bb_Mo_measure 12 rr_Mo zT := X
  have H : zH s meth B c.length none "measure" := ⟨h1, h2, h4, h3⟩
  unfold f_Mo_measure at h
  show Zz p l e (zRm 1 24 0 0) s m args below meth cd _ D cid B 12 0 0 c 0 [(0, .ref a0), (1, .int a1), (2, .int a2)] []
  refine z_sipush (v := 256) X dd_Mo_measure_0 (by decide) ?_
  refine z_iload_n X dd_Mo_measure_3 rfl 1 rfl ?_
  refine z_bipush (v := 11) X dd_Mo_measure_4 (by decide) ?_
  refine z_irem X dd_Mo_measure_6 (by decide) ?_
  refine z_imul X dd_Mo_measure_7 ?_
  refine z_bipush (v := 16) X dd_Mo_measure_8 (by decide) ?_
  refine z_iload_n X dd_Mo_measure_10 rfl 2 rfl ?_
  refine z_imul X dd_Mo_measure_11 ?_
  refine z_iadd X dd_Mo_measure_12 ?_
  refine z_istore_n (lv' := [(3, .int ((256 * (a1 - a1 / 11 * 11)) + (16 * a2))), (0, .ref a0), (1, .int a1), (2, .int a2)]) X dd_Mo_measure_13 rfl (by decide) rfl ?_
  refine z_iconst (v := 0) X dd_Mo_measure_14 (by decide) ?_
  refine z_istore (lv' := [(4, .int 0), (3, .int ((256 * (a1 - a1 / 11 * 11)) + (16 * a2))), (0, .ref a0), (1, .int a1), (2, .int a2)]) X dd_Mo_measure_15 (by decide) rfl ?_
  refine z_sub [2, 3, 4, 1, 0] rfl ?_
  exact t_Mo_measure_17 X H h
theorem dd_Mo_measureAll_0 : decode bb_Mo_measureAll 0 = .ok (.iconst 0, 1) := by decide +kernel
theorem dd_Mo_measureAll_1 : decode bb_Mo_measureAll 1 = .ok (.istore_n 1, 1) := by decide +kernel
theorem dd_Mo_measureAll_2 : decode bb_Mo_measureAll 2 = .ok (.iload_n 1, 1) := by decide +kernel
theorem dd_Mo_measureAll_3 : decode bb_Mo_measureAll 3 = .ok (.aload_n 0, 1) := by decide +kernel
theorem dd_Mo_measureAll_4 : decode bb_Mo_measureAll 4 = .ok (.getfield 80, 3) := by decide +kernel
theorem dd_Mo_measureAll_7 : decode bb_Mo_measureAll 7 = .ok (.aload_n 0, 1) := by decide +kernel
theorem dd_Mo_measureAll_8 : decode bb_Mo_measureAll 8 = .ok (.getfield 331, 3) := by decide +kernel
theorem dd_Mo_measureAll_11 : decode bb_Mo_measureAll 11 = .ok (.iaload, 1) := by decide +kernel
theorem dd_Mo_measureAll_12 : decode bb_Mo_measureAll 12 = .ok (.if_icmp .ge 39, 3) := by decide +kernel
theorem dd_Mo_measureAll_15 : decode bb_Mo_measureAll 15 = .ok (.iconst 0, 1) := by decide +kernel
theorem dd_Mo_measureAll_16 : decode bb_Mo_measureAll 16 = .ok (.istore_n 2, 1) := by decide +kernel
theorem dd_Mo_measureAll_17 : decode bb_Mo_measureAll 17 = .ok (.iload_n 2, 1) := by decide +kernel
theorem dd_Mo_measureAll_18 : decode bb_Mo_measureAll 18 = .ok (.aload_n 0, 1) := by decide +kernel
theorem dd_Mo_measureAll_19 : decode bb_Mo_measureAll 19 = .ok (.getfield 450, 3) := by decide +kernel
theorem dd_Mo_measureAll_22 : decode bb_Mo_measureAll 22 = .ok (.if_icmp .ge 23, 3) := by decide +kernel
theorem dd_Mo_measureAll_25 : decode bb_Mo_measureAll 25 = .ok (.aload_n 0, 1) := by decide +kernel
theorem dd_Mo_measureAll_26 : decode bb_Mo_measureAll 26 = .ok (.bipush 11, 2) := by decide +kernel
theorem dd_Mo_measureAll_28 : decode bb_Mo_measureAll 28 = .ok (.aload_n 0, 1) := by decide +kernel
theorem dd_Mo_measureAll_29 : decode bb_Mo_measureAll 29 = .ok (.getfield 331, 3) := by decide +kernel
theorem dd_Mo_measureAll_32 : decode bb_Mo_measureAll 32 = .ok (.imul, 1) := by decide +kernel
theorem dd_Mo_measureAll_33 : decode bb_Mo_measureAll 33 = .ok (.iload_n 1, 1) := by decide +kernel
theorem dd_Mo_measureAll_34 : decode bb_Mo_measureAll 34 = .ok (.iadd, 1) := by decide +kernel
theorem dd_Mo_measureAll_35 : decode bb_Mo_measureAll 35 = .ok (.iload_n 2, 1) := by decide +kernel
theorem dd_Mo_measureAll_36 : decode bb_Mo_measureAll 36 = .ok (.invokevirtual 457, 3) := by decide +kernel
theorem dd_Mo_measureAll_39 : decode bb_Mo_measureAll 39 = .ok (.iinc 2 1, 3) := by decide +kernel
theorem dd_Mo_measureAll_42 : decode bb_Mo_measureAll 42 = .ok (.goto (-25), 3) := by decide +kernel
theorem dd_Mo_measureAll_45 : decode bb_Mo_measureAll 45 = .ok (.iinc 1 1, 3) := by decide +kernel
theorem dd_Mo_measureAll_48 : decode bb_Mo_measureAll 48 = .ok (.goto (-46), 3) := by decide +kernel
theorem dd_Mo_measureAll_51 : decode bb_Mo_measureAll 51 = .ok (.return_, 1) := by decide +kernel
set_option maxRecDepth 100000 in
set_option maxHeartbeats 4000000 in
theorem u_Mo_measureAll_17  (X : zX p s m args cd D cid B bb_Mo_measureAll 3 rr_Mo zT) (H : zH s meth B n0 none "measureAll") {nf : Nat} {x0 : Nat} {x1 : Int32} {x2 : Int32} {c : Zc} {r : (Nat × Int32 × Int32 × Zc) ⊕ (Nat × Int32 × Zc)} (h : g_Mo_measureAll_17 nf x0 x1 x2 c = some r) (k0 : ∀ a, r = .inl a → (fun a : Nat × Int32 × Int32 × Zc => Zz p l e (zRm 2 55 0 0) s m args below meth cd Q D cid B 3 0 0 a.2.2.2 17 [(0, .ref a.1), (1, .int a.2.1), (2, .int a.2.2.1)] []) a) (k1 : ∀ b, r = .inr b → (fun b : Nat × Int32 × Zc => Zz p l e (zRm 2 55 0 0) s m args below meth cd Q D cid B 3 0 0 b.2.2 45 [(0, .ref b.1), (1, .int b.2.1)] []) b) : Zz p l e (zRm 2 55 0 0) s m args below meth cd Q D cid B 3 0 0 c 17 [(0, .ref x0), (1, .int x1), (2, .int x2)] [] := by
  unfold g_Mo_measureAll_17 at h
  refine z_iload_n X dd_Mo_measureAll_17 rfl 2 rfl ?_
  refine z_aload_n X dd_Mo_measureAll_18 rfl 0 rfl ?_
  obtain ⟨v5, ev5, h⟩ := zb h
  refine z_get (j := 0) X dd_Mo_measureAll_19 kc_12 ki_12 (by decide) km_1521 (zgi_v ev5) ?_
  refine z_icmp_ge (tgt := 45) X dd_Mo_measureAll_22 (by decide) (fun q6 => ?_) (fun q6 => ?_)
  · rw [if_pos q6] at h
    refine z_sub [0, 1] rfl ?_
    obtain rfl := Option.some.inj h
    exact k1 _ rfl
  · rw [if_neg q6] at h
    refine z_aload_n X dd_Mo_measureAll_25 rfl 0 rfl ?_
    refine z_bipush (v := 11) X dd_Mo_measureAll_26 (by decide) ?_
    refine z_aload_n X dd_Mo_measureAll_28 rfl 0 rfl ?_
    obtain ⟨v7, ev7, h⟩ := zb h
    refine z_get (j := 25) X dd_Mo_measureAll_29 kc_12 ki_12 (by decide) km_1546 (zgi_v ev7) ?_
    refine z_imul X dd_Mo_measureAll_32 ?_
    refine z_iload_n X dd_Mo_measureAll_33 rfl 1 rfl ?_
    refine z_iadd X dd_Mo_measureAll_34 ?_
    refine z_iload_n X dd_Mo_measureAll_35 rfl 2 rfl ?_
    obtain ⟨w9, ew9, h⟩ := zb h
    obtain ⟨q8, eq8, h⟩ := zb h
    refine z_callVv X [.int ((11 * v7) + x1), .int x2] rfl dd_Mo_measureAll_36 (c_Mo_measure l eq8) (cwV 2 X.1.2.2.2.2 (zg_V km_2089 km_2091 km_109 km_138 km_2092) rfl rfl rfl (by decide +kernel) ⟨Nat.le_of_ble_eq_true rfl, Nat.le_of_ble_eq_true rfl⟩) (zob_s ew9) kc_12 rfl (Nat.le_of_ble_eq_true rfl) ⟨Nat.le_of_ble_eq_true rfl, Nat.le_of_ble_eq_true rfl⟩ ?_
    refine z_iinc (v := (x2 + 1)) (lv' := [(2, .int (x2 + 1)), (0, .ref x0), (1, .int x1)]) X dd_Mo_measureAll_39 2 rfl rfl (by decide) rfl ?_
    refine z_goto (tgt := 17) X dd_Mo_measureAll_42 (by decide) ?_
    refine z_sub [1, 2, 0] rfl ?_
    obtain rfl := Option.some.inj h
    exact k0 _ rfl
set_option maxRecDepth 100000 in
set_option maxHeartbeats 4000000 in
theorem t_Mo_measureAll_17  (X : zX p s m args cd D cid B bb_Mo_measureAll 3 rr_Mo zT) (H : zH s meth B n0 none "measureAll") {nf : Nat} {x0 : Nat} {x1 : Int32} {x2 : Int32} {c : Zc} {r : (Nat × Int32 × Zc) ⊕ (Zc)} (h : f_Mo_measureAll_17 nf x0 x1 x2 c = some r) (k0 : ∀ a, r = .inl a → (fun a : Nat × Int32 × Zc => Zz p l e (zRm 2 55 0 0) s m args below meth cd Q D cid B 3 0 0 a.2.2 2 [(0, .ref a.1), (1, .int a.2.1)] []) a) (k1 : ∀ b, r = .inr b → (fun b : Zc => Zz p l e (zRm 2 55 0 0) s m args below meth cd Q D cid B 3 0 0 b 51 [] []) b) : Zz p l e (zRm 2 55 0 0) s m args below meth cd Q D cid B 3 0 0 c 17 [(0, .ref x0), (1, .int x1), (2, .int x2)] [] := by
  unfold f_Mo_measureAll_17 at h
  obtain ⟨b, eb, h⟩ := zb h
  refine zlp_ok (P := fun a : Nat × Int32 × Int32 × Zc => Zz p l e (zRm 2 55 0 0) s m args below meth cd _ D cid B 3 0 0 a.2.2.2 17 [(0, .ref a.1), (1, .int a.2.1), (2, .int a.2.2.1)] []) (G := fun b : Nat × Int32 × Zc => Zz p l e (zRm 2 55 0 0) s m args below meth cd _ D cid B 3 0 0 b.2.2 45 [(0, .ref b.1), (1, .int b.2.1)] []) (fun a r ha k0 k1 => u_Mo_measureAll_17 X H ha k0 k1) nf _ b eb ?_
  refine z_iinc (v := (b.2.1 + 1)) (lv' := [(1, .int (b.2.1 + 1)), (0, .ref b.1)]) X dd_Mo_measureAll_45 1 rfl rfl (by decide) rfl ?_
  refine z_goto (tgt := 2) X dd_Mo_measureAll_48 (by decide) ?_
  refine z_sub [1, 0] rfl ?_
  obtain rfl := Option.some.inj h
  exact k0 _ rfl
set_option maxRecDepth 100000 in
set_option maxHeartbeats 4000000 in
theorem u_Mo_measureAll_2  (X : zX p s m args cd D cid B bb_Mo_measureAll 3 rr_Mo zT) (H : zH s meth B n0 none "measureAll") {nf : Nat} {x0 : Nat} {x1 : Int32} {c : Zc} {r : (Nat × Int32 × Zc) ⊕ (Zc)} (h : g_Mo_measureAll_2 nf x0 x1 c = some r) (k0 : ∀ a, r = .inl a → (fun a : Nat × Int32 × Zc => Zz p l e (zRm 2 55 0 0) s m args below meth cd Q D cid B 3 0 0 a.2.2 2 [(0, .ref a.1), (1, .int a.2.1)] []) a) (k1 : ∀ b, r = .inr b → (fun b : Zc => Zz p l e (zRm 2 55 0 0) s m args below meth cd Q D cid B 3 0 0 b 51 [] []) b) : Zz p l e (zRm 2 55 0 0) s m args below meth cd Q D cid B 3 0 0 c 2 [(0, .ref x0), (1, .int x1)] [] := by
  unfold g_Mo_measureAll_2 at h
  refine z_iload_n X dd_Mo_measureAll_2 rfl 1 rfl ?_
  refine z_aload_n X dd_Mo_measureAll_3 rfl 0 rfl ?_
  obtain ⟨v1, ev1, h⟩ := zb h
  refine z_get (j := 31) X dd_Mo_measureAll_4 kc_12 ki_12 (by decide) km_1552 (zgr_v ev1) ?_
  refine z_aload_n X dd_Mo_measureAll_7 rfl 0 rfl ?_
  obtain ⟨v2, ev2, h⟩ := zb h
  refine z_get (j := 25) X dd_Mo_measureAll_8 kc_12 ki_12 (by decide) km_1546 (zgi_v ev2) ?_
  obtain ⟨v3, ev3, h⟩ := zb h
  refine z_iaload X dd_Mo_measureAll_11 rfl ev3 ?_
  refine z_icmp_ge (tgt := 51) X dd_Mo_measureAll_12 (by decide) (fun q4 => ?_) (fun q4 => ?_)
  · rw [if_pos q4] at h
    refine z_sub [] rfl ?_
    obtain rfl := Option.some.inj h
    exact k1 _ rfl
  · rw [if_neg q4] at h
    refine z_iconst (v := 0) X dd_Mo_measureAll_15 (by decide) ?_
    refine z_istore_n (lv' := [(2, .int 0), (0, .ref x0), (1, .int x1)]) X dd_Mo_measureAll_16 rfl (by decide) rfl ?_
    refine z_sub [1, 2, 0] rfl ?_
    exact t_Mo_measureAll_17 X H h k0 k1
set_option maxRecDepth 100000 in
set_option maxHeartbeats 4000000 in
theorem t_Mo_measureAll_2  (X : zX p s m args cd D cid B bb_Mo_measureAll 3 rr_Mo zT) (H : zH s meth B n0 none "measureAll") {nf : Nat} {x0 : Nat} {x1 : Int32} {c : Zc} {res : Zc} (h : f_Mo_measureAll_2 nf x0 x1 c = some res) : Zz p l e (zRm 2 55 0 0) s m args below meth cd (MQ below (zQv D cid B res n0 0) args s 0 0 (fun q => B ≤ q)) D cid B 3 0 0 c 2 [(0, .ref x0), (1, .int x1)] [] := by
  unfold f_Mo_measureAll_2 at h
  obtain ⟨b, eb, h⟩ := zb h
  refine zlp_ok (P := fun a : Nat × Int32 × Zc => Zz p l e (zRm 2 55 0 0) s m args below meth cd _ D cid B 3 0 0 a.2.2 2 [(0, .ref a.1), (1, .int a.2.1)] []) (G := fun b : Zc => Zz p l e (zRm 2 55 0 0) s m args below meth cd _ D cid B 3 0 0 b 51 [] []) (fun a r ha k0 k1 => u_Mo_measureAll_2 X H ha k0 k1) nf _ b eb ?_
  obtain rfl := Option.some.inj h
  exact z_vret X H.1 H.2.1 H.2.2.1 dd_Mo_measureAll_51
set_option maxRecDepth 100000 in
set_option maxHeartbeats 4000000 in
theorem c_Mo_measureAll (l : Launch) {nf : Nat} {a0 : Nat} {c : Zc} {res : Zc} (h : f_Mo_measureAll nf a0 c = some res) : zM l yy_Mo_measureAll ww_Mo_measureAll 2 55 0 0 [.ref a0] c (fun D cid B => zQv D cid B res c.length 0) := by
  refine z_met (cc := bb_Mo_measureAll) (maxL := 3) (ret := none) (by decide +kernel) rfl (Nat.le_of_ble_eq_true rfl) ?_
  intro p e s m args below meth cd D cid B X h1 h2 h3 h4
  have X : zX p s m args cd D cid B bb_Mo_measureAll 3 rr_Mo zT := X
  have H : zH s meth B c.length none "measureAll" := ⟨h1, h2, h4, h3⟩
  unfold f_Mo_measureAll at h
  show Zz p l e (zRm 2 55 0 0) s m args below meth cd _ D cid B 3 0 0 c 0 [(0, .ref a0)] []
  refine z_iconst (v := 0) X dd_Mo_measureAll_0 (by decide) ?_
  refine z_istore_n (lv' := [(1, .int 0), (0, .ref a0)]) X dd_Mo_measureAll_1 rfl (by decide) rfl ?_
  refine z_sub [1, 0] rfl ?_
  exact t_Mo_measureAll_2 X H h
theorem dd_Mo_distance_0 : decode bb_Mo_distance 0 = .ok (.aload_n 0, 1) := by decide +kernel
theorem dd_Mo_distance_1 : decode bb_Mo_distance 1 = .ok (.getfield 179, 3) := by decide +kernel
theorem dd_Mo_distance_4 : decode bb_Mo_distance 4 = .ok (.sipush 256, 3) := by decide +kernel
theorem dd_Mo_distance_7 : decode bb_Mo_distance 7 = .ok (.iload_n 1, 1) := by decide +kernel
theorem dd_Mo_distance_8 : decode bb_Mo_distance 8 = .ok (.bipush 11, 2) := by decide +kernel
theorem dd_Mo_distance_10 : decode bb_Mo_distance 10 = .ok (.irem, 1) := by decide +kernel
theorem dd_Mo_distance_11 : decode bb_Mo_distance 11 = .ok (.imul, 1) := by decide +kernel
theorem dd_Mo_distance_12 : decode bb_Mo_distance 12 = .ok (.bipush 16, 2) := by decide +kernel
theorem dd_Mo_distance_14 : decode bb_Mo_distance 14 = .ok (.aload_n 0, 1) := by decide +kernel
theorem dd_Mo_distance_15 : decode bb_Mo_distance 15 = .ok (.getfield 191, 3) := by decide +kernel
theorem dd_Mo_distance_18 : decode bb_Mo_distance 18 = .ok (.aload_n 0, 1) := by decide +kernel
theorem dd_Mo_distance_19 : decode bb_Mo_distance 19 = .ok (.getfield 86, 3) := by decide +kernel
theorem dd_Mo_distance_22 : decode bb_Mo_distance 22 = .ok (.iload_n 1, 1) := by decide +kernel
theorem dd_Mo_distance_23 : decode bb_Mo_distance 23 = .ok (.iaload, 1) := by decide +kernel
theorem dd_Mo_distance_24 : decode bb_Mo_distance 24 = .ok (.iaload, 1) := by decide +kernel
theorem dd_Mo_distance_25 : decode bb_Mo_distance 25 = .ok (.imul, 1) := by decide +kernel
theorem dd_Mo_distance_26 : decode bb_Mo_distance 26 = .ok (.iadd, 1) := by decide +kernel
theorem dd_Mo_distance_27 : decode bb_Mo_distance 27 = .ok (.aload_n 0, 1) := by decide +kernel
theorem dd_Mo_distance_28 : decode bb_Mo_distance 28 = .ok (.getfield 191, 3) := by decide +kernel
theorem dd_Mo_distance_31 : decode bb_Mo_distance 31 = .ok (.aload_n 0, 1) := by decide +kernel
theorem dd_Mo_distance_32 : decode bb_Mo_distance 32 = .ok (.getfield 89, 3) := by decide +kernel
theorem dd_Mo_distance_35 : decode bb_Mo_distance 35 = .ok (.iload_n 1, 1) := by decide +kernel
theorem dd_Mo_distance_36 : decode bb_Mo_distance 36 = .ok (.iaload, 1) := by decide +kernel
theorem dd_Mo_distance_37 : decode bb_Mo_distance 37 = .ok (.iaload, 1) := by decide +kernel
theorem dd_Mo_distance_38 : decode bb_Mo_distance 38 = .ok (.iadd, 1) := by decide +kernel
theorem dd_Mo_distance_39 : decode bb_Mo_distance 39 = .ok (.iaload, 1) := by decide +kernel
theorem dd_Mo_distance_40 : decode bb_Mo_distance 40 = .ok (.ireturn, 1) := by decide +kernel
set_option maxRecDepth 100000 in
set_option maxHeartbeats 4000000 in
theorem c_Mo_distance (l : Launch) {nf : Nat} {a0 : Nat} {a1 : Int32} {c : Zc} {res : Int32 × Zc} (h : f_Mo_distance nf a0 a1 c = some res) : zM l yy_Mo_distance ww_Mo_distance 0 0 0 0 [.ref a0, .int a1] c (fun D cid B => zQi D cid B res.1 res.2 c.length 0) := by
  refine z_met (cc := bb_Mo_distance) (maxL := 2) (ret := (some (.int))) (by decide +kernel) rfl (Nat.le_of_ble_eq_true rfl) ?_
  intro p e s m args below meth cd D cid B X h1 h2 h3 h4
  have X : zX p s m args cd D cid B bb_Mo_distance 2 rr_Mo zT := X
  have H : zH s meth B c.length (some (.int)) "distance" := ⟨h1, h2, h4, h3⟩
  unfold f_Mo_distance at h
  show Zz p l e (zRm 0 0 0 0) s m args below meth cd _ D cid B 2 0 0 c 0 [(0, .ref a0), (1, .int a1)] []
  refine z_aload_n X dd_Mo_distance_0 rfl 0 rfl ?_
  obtain ⟨v1, ev1, h⟩ := zb h
  refine z_get (j := 70) X dd_Mo_distance_1 kc_12 ki_12 (by decide) km_1591 (zgr_v ev1) ?_
  refine z_sipush (v := 256) X dd_Mo_distance_4 (by decide) ?_
  refine z_iload_n X dd_Mo_distance_7 rfl 1 rfl ?_
  refine z_bipush (v := 11) X dd_Mo_distance_8 (by decide) ?_
  refine z_irem X dd_Mo_distance_10 (by decide) ?_
  refine z_imul X dd_Mo_distance_11 ?_
  refine z_bipush (v := 16) X dd_Mo_distance_12 (by decide) ?_
  refine z_aload_n X dd_Mo_distance_14 rfl 0 rfl ?_
  obtain ⟨v3, ev3, h⟩ := zb h
  refine z_get (j := 74) X dd_Mo_distance_15 kc_12 ki_12 (by decide) km_1595 (zgr_v ev3) ?_
  refine z_aload_n X dd_Mo_distance_18 rfl 0 rfl ?_
  obtain ⟨v4, ev4, h⟩ := zb h
  refine z_get (j := 33) X dd_Mo_distance_19 kc_12 ki_12 (by decide) km_1554 (zgr_v ev4) ?_
  refine z_iload_n X dd_Mo_distance_22 rfl 1 rfl ?_
  obtain ⟨v5, ev5, h⟩ := zb h
  refine z_iaload X dd_Mo_distance_23 rfl ev5 ?_
  obtain ⟨v6, ev6, h⟩ := zb h
  refine z_iaload X dd_Mo_distance_24 rfl ev6 ?_
  refine z_imul X dd_Mo_distance_25 ?_
  refine z_iadd X dd_Mo_distance_26 ?_
  refine z_aload_n X dd_Mo_distance_27 rfl 0 rfl ?_
  obtain ⟨v7, ev7, h⟩ := zb h
  refine z_get (j := 74) X dd_Mo_distance_28 kc_12 ki_12 (by decide) km_1595 (zgr_v ev7) ?_
  refine z_aload_n X dd_Mo_distance_31 rfl 0 rfl ?_
  obtain ⟨v8, ev8, h⟩ := zb h
  refine z_get (j := 34) X dd_Mo_distance_32 kc_12 ki_12 (by decide) km_1555 (zgr_v ev8) ?_
  refine z_iload_n X dd_Mo_distance_35 rfl 1 rfl ?_
  obtain ⟨v9, ev9, h⟩ := zb h
  refine z_iaload X dd_Mo_distance_36 rfl ev9 ?_
  obtain ⟨v10, ev10, h⟩ := zb h
  refine z_iaload X dd_Mo_distance_37 rfl ev10 ?_
  refine z_iadd X dd_Mo_distance_38 ?_
  obtain ⟨v11, ev11, h⟩ := zb h
  refine z_iaload X dd_Mo_distance_39 rfl ev11 ?_
  obtain rfl := Option.some.inj h
  exact z_iret X H.1 H.2.1 H.2.2.1 dd_Mo_distance_40
theorem dd_Mo_workOf_0 : decode bb_Mo_workOf 0 = .ok (.lconst 1, 1) := by decide +kernel
theorem dd_Mo_workOf_1 : decode bb_Mo_workOf 1 = .ok (.lstore_n 2, 1) := by decide +kernel
theorem dd_Mo_workOf_2 : decode bb_Mo_workOf 2 = .ok (.iconst 0, 1) := by decide +kernel
theorem dd_Mo_workOf_3 : decode bb_Mo_workOf 3 = .ok (.istore 4, 2) := by decide +kernel
theorem dd_Mo_workOf_5 : decode bb_Mo_workOf 5 = .ok (.iload 4, 2) := by decide +kernel
theorem dd_Mo_workOf_7 : decode bb_Mo_workOf 7 = .ok (.aload_n 0, 1) := by decide +kernel
theorem dd_Mo_workOf_8 : decode bb_Mo_workOf 8 = .ok (.getfield 65, 3) := by decide +kernel
theorem dd_Mo_workOf_11 : decode bb_Mo_workOf 11 = .ok (.iload_n 1, 1) := by decide +kernel
theorem dd_Mo_workOf_12 : decode bb_Mo_workOf 12 = .ok (.iaload, 1) := by decide +kernel
theorem dd_Mo_workOf_13 : decode bb_Mo_workOf 13 = .ok (.if_icmp .ge 17, 3) := by decide +kernel
theorem dd_Mo_workOf_16 : decode bb_Mo_workOf 16 = .ok (.lload_n 2, 1) := by decide +kernel
theorem dd_Mo_workOf_17 : decode bb_Mo_workOf 17 = .ok (.aload_n 0, 1) := by decide +kernel
theorem dd_Mo_workOf_18 : decode bb_Mo_workOf 18 = .ok (.getfield 450, 3) := by decide +kernel
theorem dd_Mo_workOf_21 : decode bb_Mo_workOf 21 = .ok (.i2l, 1) := by decide +kernel
theorem dd_Mo_workOf_22 : decode bb_Mo_workOf 22 = .ok (.lmul, 1) := by decide +kernel
theorem dd_Mo_workOf_23 : decode bb_Mo_workOf 23 = .ok (.lstore_n 2, 1) := by decide +kernel
theorem dd_Mo_workOf_24 : decode bb_Mo_workOf 24 = .ok (.iinc 4 1, 3) := by decide +kernel
theorem dd_Mo_workOf_27 : decode bb_Mo_workOf 27 = .ok (.goto (-22), 3) := by decide +kernel
theorem dd_Mo_workOf_30 : decode bb_Mo_workOf 30 = .ok (.lload_n 2, 1) := by decide +kernel
theorem dd_Mo_workOf_31 : decode bb_Mo_workOf 31 = .ok (.lreturn, 1) := by decide +kernel
set_option maxRecDepth 100000 in
set_option maxHeartbeats 4000000 in
theorem u_Mo_workOf_5  (X : zX p s m args cd D cid B bb_Mo_workOf 5 rr_Mo zT) (H : zH s meth B n0 (some (.long)) "workOf") {nf : Nat} {x0 : Nat} {x1 : Int32} {x2 : Int64} {x4 : Int32} {c : Zc} {r : (Nat × Int32 × Int64 × Int32 × Zc) ⊕ (Int64 × Zc)} (h : g_Mo_workOf_5 nf x0 x1 x2 x4 c = some r) (k0 : ∀ a, r = .inl a → (fun a : Nat × Int32 × Int64 × Int32 × Zc => Zz p l e (zRm 0 0 0 0) s m args below meth cd Q D cid B 5 0 0 a.2.2.2.2 5 [(0, .ref a.1), (1, .int a.2.1), (2, .long a.2.2.1), (4, .int a.2.2.2.1)] []) a) (k1 : ∀ b, r = .inr b → (fun b : Int64 × Zc => Zz p l e (zRm 0 0 0 0) s m args below meth cd Q D cid B 5 0 0 b.2 30 [(2, .long b.1)] []) b) : Zz p l e (zRm 0 0 0 0) s m args below meth cd Q D cid B 5 0 0 c 5 [(0, .ref x0), (1, .int x1), (2, .long x2), (4, .int x4)] [] := by
  unfold g_Mo_workOf_5 at h
  refine z_iload X dd_Mo_workOf_5 3 rfl ?_
  refine z_aload_n X dd_Mo_workOf_7 rfl 0 rfl ?_
  obtain ⟨v1, ev1, h⟩ := zb h
  refine z_get (j := 26) X dd_Mo_workOf_8 kc_12 ki_12 (by decide) km_1547 (zgr_v ev1) ?_
  refine z_iload_n X dd_Mo_workOf_11 rfl 1 rfl ?_
  obtain ⟨v2, ev2, h⟩ := zb h
  refine z_iaload X dd_Mo_workOf_12 rfl ev2 ?_
  refine z_icmp_ge (tgt := 30) X dd_Mo_workOf_13 (by decide) (fun q3 => ?_) (fun q3 => ?_)
  · rw [if_pos q3] at h
    refine z_sub [2] rfl ?_
    obtain rfl := Option.some.inj h
    exact k1 _ rfl
  · rw [if_neg q3] at h
    refine z_lload_n X dd_Mo_workOf_16 rfl 2 rfl ?_
    refine z_aload_n X dd_Mo_workOf_17 rfl 0 rfl ?_
    obtain ⟨v4, ev4, h⟩ := zb h
    refine z_get (j := 0) X dd_Mo_workOf_18 kc_12 ki_12 (by decide) km_1521 (zgi_v ev4) ?_
    refine z_i2l X dd_Mo_workOf_21 ?_
    refine z_lmul X dd_Mo_workOf_22 ?_
    refine z_lstore_n (lv' := [(2, .long (x2 * (Int32.toInt64 v4))), (0, .ref x0), (1, .int x1), (4, .int x4)]) X dd_Mo_workOf_23 rfl (by decide) rfl ?_
    refine z_iinc (v := (x4 + 1)) (lv' := [(4, .int (x4 + 1)), (2, .long (x2 * (Int32.toInt64 v4))), (0, .ref x0), (1, .int x1)]) X dd_Mo_workOf_24 3 rfl rfl (by decide) rfl ?_
    refine z_goto (tgt := 5) X dd_Mo_workOf_27 (by decide) ?_
    refine z_sub [2, 3, 1, 0] rfl ?_
    obtain rfl := Option.some.inj h
    exact k0 _ rfl
set_option maxRecDepth 100000 in
set_option maxHeartbeats 4000000 in
theorem t_Mo_workOf_5  (X : zX p s m args cd D cid B bb_Mo_workOf 5 rr_Mo zT) (H : zH s meth B n0 (some (.long)) "workOf") {nf : Nat} {x0 : Nat} {x1 : Int32} {x2 : Int64} {x4 : Int32} {c : Zc} {res : Int64 × Zc} (h : f_Mo_workOf_5 nf x0 x1 x2 x4 c = some res) : Zz p l e (zRm 0 0 0 0) s m args below meth cd (MQ below (zQl D cid B res.1 res.2 n0 0) args s 0 0 (fun q => B ≤ q)) D cid B 5 0 0 c 5 [(0, .ref x0), (1, .int x1), (2, .long x2), (4, .int x4)] [] := by
  unfold f_Mo_workOf_5 at h
  obtain ⟨b, eb, h⟩ := zb h
  refine zlp_ok (P := fun a : Nat × Int32 × Int64 × Int32 × Zc => Zz p l e (zRm 0 0 0 0) s m args below meth cd _ D cid B 5 0 0 a.2.2.2.2 5 [(0, .ref a.1), (1, .int a.2.1), (2, .long a.2.2.1), (4, .int a.2.2.2.1)] []) (G := fun b : Int64 × Zc => Zz p l e (zRm 0 0 0 0) s m args below meth cd _ D cid B 5 0 0 b.2 30 [(2, .long b.1)] []) (fun a r ha k0 k1 => u_Mo_workOf_5 X H ha k0 k1) nf _ b eb ?_
  refine z_lload_n X dd_Mo_workOf_30 rfl 0 rfl ?_
  obtain rfl := Option.some.inj h
  exact z_lret X H.1 H.2.1 H.2.2.1 dd_Mo_workOf_31
set_option maxRecDepth 100000 in
set_option maxHeartbeats 4000000 in
theorem c_Mo_workOf (l : Launch) {nf : Nat} {a0 : Nat} {a1 : Int32} {c : Zc} {res : Int64 × Zc} (h : f_Mo_workOf nf a0 a1 c = some res) : zM l yy_Mo_workOf ww_Mo_workOf 0 0 0 0 [.ref a0, .int a1] c (fun D cid B => zQl D cid B res.1 res.2 c.length 0) := by
  refine z_met (cc := bb_Mo_workOf) (maxL := 5) (ret := (some (.long))) (by decide +kernel) rfl (Nat.le_of_ble_eq_true rfl) ?_
  intro p e s m args below meth cd D cid B X h1 h2 h3 h4
  have X : zX p s m args cd D cid B bb_Mo_workOf 5 rr_Mo zT := X
  have H : zH s meth B c.length (some (.long)) "workOf" := ⟨h1, h2, h4, h3⟩
  unfold f_Mo_workOf at h
  show Zz p l e (zRm 0 0 0 0) s m args below meth cd _ D cid B 5 0 0 c 0 [(0, .ref a0), (1, .int a1)] []
  refine z_lconst (v := 1) X dd_Mo_workOf_0 (by decide) ?_
  refine z_lstore_n (lv' := [(2, .long 1), (0, .ref a0), (1, .int a1)]) X dd_Mo_workOf_1 rfl (by decide) rfl ?_
  refine z_iconst (v := 0) X dd_Mo_workOf_2 (by decide) ?_
  refine z_istore (lv' := [(4, .int 0), (2, .long 1), (0, .ref a0), (1, .int a1)]) X dd_Mo_workOf_3 (by decide) rfl ?_
  refine z_sub [2, 3, 1, 0] rfl ?_
  exact t_Mo_workOf_5 X H h
theorem dd_Mo_goesOn_0 : decode bb_Mo_goesOn 0 = .ok (.aload_n 0, 1) := by decide +kernel
theorem dd_Mo_goesOn_1 : decode bb_Mo_goesOn 1 = .ok (.getfield 65, 3) := by decide +kernel
theorem dd_Mo_goesOn_4 : decode bb_Mo_goesOn 4 = .ok (.aload_n 0, 1) := by decide +kernel
theorem dd_Mo_goesOn_5 : decode bb_Mo_goesOn 5 = .ok (.getfield 331, 3) := by decide +kernel
theorem dd_Mo_goesOn_8 : decode bb_Mo_goesOn 8 = .ok (.iaload, 1) := by decide +kernel
theorem dd_Mo_goesOn_9 : decode bb_Mo_goesOn 9 = .ok (.iconst 1, 1) := by decide +kernel
theorem dd_Mo_goesOn_10 : decode bb_Mo_goesOn 10 = .ok (.isub, 1) := by decide +kernel
theorem dd_Mo_goesOn_11 : decode bb_Mo_goesOn 11 = .ok (.istore_n 2, 1) := by decide +kernel
theorem dd_Mo_goesOn_12 : decode bb_Mo_goesOn 12 = .ok (.iload_n 2, 1) := by decide +kernel
theorem dd_Mo_goesOn_13 : decode bb_Mo_goesOn 13 = .ok (.ifCond .lt 59, 3) := by decide +kernel
theorem dd_Mo_goesOn_16 : decode bb_Mo_goesOn 16 = .ok (.aload_n 0, 1) := by decide +kernel
theorem dd_Mo_goesOn_17 : decode bb_Mo_goesOn 17 = .ok (.getfield 74, 3) := by decide +kernel
theorem dd_Mo_goesOn_20 : decode bb_Mo_goesOn 20 = .ok (.bipush 8, 2) := by decide +kernel
theorem dd_Mo_goesOn_22 : decode bb_Mo_goesOn 22 = .ok (.aload_n 0, 1) := by decide +kernel
theorem dd_Mo_goesOn_23 : decode bb_Mo_goesOn 23 = .ok (.getfield 331, 3) := by decide +kernel
theorem dd_Mo_goesOn_26 : decode bb_Mo_goesOn 26 = .ok (.imul, 1) := by decide +kernel
theorem dd_Mo_goesOn_27 : decode bb_Mo_goesOn 27 = .ok (.iload_n 2, 1) := by decide +kernel
theorem dd_Mo_goesOn_28 : decode bb_Mo_goesOn 28 = .ok (.iadd, 1) := by decide +kernel
theorem dd_Mo_goesOn_29 : decode bb_Mo_goesOn 29 = .ok (.iaload, 1) := by decide +kernel
theorem dd_Mo_goesOn_30 : decode bb_Mo_goesOn 30 = .ok (.iload_n 1, 1) := by decide +kernel
theorem dd_Mo_goesOn_31 : decode bb_Mo_goesOn 31 = .ok (.if_icmp .ne 35, 3) := by decide +kernel
theorem dd_Mo_goesOn_34 : decode bb_Mo_goesOn 34 = .ok (.aload_n 0, 1) := by decide +kernel
theorem dd_Mo_goesOn_35 : decode bb_Mo_goesOn 35 = .ok (.getfield 191, 3) := by decide +kernel
theorem dd_Mo_goesOn_38 : decode bb_Mo_goesOn 38 = .ok (.iload_n 2, 1) := by decide +kernel
theorem dd_Mo_goesOn_39 : decode bb_Mo_goesOn 39 = .ok (.dup2, 1) := by decide +kernel
theorem dd_Mo_goesOn_40 : decode bb_Mo_goesOn 40 = .ok (.iaload, 1) := by decide +kernel
theorem dd_Mo_goesOn_41 : decode bb_Mo_goesOn 41 = .ok (.iconst 1, 1) := by decide +kernel
theorem dd_Mo_goesOn_42 : decode bb_Mo_goesOn 42 = .ok (.iadd, 1) := by decide +kernel
theorem dd_Mo_goesOn_43 : decode bb_Mo_goesOn 43 = .ok (.iastore, 1) := by decide +kernel
theorem dd_Mo_goesOn_44 : decode bb_Mo_goesOn 44 = .ok (.aload_n 0, 1) := by decide +kernel
theorem dd_Mo_goesOn_45 : decode bb_Mo_goesOn 45 = .ok (.getfield 191, 3) := by decide +kernel
theorem dd_Mo_goesOn_48 : decode bb_Mo_goesOn 48 = .ok (.iload_n 2, 1) := by decide +kernel
theorem dd_Mo_goesOn_49 : decode bb_Mo_goesOn 49 = .ok (.iaload, 1) := by decide +kernel
theorem dd_Mo_goesOn_50 : decode bb_Mo_goesOn 50 = .ok (.aload_n 0, 1) := by decide +kernel
theorem dd_Mo_goesOn_51 : decode bb_Mo_goesOn 51 = .ok (.getfield 450, 3) := by decide +kernel
theorem dd_Mo_goesOn_54 : decode bb_Mo_goesOn 54 = .ok (.if_icmp .ge 5, 3) := by decide +kernel
theorem dd_Mo_goesOn_57 : decode bb_Mo_goesOn 57 = .ok (.iconst 1, 1) := by decide +kernel
theorem dd_Mo_goesOn_58 : decode bb_Mo_goesOn 58 = .ok (.ireturn, 1) := by decide +kernel
theorem dd_Mo_goesOn_59 : decode bb_Mo_goesOn 59 = .ok (.aload_n 0, 1) := by decide +kernel
theorem dd_Mo_goesOn_60 : decode bb_Mo_goesOn 60 = .ok (.getfield 191, 3) := by decide +kernel
theorem dd_Mo_goesOn_63 : decode bb_Mo_goesOn 63 = .ok (.iload_n 2, 1) := by decide +kernel
theorem dd_Mo_goesOn_64 : decode bb_Mo_goesOn 64 = .ok (.iconst 0, 1) := by decide +kernel
theorem dd_Mo_goesOn_65 : decode bb_Mo_goesOn 65 = .ok (.iastore, 1) := by decide +kernel
theorem dd_Mo_goesOn_66 : decode bb_Mo_goesOn 66 = .ok (.iinc 2 (-1), 3) := by decide +kernel
theorem dd_Mo_goesOn_69 : decode bb_Mo_goesOn 69 = .ok (.goto (-57), 3) := by decide +kernel
theorem dd_Mo_goesOn_72 : decode bb_Mo_goesOn 72 = .ok (.iconst 0, 1) := by decide +kernel
theorem dd_Mo_goesOn_73 : decode bb_Mo_goesOn 73 = .ok (.ireturn, 1) := by decide +kernel
set_option maxRecDepth 100000 in
set_option maxHeartbeats 4000000 in
theorem t_Mo_goesOn_66  (X : zX p s m args cd D cid B bb_Mo_goesOn 3 rr_Mo zT) (H : zH s meth B n0 (some (.boolean)) "goesOn") {nf : Nat} {x0 : Nat} {x1 : Int32} {x2 : Int32} {c : Zc} {r : (Nat × Int32 × Int32 × Zc) ⊕ ((Zc) ⊕ (Zc))} (h : f_Mo_goesOn_66 nf x0 x1 x2 c = some r) (k0 : ∀ a, r = .inl a → (fun a : Nat × Int32 × Int32 × Zc => Zz p l e (zRm 0 0 0 0) s m args below meth cd Q D cid B 3 0 0 a.2.2.2 12 [(0, .ref a.1), (1, .int a.2.1), (2, .int a.2.2.1)] []) a) (k1 : ∀ b, r = .inr b → (fun b : (Zc) ⊕ (Zc) => Sum.elim (fun b => Zz p l e (zRm 0 0 0 0) s m args below meth cd Q D cid B 3 0 0 b 57 [] []) (fun b => Zz p l e (zRm 0 0 0 0) s m args below meth cd Q D cid B 3 0 0 b 72 [] []) b) b) : Zz p l e (zRm 0 0 0 0) s m args below meth cd Q D cid B 3 0 0 c 66 [(0, .ref x0), (1, .int x1), (2, .int x2)] [] := by
  unfold f_Mo_goesOn_66 at h
  refine z_iinc (v := (x2 + (-1))) (lv' := [(2, .int (x2 + (-1))), (0, .ref x0), (1, .int x1)]) X dd_Mo_goesOn_66 2 rfl rfl (by decide) rfl ?_
  refine z_goto (tgt := 12) X dd_Mo_goesOn_69 (by decide) ?_
  refine z_sub [1, 2, 0] rfl ?_
  obtain rfl := Option.some.inj h
  exact k0 _ rfl
set_option maxRecDepth 100000 in
set_option maxHeartbeats 4000000 in
theorem u_Mo_goesOn_12  (X : zX p s m args cd D cid B bb_Mo_goesOn 3 rr_Mo zT) (H : zH s meth B n0 (some (.boolean)) "goesOn") {nf : Nat} {x0 : Nat} {x1 : Int32} {x2 : Int32} {c : Zc} {r : (Nat × Int32 × Int32 × Zc) ⊕ ((Zc) ⊕ (Zc))} (h : g_Mo_goesOn_12 nf x0 x1 x2 c = some r) (k0 : ∀ a, r = .inl a → (fun a : Nat × Int32 × Int32 × Zc => Zz p l e (zRm 0 0 0 0) s m args below meth cd Q D cid B 3 0 0 a.2.2.2 12 [(0, .ref a.1), (1, .int a.2.1), (2, .int a.2.2.1)] []) a) (k1 : ∀ b, r = .inr b → (fun b : (Zc) ⊕ (Zc) => Sum.elim (fun b => Zz p l e (zRm 0 0 0 0) s m args below meth cd Q D cid B 3 0 0 b 57 [] []) (fun b => Zz p l e (zRm 0 0 0 0) s m args below meth cd Q D cid B 3 0 0 b 72 [] []) b) b) : Zz p l e (zRm 0 0 0 0) s m args below meth cd Q D cid B 3 0 0 c 12 [(0, .ref x0), (1, .int x1), (2, .int x2)] [] := by
  unfold g_Mo_goesOn_12 at h
  refine z_iload_n X dd_Mo_goesOn_12 rfl 2 rfl ?_
  refine z_if_lt (tgt := 72) X dd_Mo_goesOn_13 (by decide) (fun q4 => ?_) (fun q4 => ?_)
  · rw [if_pos q4] at h
    refine z_sub [] rfl ?_
    obtain rfl := Option.some.inj h
    exact k1 _ rfl
  · rw [if_neg q4] at h
    refine z_aload_n X dd_Mo_goesOn_16 rfl 0 rfl ?_
    obtain ⟨v5, ev5, h⟩ := zb h
    refine z_get (j := 29) X dd_Mo_goesOn_17 kc_12 ki_12 (by decide) km_1550 (zgr_v ev5) ?_
    refine z_bipush (v := 8) X dd_Mo_goesOn_20 (by decide) ?_
    refine z_aload_n X dd_Mo_goesOn_22 rfl 0 rfl ?_
    obtain ⟨v6, ev6, h⟩ := zb h
    refine z_get (j := 25) X dd_Mo_goesOn_23 kc_12 ki_12 (by decide) km_1546 (zgi_v ev6) ?_
    refine z_imul X dd_Mo_goesOn_26 ?_
    refine z_iload_n X dd_Mo_goesOn_27 rfl 2 rfl ?_
    refine z_iadd X dd_Mo_goesOn_28 ?_
    obtain ⟨v7, ev7, h⟩ := zb h
    refine z_iaload X dd_Mo_goesOn_29 rfl ev7 ?_
    refine z_iload_n X dd_Mo_goesOn_30 rfl 1 rfl ?_
    refine z_icmp_ne (tgt := 66) X dd_Mo_goesOn_31 (by decide) (fun q8 => ?_) (fun q8 => ?_)
    · rw [if_neg q8] at h
      exact t_Mo_goesOn_66 X H h k0 k1
    · rw [if_pos q8] at h
      refine z_aload_n X dd_Mo_goesOn_34 rfl 0 rfl ?_
      obtain ⟨v9, ev9, h⟩ := zb h
      refine z_get (j := 74) X dd_Mo_goesOn_35 kc_12 ki_12 (by decide) km_1595 (zgr_v ev9) ?_
      refine z_iload_n X dd_Mo_goesOn_38 rfl 2 rfl ?_
      refine z_dup2_11 X dd_Mo_goesOn_39 rfl rfl ?_
      obtain ⟨v10, ev10, h⟩ := zb h
      refine z_iaload X dd_Mo_goesOn_40 rfl ev10 ?_
      refine z_iconst (v := 1) X dd_Mo_goesOn_41 (by decide) ?_
      refine z_iadd X dd_Mo_goesOn_42 ?_
      obtain ⟨c11, ec11, h⟩ := zb h
      refine z_iastore X dd_Mo_goesOn_43 rfl ec11 ?_
      refine z_aload_n X dd_Mo_goesOn_44 rfl 0 rfl ?_
      obtain ⟨v12, ev12, h⟩ := zb h
      refine z_get (j := 74) X dd_Mo_goesOn_45 kc_12 ki_12 (by decide) km_1595 (zgr_v ev12) ?_
      refine z_iload_n X dd_Mo_goesOn_48 rfl 2 rfl ?_
      obtain ⟨v13, ev13, h⟩ := zb h
      refine z_iaload X dd_Mo_goesOn_49 rfl ev13 ?_
      refine z_aload_n X dd_Mo_goesOn_50 rfl 0 rfl ?_
      obtain ⟨v14, ev14, h⟩ := zb h
      refine z_get (j := 0) X dd_Mo_goesOn_51 kc_12 ki_12 (by decide) km_1521 (zgi_v ev14) ?_
      refine z_icmp_ge (tgt := 59) X dd_Mo_goesOn_54 (by decide) (fun q15 => ?_) (fun q15 => ?_)
      · rw [if_pos q15] at h
        refine z_aload_n X dd_Mo_goesOn_59 rfl 0 rfl ?_
        obtain ⟨v16, ev16, h⟩ := zb h
        refine z_get (j := 74) X dd_Mo_goesOn_60 kc_12 ki_12 (by decide) km_1595 (zgr_v ev16) ?_
        refine z_iload_n X dd_Mo_goesOn_63 rfl 2 rfl ?_
        refine z_iconst (v := 0) X dd_Mo_goesOn_64 (by decide) ?_
        obtain ⟨c17, ec17, h⟩ := zb h
        refine z_iastore X dd_Mo_goesOn_65 rfl ec17 ?_
        exact t_Mo_goesOn_66 X H h k0 k1
      · rw [if_neg q15] at h
        refine z_sub [] rfl ?_
        obtain rfl := Option.some.inj h
        exact k1 _ rfl
set_option maxRecDepth 100000 in
set_option maxHeartbeats 4000000 in
theorem t_Mo_goesOn_12  (X : zX p s m args cd D cid B bb_Mo_goesOn 3 rr_Mo zT) (H : zH s meth B n0 (some (.boolean)) "goesOn") {nf : Nat} {x0 : Nat} {x1 : Int32} {x2 : Int32} {c : Zc} {res : Int32 × Zc} (h : f_Mo_goesOn_12 nf x0 x1 x2 c = some res) : Zz p l e (zRm 0 0 0 0) s m args below meth cd (MQ below (zQi D cid B res.1 res.2 n0 0) args s 0 0 (fun q => B ≤ q)) D cid B 3 0 0 c 12 [(0, .ref x0), (1, .int x1), (2, .int x2)] [] := by
  unfold f_Mo_goesOn_12 at h
  obtain ⟨b, eb, h⟩ := zb h
  refine zlp_ok (P := fun a : Nat × Int32 × Int32 × Zc => Zz p l e (zRm 0 0 0 0) s m args below meth cd _ D cid B 3 0 0 a.2.2.2 12 [(0, .ref a.1), (1, .int a.2.1), (2, .int a.2.2.1)] []) (G := fun b : (Zc) ⊕ (Zc) => Sum.elim (fun b => Zz p l e (zRm 0 0 0 0) s m args below meth cd _ D cid B 3 0 0 b 57 [] []) (fun b => Zz p l e (zRm 0 0 0 0) s m args below meth cd _ D cid B 3 0 0 b 72 [] []) b) (fun a r ha k0 k1 => u_Mo_goesOn_12 X H ha k0 k1) nf _ b eb ?_
  rcases b with b | b
  · simp only [Sum.elim_inl] at h ⊢
    refine z_iconst (v := 1) X dd_Mo_goesOn_57 (by decide) ?_
    obtain ⟨hz, h⟩ := zrz_s h
    obtain rfl := h
    exact z_zret X H.1 (zn_z hz) H.2.1 H.2.2.1 dd_Mo_goesOn_58
  · simp only [Sum.elim_inr] at h ⊢
    refine z_iconst (v := 0) X dd_Mo_goesOn_72 (by decide) ?_
    obtain ⟨hz, h⟩ := zrz_s h
    obtain rfl := h
    exact z_zret X H.1 (zn_z hz) H.2.1 H.2.2.1 dd_Mo_goesOn_73
set_option maxRecDepth 100000 in
set_option maxHeartbeats 4000000 in
theorem c_Mo_goesOn (l : Launch) {nf : Nat} {a0 : Nat} {a1 : Int32} {c : Zc} {res : Int32 × Zc} (h : f_Mo_goesOn nf a0 a1 c = some res) : zM l yy_Mo_goesOn ww_Mo_goesOn 0 0 0 0 [.ref a0, .int a1] c (fun D cid B => zQi D cid B res.1 res.2 c.length 0) := by
  refine z_met (cc := bb_Mo_goesOn) (maxL := 3) (ret := (some (.boolean))) (by decide +kernel) rfl (Nat.le_of_ble_eq_true rfl) ?_
  intro p e s m args below meth cd D cid B X h1 h2 h3 h4
  have X : zX p s m args cd D cid B bb_Mo_goesOn 3 rr_Mo zT := X
  have H : zH s meth B c.length (some (.boolean)) "goesOn" := ⟨h1, h2, h4, h3⟩
  unfold f_Mo_goesOn at h
  show Zz p l e (zRm 0 0 0 0) s m args below meth cd _ D cid B 3 0 0 c 0 [(0, .ref a0), (1, .int a1)] []
  refine z_aload_n X dd_Mo_goesOn_0 rfl 0 rfl ?_
  obtain ⟨v1, ev1, h⟩ := zb h
  refine z_get (j := 26) X dd_Mo_goesOn_1 kc_12 ki_12 (by decide) km_1547 (zgr_v ev1) ?_
  refine z_aload_n X dd_Mo_goesOn_4 rfl 0 rfl ?_
  obtain ⟨v2, ev2, h⟩ := zb h
  refine z_get (j := 25) X dd_Mo_goesOn_5 kc_12 ki_12 (by decide) km_1546 (zgi_v ev2) ?_
  obtain ⟨v3, ev3, h⟩ := zb h
  refine z_iaload X dd_Mo_goesOn_8 rfl ev3 ?_
  refine z_iconst (v := 1) X dd_Mo_goesOn_9 (by decide) ?_
  refine z_isub X dd_Mo_goesOn_10 ?_
  refine z_istore_n (lv' := [(2, .int (v3 - 1)), (0, .ref a0), (1, .int a1)]) X dd_Mo_goesOn_11 rfl (by decide) rfl ?_
  refine z_sub [1, 2, 0] rfl ?_
  exact t_Mo_goesOn_12 X H h
theorem dd_Mo_fits_0 : decode bb_Mo_fits 0 = .ok (.iconst 1, 1) := by decide +kernel
theorem dd_Mo_fits_1 : decode bb_Mo_fits 1 = .ok (.istore_n 2, 1) := by decide +kernel
theorem dd_Mo_fits_2 : decode bb_Mo_fits 2 = .ok (.iconst 0, 1) := by decide +kernel
theorem dd_Mo_fits_3 : decode bb_Mo_fits 3 = .ok (.istore_n 3, 1) := by decide +kernel
theorem dd_Mo_fits_4 : decode bb_Mo_fits 4 = .ok (.iload_n 3, 1) := by decide +kernel
theorem dd_Mo_fits_5 : decode bb_Mo_fits 5 = .ok (.aload_n 0, 1) := by decide +kernel
theorem dd_Mo_fits_6 : decode bb_Mo_fits 6 = .ok (.getfield 65, 3) := by decide +kernel
theorem dd_Mo_fits_9 : decode bb_Mo_fits 9 = .ok (.aload_n 0, 1) := by decide +kernel
theorem dd_Mo_fits_10 : decode bb_Mo_fits 10 = .ok (.getfield 331, 3) := by decide +kernel
theorem dd_Mo_fits_13 : decode bb_Mo_fits 13 = .ok (.iaload, 1) := by decide +kernel
theorem dd_Mo_fits_14 : decode bb_Mo_fits 14 = .ok (.if_icmp .ge 64, 3) := by decide +kernel
theorem dd_Mo_fits_17 : decode bb_Mo_fits 17 = .ok (.iload_n 2, 1) := by decide +kernel
theorem dd_Mo_fits_18 : decode bb_Mo_fits 18 = .ok (.ifCond .eq 60, 3) := by decide +kernel
theorem dd_Mo_fits_21 : decode bb_Mo_fits 21 = .ok (.aload_n 0, 1) := by decide +kernel
theorem dd_Mo_fits_22 : decode bb_Mo_fits 22 = .ok (.getfield 77, 3) := by decide +kernel
theorem dd_Mo_fits_25 : decode bb_Mo_fits 25 = .ok (.bipush 80, 2) := by decide +kernel
theorem dd_Mo_fits_27 : decode bb_Mo_fits 27 = .ok (.aload_n 0, 1) := by decide +kernel
theorem dd_Mo_fits_28 : decode bb_Mo_fits 28 = .ok (.getfield 331, 3) := by decide +kernel
theorem dd_Mo_fits_31 : decode bb_Mo_fits 31 = .ok (.imul, 1) := by decide +kernel
theorem dd_Mo_fits_32 : decode bb_Mo_fits 32 = .ok (.iload_n 1, 1) := by decide +kernel
theorem dd_Mo_fits_33 : decode bb_Mo_fits 33 = .ok (.iadd, 1) := by decide +kernel
theorem dd_Mo_fits_34 : decode bb_Mo_fits 34 = .ok (.bipush 8, 2) := by decide +kernel
theorem dd_Mo_fits_36 : decode bb_Mo_fits 36 = .ok (.imul, 1) := by decide +kernel
theorem dd_Mo_fits_37 : decode bb_Mo_fits 37 = .ok (.iload_n 3, 1) := by decide +kernel
theorem dd_Mo_fits_38 : decode bb_Mo_fits 38 = .ok (.iadd, 1) := by decide +kernel
theorem dd_Mo_fits_39 : decode bb_Mo_fits 39 = .ok (.iaload, 1) := by decide +kernel
theorem dd_Mo_fits_40 : decode bb_Mo_fits 40 = .ok (.istore 4, 2) := by decide +kernel
theorem dd_Mo_fits_42 : decode bb_Mo_fits 42 = .ok (.iload 4, 2) := by decide +kernel
theorem dd_Mo_fits_44 : decode bb_Mo_fits 44 = .ok (.ifCond .eq 22, 3) := by decide +kernel
theorem dd_Mo_fits_47 : decode bb_Mo_fits 47 = .ok (.aload_n 0, 1) := by decide +kernel
theorem dd_Mo_fits_48 : decode bb_Mo_fits 48 = .ok (.getfield 7, 3) := by decide +kernel
theorem dd_Mo_fits_51 : decode bb_Mo_fits 51 = .ok (.aload_n 0, 1) := by decide +kernel
theorem dd_Mo_fits_52 : decode bb_Mo_fits 52 = .ok (.getfield 191, 3) := by decide +kernel
theorem dd_Mo_fits_55 : decode bb_Mo_fits 55 = .ok (.iload_n 3, 1) := by decide +kernel
theorem dd_Mo_fits_56 : decode bb_Mo_fits 56 = .ok (.iaload, 1) := by decide +kernel
theorem dd_Mo_fits_57 : decode bb_Mo_fits 57 = .ok (.iaload, 1) := by decide +kernel
theorem dd_Mo_fits_58 : decode bb_Mo_fits 58 = .ok (.iload 4, 2) := by decide +kernel
theorem dd_Mo_fits_60 : decode bb_Mo_fits 60 = .ok (.iand, 1) := by decide +kernel
theorem dd_Mo_fits_61 : decode bb_Mo_fits 61 = .ok (.iload 4, 2) := by decide +kernel
theorem dd_Mo_fits_63 : decode bb_Mo_fits 63 = .ok (.if_icmp .ne 7, 3) := by decide +kernel
theorem dd_Mo_fits_66 : decode bb_Mo_fits 66 = .ok (.iconst 1, 1) := by decide +kernel
theorem dd_Mo_fits_67 : decode bb_Mo_fits 67 = .ok (.goto 4, 3) := by decide +kernel
theorem dd_Mo_fits_70 : decode bb_Mo_fits 70 = .ok (.iconst 0, 1) := by decide +kernel
theorem dd_Mo_fits_71 : decode bb_Mo_fits 71 = .ok (.istore_n 2, 1) := by decide +kernel
theorem dd_Mo_fits_72 : decode bb_Mo_fits 72 = .ok (.iinc 3 1, 3) := by decide +kernel
theorem dd_Mo_fits_75 : decode bb_Mo_fits 75 = .ok (.goto (-71), 3) := by decide +kernel
theorem dd_Mo_fits_78 : decode bb_Mo_fits 78 = .ok (.bipush 11, 2) := by decide +kernel
theorem dd_Mo_fits_80 : decode bb_Mo_fits 80 = .ok (.aload_n 0, 1) := by decide +kernel
theorem dd_Mo_fits_81 : decode bb_Mo_fits 81 = .ok (.getfield 331, 3) := by decide +kernel
theorem dd_Mo_fits_84 : decode bb_Mo_fits 84 = .ok (.imul, 1) := by decide +kernel
theorem dd_Mo_fits_85 : decode bb_Mo_fits 85 = .ok (.istore_n 3, 1) := by decide +kernel
theorem dd_Mo_fits_86 : decode bb_Mo_fits 86 = .ok (.iload_n 3, 1) := by decide +kernel
theorem dd_Mo_fits_87 : decode bb_Mo_fits 87 = .ok (.bipush 11, 2) := by decide +kernel
theorem dd_Mo_fits_89 : decode bb_Mo_fits 89 = .ok (.aload_n 0, 1) := by decide +kernel
theorem dd_Mo_fits_90 : decode bb_Mo_fits 90 = .ok (.getfield 331, 3) := by decide +kernel
theorem dd_Mo_fits_93 : decode bb_Mo_fits 93 = .ok (.imul, 1) := by decide +kernel
theorem dd_Mo_fits_94 : decode bb_Mo_fits 94 = .ok (.aload_n 0, 1) := by decide +kernel
theorem dd_Mo_fits_95 : decode bb_Mo_fits 95 = .ok (.getfield 80, 3) := by decide +kernel
theorem dd_Mo_fits_98 : decode bb_Mo_fits 98 = .ok (.aload_n 0, 1) := by decide +kernel
theorem dd_Mo_fits_99 : decode bb_Mo_fits 99 = .ok (.getfield 331, 3) := by decide +kernel
theorem dd_Mo_fits_102 : decode bb_Mo_fits 102 = .ok (.iaload, 1) := by decide +kernel
theorem dd_Mo_fits_103 : decode bb_Mo_fits 103 = .ok (.iadd, 1) := by decide +kernel
theorem dd_Mo_fits_104 : decode bb_Mo_fits 104 = .ok (.if_icmp .ge 63, 3) := by decide +kernel
theorem dd_Mo_fits_107 : decode bb_Mo_fits 107 = .ok (.iload_n 2, 1) := by decide +kernel
theorem dd_Mo_fits_108 : decode bb_Mo_fits 108 = .ok (.ifCond .eq 59, 3) := by decide +kernel
theorem dd_Mo_fits_111 : decode bb_Mo_fits 111 = .ok (.aload_n 0, 1) := by decide +kernel
theorem dd_Mo_fits_112 : decode bb_Mo_fits 112 = .ok (.getfield 83, 3) := by decide +kernel
theorem dd_Mo_fits_115 : decode bb_Mo_fits 115 = .ok (.iload_n 3, 1) := by decide +kernel
theorem dd_Mo_fits_116 : decode bb_Mo_fits 116 = .ok (.iaload, 1) := by decide +kernel
theorem dd_Mo_fits_117 : decode bb_Mo_fits 117 = .ok (.iload_n 1, 1) := by decide +kernel
theorem dd_Mo_fits_118 : decode bb_Mo_fits 118 = .ok (.if_icmp .ne 43, 3) := by decide +kernel
theorem dd_Mo_fits_121 : decode bb_Mo_fits 121 = .ok (.aload_n 0, 1) := by decide +kernel
theorem dd_Mo_fits_122 : decode bb_Mo_fits 122 = .ok (.iload_n 3, 1) := by decide +kernel
theorem dd_Mo_fits_123 : decode bb_Mo_fits 123 = .ok (.invokevirtual 460, 3) := by decide +kernel
theorem dd_Mo_fits_126 : decode bb_Mo_fits 126 = .ok (.istore 4, 2) := by decide +kernel
theorem dd_Mo_fits_128 : decode bb_Mo_fits 128 = .ok (.iload 4, 2) := by decide +kernel
theorem dd_Mo_fits_130 : decode bb_Mo_fits 130 = .ok (.ifCond .lt 7, 3) := by decide +kernel
theorem dd_Mo_fits_133 : decode bb_Mo_fits 133 = .ok (.iconst 1, 1) := by decide +kernel
theorem dd_Mo_fits_134 : decode bb_Mo_fits 134 = .ok (.goto 4, 3) := by decide +kernel
theorem dd_Mo_fits_137 : decode bb_Mo_fits 137 = .ok (.iconst 0, 1) := by decide +kernel
theorem dd_Mo_fits_138 : decode bb_Mo_fits 138 = .ok (.istore_n 2, 1) := by decide +kernel
theorem dd_Mo_fits_139 : decode bb_Mo_fits 139 = .ok (.aload_n 0, 1) := by decide +kernel
theorem dd_Mo_fits_140 : decode bb_Mo_fits 140 = .ok (.getfield 92, 3) := by decide +kernel
theorem dd_Mo_fits_143 : decode bb_Mo_fits 143 = .ok (.iload_n 3, 1) := by decide +kernel
theorem dd_Mo_fits_144 : decode bb_Mo_fits 144 = .ok (.iaload, 1) := by decide +kernel
theorem dd_Mo_fits_145 : decode bb_Mo_fits 145 = .ok (.ifCond .lt 16, 3) := by decide +kernel
theorem dd_Mo_fits_148 : decode bb_Mo_fits 148 = .ok (.aload_n 0, 1) := by decide +kernel
theorem dd_Mo_fits_149 : decode bb_Mo_fits 149 = .ok (.getfield 194, 3) := by decide +kernel
theorem dd_Mo_fits_152 : decode bb_Mo_fits 152 = .ok (.aload_n 0, 1) := by decide +kernel
theorem dd_Mo_fits_153 : decode bb_Mo_fits 153 = .ok (.getfield 92, 3) := by decide +kernel
theorem dd_Mo_fits_156 : decode bb_Mo_fits 156 = .ok (.iload_n 3, 1) := by decide +kernel
theorem dd_Mo_fits_157 : decode bb_Mo_fits 157 = .ok (.iaload, 1) := by decide +kernel
theorem dd_Mo_fits_158 : decode bb_Mo_fits 158 = .ok (.iload 4, 2) := by decide +kernel
theorem dd_Mo_fits_160 : decode bb_Mo_fits 160 = .ok (.iastore, 1) := by decide +kernel
theorem dd_Mo_fits_161 : decode bb_Mo_fits 161 = .ok (.iinc 3 1, 3) := by decide +kernel
theorem dd_Mo_fits_164 : decode bb_Mo_fits 164 = .ok (.goto (-78), 3) := by decide +kernel
theorem dd_Mo_fits_167 : decode bb_Mo_fits 167 = .ok (.iload_n 2, 1) := by decide +kernel
theorem dd_Mo_fits_168 : decode bb_Mo_fits 168 = .ok (.ireturn, 1) := by decide +kernel
set_option maxRecDepth 100000 in
set_option maxHeartbeats 4000000 in
theorem t_Mo_fits_71  (X : zX p s m args cd D cid B bb_Mo_fits 5 rr_Mo zT) (H : zH s meth B n0 (some (.boolean)) "fits") {nf : Nat} {x0 : Nat} {x1 : Int32} {x3 : Int32} {s0 : Int32} {c : Zc} {r : (Nat × Int32 × Int32 × Int32 × Zc) ⊕ (Nat × Int32 × Int32 × Zc)} (h : f_Mo_fits_71 nf x0 x1 x3 s0 c = some r) (k0 : ∀ a, r = .inl a → (fun a : Nat × Int32 × Int32 × Int32 × Zc => Zz p l e (zRm 1 21 0 0) s m args below meth cd Q D cid B 5 0 0 a.2.2.2.2 4 [(0, .ref a.1), (1, .int a.2.1), (2, .int a.2.2.1), (3, .int a.2.2.2.1)] []) a) (k1 : ∀ b, r = .inr b → (fun b : Nat × Int32 × Int32 × Zc => Zz p l e (zRm 1 21 0 0) s m args below meth cd Q D cid B 5 0 0 b.2.2.2 78 [(0, .ref b.1), (1, .int b.2.1), (2, .int b.2.2.1)] []) b) : Zz p l e (zRm 1 21 0 0) s m args below meth cd Q D cid B 5 0 0 c 71 [(0, .ref x0), (1, .int x1), (3, .int x3)] [.int s0] := by
  unfold f_Mo_fits_71 at h
  refine z_istore_n (lv' := [(2, .int s0), (0, .ref x0), (1, .int x1), (3, .int x3)]) X dd_Mo_fits_71 rfl (by decide) rfl ?_
  refine z_iinc (v := (x3 + 1)) (lv' := [(3, .int (x3 + 1)), (2, .int s0), (0, .ref x0), (1, .int x1)]) X dd_Mo_fits_72 3 rfl rfl (by decide) rfl ?_
  refine z_goto (tgt := 4) X dd_Mo_fits_75 (by decide) ?_
  refine z_sub [2, 3, 1, 0] rfl ?_
  obtain rfl := Option.some.inj h
  exact k0 _ rfl
set_option maxRecDepth 100000 in
set_option maxHeartbeats 4000000 in
theorem t_Mo_fits_66  (X : zX p s m args cd D cid B bb_Mo_fits 5 rr_Mo zT) (H : zH s meth B n0 (some (.boolean)) "fits") {nf : Nat} {x0 : Nat} {x1 : Int32} {x3 : Int32} {c : Zc} {r : (Nat × Int32 × Int32 × Int32 × Zc) ⊕ (Nat × Int32 × Int32 × Zc)} (h : f_Mo_fits_66 nf x0 x1 x3 c = some r) (k0 : ∀ a, r = .inl a → (fun a : Nat × Int32 × Int32 × Int32 × Zc => Zz p l e (zRm 1 21 0 0) s m args below meth cd Q D cid B 5 0 0 a.2.2.2.2 4 [(0, .ref a.1), (1, .int a.2.1), (2, .int a.2.2.1), (3, .int a.2.2.2.1)] []) a) (k1 : ∀ b, r = .inr b → (fun b : Nat × Int32 × Int32 × Zc => Zz p l e (zRm 1 21 0 0) s m args below meth cd Q D cid B 5 0 0 b.2.2.2 78 [(0, .ref b.1), (1, .int b.2.1), (2, .int b.2.2.1)] []) b) : Zz p l e (zRm 1 21 0 0) s m args below meth cd Q D cid B 5 0 0 c 66 [(0, .ref x0), (1, .int x1), (3, .int x3)] [] := by
  unfold f_Mo_fits_66 at h
  refine z_iconst (v := 1) X dd_Mo_fits_66 (by decide) ?_
  refine z_goto (tgt := 71) X dd_Mo_fits_67 (by decide) ?_
  exact t_Mo_fits_71 X H h k0 k1
set_option maxRecDepth 100000 in
set_option maxHeartbeats 4000000 in
theorem u_Mo_fits_4  (X : zX p s m args cd D cid B bb_Mo_fits 5 rr_Mo zT) (H : zH s meth B n0 (some (.boolean)) "fits") {nf : Nat} {x0 : Nat} {x1 : Int32} {x2 : Int32} {x3 : Int32} {c : Zc} {r : (Nat × Int32 × Int32 × Int32 × Zc) ⊕ (Nat × Int32 × Int32 × Zc)} (h : g_Mo_fits_4 nf x0 x1 x2 x3 c = some r) (k0 : ∀ a, r = .inl a → (fun a : Nat × Int32 × Int32 × Int32 × Zc => Zz p l e (zRm 1 21 0 0) s m args below meth cd Q D cid B 5 0 0 a.2.2.2.2 4 [(0, .ref a.1), (1, .int a.2.1), (2, .int a.2.2.1), (3, .int a.2.2.2.1)] []) a) (k1 : ∀ b, r = .inr b → (fun b : Nat × Int32 × Int32 × Zc => Zz p l e (zRm 1 21 0 0) s m args below meth cd Q D cid B 5 0 0 b.2.2.2 78 [(0, .ref b.1), (1, .int b.2.1), (2, .int b.2.2.1)] []) b) : Zz p l e (zRm 1 21 0 0) s m args below meth cd Q D cid B 5 0 0 c 4 [(0, .ref x0), (1, .int x1), (2, .int x2), (3, .int x3)] [] := by
  unfold g_Mo_fits_4 at h
  refine z_iload_n X dd_Mo_fits_4 rfl 3 rfl ?_
  refine z_aload_n X dd_Mo_fits_5 rfl 0 rfl ?_
  obtain ⟨v1, ev1, h⟩ := zb h
  refine z_get (j := 26) X dd_Mo_fits_6 kc_12 ki_12 (by decide) km_1547 (zgr_v ev1) ?_
  refine z_aload_n X dd_Mo_fits_9 rfl 0 rfl ?_
  obtain ⟨v2, ev2, h⟩ := zb h
  refine z_get (j := 25) X dd_Mo_fits_10 kc_12 ki_12 (by decide) km_1546 (zgi_v ev2) ?_
  obtain ⟨v3, ev3, h⟩ := zb h
  refine z_iaload X dd_Mo_fits_13 rfl ev3 ?_
  refine z_icmp_ge (tgt := 78) X dd_Mo_fits_14 (by decide) (fun q4 => ?_) (fun q4 => ?_)
  · rw [if_pos q4] at h
    refine z_sub [0, 1, 2] rfl ?_
    obtain rfl := Option.some.inj h
    exact k1 _ rfl
  · rw [if_neg q4] at h
    refine z_iload_n X dd_Mo_fits_17 rfl 2 rfl ?_
    refine z_if_eq (tgt := 78) X dd_Mo_fits_18 (by decide) (fun q5 => ?_) (fun q5 => ?_)
    · rw [if_pos q5] at h
      refine z_sub [0, 1, 2] rfl ?_
      obtain rfl := Option.some.inj h
      exact k1 _ rfl
    · rw [if_neg q5] at h
      refine z_aload_n X dd_Mo_fits_21 rfl 0 rfl ?_
      obtain ⟨v6, ev6, h⟩ := zb h
      refine z_get (j := 30) X dd_Mo_fits_22 kc_12 ki_12 (by decide) km_1551 (zgr_v ev6) ?_
      refine z_bipush (v := 80) X dd_Mo_fits_25 (by decide) ?_
      refine z_aload_n X dd_Mo_fits_27 rfl 0 rfl ?_
      obtain ⟨v7, ev7, h⟩ := zb h
      refine z_get (j := 25) X dd_Mo_fits_28 kc_12 ki_12 (by decide) km_1546 (zgi_v ev7) ?_
      refine z_imul X dd_Mo_fits_31 ?_
      refine z_iload_n X dd_Mo_fits_32 rfl 1 rfl ?_
      refine z_iadd X dd_Mo_fits_33 ?_
      refine z_bipush (v := 8) X dd_Mo_fits_34 (by decide) ?_
      refine z_imul X dd_Mo_fits_36 ?_
      refine z_iload_n X dd_Mo_fits_37 rfl 3 rfl ?_
      refine z_iadd X dd_Mo_fits_38 ?_
      obtain ⟨v8, ev8, h⟩ := zb h
      refine z_iaload X dd_Mo_fits_39 rfl ev8 ?_
      refine z_istore (lv' := [(4, .int v8), (0, .ref x0), (1, .int x1), (2, .int x2), (3, .int x3)]) X dd_Mo_fits_40 (by decide) rfl ?_
      refine z_iload X dd_Mo_fits_42 0 rfl ?_
      refine z_if_eq (tgt := 66) X dd_Mo_fits_44 (by decide) (fun q9 => ?_) (fun q9 => ?_)
      · rw [if_pos q9] at h
        refine z_sub [1, 2, 4] rfl ?_
        exact t_Mo_fits_66 X H h k0 k1
      · rw [if_neg q9] at h
        refine z_aload_n X dd_Mo_fits_47 rfl 1 rfl ?_
        obtain ⟨v10, ev10, h⟩ := zb h
        refine z_get (j := 1) X dd_Mo_fits_48 kc_12 ki_12 (by decide) km_1522 (zgr_v ev10) ?_
        refine z_aload_n X dd_Mo_fits_51 rfl 1 rfl ?_
        obtain ⟨v11, ev11, h⟩ := zb h
        refine z_get (j := 74) X dd_Mo_fits_52 kc_12 ki_12 (by decide) km_1595 (zgr_v ev11) ?_
        refine z_iload_n X dd_Mo_fits_55 rfl 4 rfl ?_
        obtain ⟨v12, ev12, h⟩ := zb h
        refine z_iaload X dd_Mo_fits_56 rfl ev12 ?_
        obtain ⟨v13, ev13, h⟩ := zb h
        refine z_iaload X dd_Mo_fits_57 rfl ev13 ?_
        refine z_iload X dd_Mo_fits_58 0 rfl ?_
        refine z_iand X dd_Mo_fits_60 ?_
        refine z_iload X dd_Mo_fits_61 0 rfl ?_
        refine z_icmp_ne (tgt := 70) X dd_Mo_fits_63 (by decide) (fun q14 => ?_) (fun q14 => ?_)
        · rw [if_neg q14] at h
          refine z_iconst (v := 0) X dd_Mo_fits_70 (by decide) ?_
          refine z_sub [1, 2, 4] rfl ?_
          exact t_Mo_fits_71 X H h k0 k1
        · rw [if_pos q14] at h
          refine z_sub [1, 2, 4] rfl ?_
          exact t_Mo_fits_66 X H h k0 k1
set_option maxRecDepth 100000 in
set_option maxHeartbeats 4000000 in
theorem t_Mo_fits_161  (X : zX p s m args cd D cid B bb_Mo_fits 5 rr_Mo zT) (H : zH s meth B n0 (some (.boolean)) "fits") {nf : Nat} {x0 : Nat} {x1 : Int32} {x2 : Int32} {x3 : Int32} {c : Zc} {r : (Nat × Int32 × Int32 × Int32 × Zc) ⊕ (Int32 × Zc)} (h : f_Mo_fits_161 nf x0 x1 x2 x3 c = some r) (k0 : ∀ a, r = .inl a → (fun a : Nat × Int32 × Int32 × Int32 × Zc => Zz p l e (zRm 1 21 0 0) s m args below meth cd Q D cid B 5 0 0 a.2.2.2.2 86 [(0, .ref a.1), (1, .int a.2.1), (2, .int a.2.2.1), (3, .int a.2.2.2.1)] []) a) (k1 : ∀ b, r = .inr b → (fun b : Int32 × Zc => Zz p l e (zRm 1 21 0 0) s m args below meth cd Q D cid B 5 0 0 b.2 167 [(2, .int b.1)] []) b) : Zz p l e (zRm 1 21 0 0) s m args below meth cd Q D cid B 5 0 0 c 161 [(0, .ref x0), (1, .int x1), (2, .int x2), (3, .int x3)] [] := by
  unfold f_Mo_fits_161 at h
  refine z_iinc (v := (x3 + 1)) (lv' := [(3, .int (x3 + 1)), (0, .ref x0), (1, .int x1), (2, .int x2)]) X dd_Mo_fits_161 3 rfl rfl (by decide) rfl ?_
  refine z_goto (tgt := 86) X dd_Mo_fits_164 (by decide) ?_
  refine z_sub [1, 2, 3, 0] rfl ?_
  obtain rfl := Option.some.inj h
  exact k0 _ rfl
set_option maxRecDepth 100000 in
set_option maxHeartbeats 4000000 in
theorem t_Mo_fits_138  (X : zX p s m args cd D cid B bb_Mo_fits 5 rr_Mo zT) (H : zH s meth B n0 (some (.boolean)) "fits") {nf : Nat} {x0 : Nat} {x1 : Int32} {x3 : Int32} {x4 : Int32} {s0 : Int32} {c : Zc} {r : (Nat × Int32 × Int32 × Int32 × Zc) ⊕ (Int32 × Zc)} (h : f_Mo_fits_138 nf x0 x1 x3 x4 s0 c = some r) (k0 : ∀ a, r = .inl a → (fun a : Nat × Int32 × Int32 × Int32 × Zc => Zz p l e (zRm 1 21 0 0) s m args below meth cd Q D cid B 5 0 0 a.2.2.2.2 86 [(0, .ref a.1), (1, .int a.2.1), (2, .int a.2.2.1), (3, .int a.2.2.2.1)] []) a) (k1 : ∀ b, r = .inr b → (fun b : Int32 × Zc => Zz p l e (zRm 1 21 0 0) s m args below meth cd Q D cid B 5 0 0 b.2 167 [(2, .int b.1)] []) b) : Zz p l e (zRm 1 21 0 0) s m args below meth cd Q D cid B 5 0 0 c 138 [(0, .ref x0), (1, .int x1), (3, .int x3), (4, .int x4)] [.int s0] := by
  unfold f_Mo_fits_138 at h
  refine z_istore_n (lv' := [(2, .int s0), (0, .ref x0), (1, .int x1), (3, .int x3), (4, .int x4)]) X dd_Mo_fits_138 rfl (by decide) rfl ?_
  refine z_aload_n X dd_Mo_fits_139 rfl 1 rfl ?_
  obtain ⟨v28, ev28, h⟩ := zb h
  refine z_get (j := 35) X dd_Mo_fits_140 kc_12 ki_12 (by decide) km_1556 (zgr_v ev28) ?_
  refine z_iload_n X dd_Mo_fits_143 rfl 3 rfl ?_
  obtain ⟨v29, ev29, h⟩ := zb h
  refine z_iaload X dd_Mo_fits_144 rfl ev29 ?_
  refine z_if_lt (tgt := 161) X dd_Mo_fits_145 (by decide) (fun q30 => ?_) (fun q30 => ?_)
  · rw [if_pos q30] at h
    refine z_sub [1, 2, 0, 3] rfl ?_
    exact t_Mo_fits_161 X H h k0 k1
  · rw [if_neg q30] at h
    refine z_aload_n X dd_Mo_fits_148 rfl 1 rfl ?_
    obtain ⟨v31, ev31, h⟩ := zb h
    refine z_get (j := 75) X dd_Mo_fits_149 kc_12 ki_12 (by decide) km_1596 (zgr_v ev31) ?_
    refine z_aload_n X dd_Mo_fits_152 rfl 1 rfl ?_
    obtain ⟨v32, ev32, h⟩ := zb h
    refine z_get (j := 35) X dd_Mo_fits_153 kc_12 ki_12 (by decide) km_1556 (zgr_v ev32) ?_
    refine z_iload_n X dd_Mo_fits_156 rfl 3 rfl ?_
    obtain ⟨v33, ev33, h⟩ := zb h
    refine z_iaload X dd_Mo_fits_157 rfl ev33 ?_
    refine z_iload X dd_Mo_fits_158 4 rfl ?_
    obtain ⟨c34, ec34, h⟩ := zb h
    refine z_iastore X dd_Mo_fits_160 rfl ec34 ?_
    refine z_sub [1, 2, 0, 3] rfl ?_
    exact t_Mo_fits_161 X H h k0 k1
set_option maxRecDepth 100000 in
set_option maxHeartbeats 4000000 in
theorem u_Mo_fits_86  (X : zX p s m args cd D cid B bb_Mo_fits 5 rr_Mo zT) (H : zH s meth B n0 (some (.boolean)) "fits") {nf : Nat} {x0 : Nat} {x1 : Int32} {x2 : Int32} {x3 : Int32} {c : Zc} {r : (Nat × Int32 × Int32 × Int32 × Zc) ⊕ (Int32 × Zc)} (h : g_Mo_fits_86 nf x0 x1 x2 x3 c = some r) (k0 : ∀ a, r = .inl a → (fun a : Nat × Int32 × Int32 × Int32 × Zc => Zz p l e (zRm 1 21 0 0) s m args below meth cd Q D cid B 5 0 0 a.2.2.2.2 86 [(0, .ref a.1), (1, .int a.2.1), (2, .int a.2.2.1), (3, .int a.2.2.2.1)] []) a) (k1 : ∀ b, r = .inr b → (fun b : Int32 × Zc => Zz p l e (zRm 1 21 0 0) s m args below meth cd Q D cid B 5 0 0 b.2 167 [(2, .int b.1)] []) b) : Zz p l e (zRm 1 21 0 0) s m args below meth cd Q D cid B 5 0 0 c 86 [(0, .ref x0), (1, .int x1), (2, .int x2), (3, .int x3)] [] := by
  unfold g_Mo_fits_86 at h
  refine z_iload_n X dd_Mo_fits_86 rfl 3 rfl ?_
  refine z_bipush (v := 11) X dd_Mo_fits_87 (by decide) ?_
  refine z_aload_n X dd_Mo_fits_89 rfl 0 rfl ?_
  obtain ⟨v16, ev16, h⟩ := zb h
  refine z_get (j := 25) X dd_Mo_fits_90 kc_12 ki_12 (by decide) km_1546 (zgi_v ev16) ?_
  refine z_imul X dd_Mo_fits_93 ?_
  refine z_aload_n X dd_Mo_fits_94 rfl 0 rfl ?_
  obtain ⟨v17, ev17, h⟩ := zb h
  refine z_get (j := 31) X dd_Mo_fits_95 kc_12 ki_12 (by decide) km_1552 (zgr_v ev17) ?_
  refine z_aload_n X dd_Mo_fits_98 rfl 0 rfl ?_
  obtain ⟨v18, ev18, h⟩ := zb h
  refine z_get (j := 25) X dd_Mo_fits_99 kc_12 ki_12 (by decide) km_1546 (zgi_v ev18) ?_
  obtain ⟨v19, ev19, h⟩ := zb h
  refine z_iaload X dd_Mo_fits_102 rfl ev19 ?_
  refine z_iadd X dd_Mo_fits_103 ?_
  refine z_icmp_ge (tgt := 167) X dd_Mo_fits_104 (by decide) (fun q20 => ?_) (fun q20 => ?_)
  · rw [if_pos q20] at h
    refine z_sub [2] rfl ?_
    obtain rfl := Option.some.inj h
    exact k1 _ rfl
  · rw [if_neg q20] at h
    refine z_iload_n X dd_Mo_fits_107 rfl 2 rfl ?_
    refine z_if_eq (tgt := 167) X dd_Mo_fits_108 (by decide) (fun q21 => ?_) (fun q21 => ?_)
    · rw [if_pos q21] at h
      refine z_sub [2] rfl ?_
      obtain rfl := Option.some.inj h
      exact k1 _ rfl
    · rw [if_neg q21] at h
      refine z_aload_n X dd_Mo_fits_111 rfl 0 rfl ?_
      obtain ⟨v22, ev22, h⟩ := zb h
      refine z_get (j := 32) X dd_Mo_fits_112 kc_12 ki_12 (by decide) km_1553 (zgr_v ev22) ?_
      refine z_iload_n X dd_Mo_fits_115 rfl 3 rfl ?_
      obtain ⟨v23, ev23, h⟩ := zb h
      refine z_iaload X dd_Mo_fits_116 rfl ev23 ?_
      refine z_iload_n X dd_Mo_fits_117 rfl 1 rfl ?_
      refine z_icmp_ne (tgt := 161) X dd_Mo_fits_118 (by decide) (fun q24 => ?_) (fun q24 => ?_)
      · rw [if_neg q24] at h
        exact t_Mo_fits_161 X H h k0 k1
      · rw [if_pos q24] at h
        refine z_aload_n X dd_Mo_fits_121 rfl 0 rfl ?_
        refine z_iload_n X dd_Mo_fits_122 rfl 3 rfl ?_
        obtain ⟨w26, ew26, h⟩ := zb h
        obtain ⟨q25, eq25, h⟩ := zb h
        refine z_callVi X [.int x3] rfl dd_Mo_fits_123 (c_Mo_distance l eq25) (cwV 1 X.1.2.2.2.2 (zg_V km_2109 km_2111 km_114 km_138 km_2112) rfl rfl rfl (by decide +kernel) ⟨Nat.le_of_ble_eq_true rfl, Nat.le_of_ble_eq_true rfl⟩) (zob_s ew26) kc_12 rfl (Nat.le_of_ble_eq_true rfl) ⟨Nat.le_of_ble_eq_true rfl, Nat.le_of_ble_eq_true rfl⟩ ?_
        refine z_istore (lv' := [(4, .int q25.1), (0, .ref x0), (1, .int x1), (2, .int x2), (3, .int x3)]) X dd_Mo_fits_126 (by decide) rfl ?_
        refine z_iload X dd_Mo_fits_128 0 rfl ?_
        refine z_if_lt (tgt := 137) X dd_Mo_fits_130 (by decide) (fun q27 => ?_) (fun q27 => ?_)
        · rw [if_pos q27] at h
          refine z_iconst (v := 0) X dd_Mo_fits_137 (by decide) ?_
          refine z_sub [1, 2, 4, 0] rfl ?_
          exact t_Mo_fits_138 X H h k0 k1
        · rw [if_neg q27] at h
          refine z_iconst (v := 1) X dd_Mo_fits_133 (by decide) ?_
          refine z_goto (tgt := 138) X dd_Mo_fits_134 (by decide) ?_
          refine z_sub [1, 2, 4, 0] rfl ?_
          exact t_Mo_fits_138 X H h k0 k1
set_option maxRecDepth 100000 in
set_option maxHeartbeats 4000000 in
theorem t_Mo_fits_167  (X : zX p s m args cd D cid B bb_Mo_fits 5 rr_Mo zT) (H : zH s meth B n0 (some (.boolean)) "fits") {nf : Nat} {x2 : Int32} {c : Zc} {res : Int32 × Zc} (h : f_Mo_fits_167 nf x2 c = some res) : Zz p l e (zRm 1 21 0 0) s m args below meth cd (MQ below (zQi D cid B res.1 res.2 n0 0) args s 0 0 (fun q => B ≤ q)) D cid B 5 0 0 c 167 [(2, .int x2)] [] := by
  unfold f_Mo_fits_167 at h
  refine z_iload_n X dd_Mo_fits_167 rfl 0 rfl ?_
  obtain ⟨hz, h⟩ := zrz_s h
  obtain rfl := h
  exact z_zret X H.1 (zn_z hz) H.2.1 H.2.2.1 dd_Mo_fits_168
set_option maxRecDepth 100000 in
set_option maxHeartbeats 4000000 in
theorem t_Mo_fits_86  (X : zX p s m args cd D cid B bb_Mo_fits 5 rr_Mo zT) (H : zH s meth B n0 (some (.boolean)) "fits") {nf : Nat} {x0 : Nat} {x1 : Int32} {x2 : Int32} {x3 : Int32} {c : Zc} {res : Int32 × Zc} (h : f_Mo_fits_86 nf x0 x1 x2 x3 c = some res) : Zz p l e (zRm 1 21 0 0) s m args below meth cd (MQ below (zQi D cid B res.1 res.2 n0 0) args s 0 0 (fun q => B ≤ q)) D cid B 5 0 0 c 86 [(0, .ref x0), (1, .int x1), (2, .int x2), (3, .int x3)] [] := by
  unfold f_Mo_fits_86 at h
  obtain ⟨b, eb, h⟩ := zb h
  refine zlp_ok (P := fun a : Nat × Int32 × Int32 × Int32 × Zc => Zz p l e (zRm 1 21 0 0) s m args below meth cd _ D cid B 5 0 0 a.2.2.2.2 86 [(0, .ref a.1), (1, .int a.2.1), (2, .int a.2.2.1), (3, .int a.2.2.2.1)] []) (G := fun b : Int32 × Zc => Zz p l e (zRm 1 21 0 0) s m args below meth cd _ D cid B 5 0 0 b.2 167 [(2, .int b.1)] []) (fun a r ha k0 k1 => u_Mo_fits_86 X H ha k0 k1) nf _ b eb ?_
  exact t_Mo_fits_167 X H h
set_option maxRecDepth 100000 in
set_option maxHeartbeats 4000000 in
theorem t_Mo_fits_78  (X : zX p s m args cd D cid B bb_Mo_fits 5 rr_Mo zT) (H : zH s meth B n0 (some (.boolean)) "fits") {nf : Nat} {x0 : Nat} {x1 : Int32} {x2 : Int32} {c : Zc} {res : Int32 × Zc} (h : f_Mo_fits_78 nf x0 x1 x2 c = some res) : Zz p l e (zRm 1 21 0 0) s m args below meth cd (MQ below (zQi D cid B res.1 res.2 n0 0) args s 0 0 (fun q => B ≤ q)) D cid B 5 0 0 c 78 [(0, .ref x0), (1, .int x1), (2, .int x2)] [] := by
  unfold f_Mo_fits_78 at h
  refine z_bipush (v := 11) X dd_Mo_fits_78 (by decide) ?_
  refine z_aload_n X dd_Mo_fits_80 rfl 0 rfl ?_
  obtain ⟨v15, ev15, h⟩ := zb h
  refine z_get (j := 25) X dd_Mo_fits_81 kc_12 ki_12 (by decide) km_1546 (zgi_v ev15) ?_
  refine z_imul X dd_Mo_fits_84 ?_
  refine z_istore_n (lv' := [(3, .int (11 * v15)), (0, .ref x0), (1, .int x1), (2, .int x2)]) X dd_Mo_fits_85 rfl (by decide) rfl ?_
  refine z_sub [1, 2, 3, 0] rfl ?_
  exact t_Mo_fits_86 X H h
set_option maxRecDepth 100000 in
set_option maxHeartbeats 4000000 in
theorem t_Mo_fits_4  (X : zX p s m args cd D cid B bb_Mo_fits 5 rr_Mo zT) (H : zH s meth B n0 (some (.boolean)) "fits") {nf : Nat} {x0 : Nat} {x1 : Int32} {x2 : Int32} {x3 : Int32} {c : Zc} {res : Int32 × Zc} (h : f_Mo_fits_4 nf x0 x1 x2 x3 c = some res) : Zz p l e (zRm 1 21 0 0) s m args below meth cd (MQ below (zQi D cid B res.1 res.2 n0 0) args s 0 0 (fun q => B ≤ q)) D cid B 5 0 0 c 4 [(0, .ref x0), (1, .int x1), (2, .int x2), (3, .int x3)] [] := by
  unfold f_Mo_fits_4 at h
  obtain ⟨b, eb, h⟩ := zb h
  refine zlp_ok (P := fun a : Nat × Int32 × Int32 × Int32 × Zc => Zz p l e (zRm 1 21 0 0) s m args below meth cd _ D cid B 5 0 0 a.2.2.2.2 4 [(0, .ref a.1), (1, .int a.2.1), (2, .int a.2.2.1), (3, .int a.2.2.2.1)] []) (G := fun b : Nat × Int32 × Int32 × Zc => Zz p l e (zRm 1 21 0 0) s m args below meth cd _ D cid B 5 0 0 b.2.2.2 78 [(0, .ref b.1), (1, .int b.2.1), (2, .int b.2.2.1)] []) (fun a r ha k0 k1 => u_Mo_fits_4 X H ha k0 k1) nf _ b eb ?_
  exact t_Mo_fits_78 X H h
set_option maxRecDepth 100000 in
set_option maxHeartbeats 4000000 in
theorem c_Mo_fits (l : Launch) {nf : Nat} {a0 : Nat} {a1 : Int32} {c : Zc} {res : Int32 × Zc} (h : f_Mo_fits nf a0 a1 c = some res) : zM l yy_Mo_fits ww_Mo_fits 1 21 0 0 [.ref a0, .int a1] c (fun D cid B => zQi D cid B res.1 res.2 c.length 0) := by
  refine z_met (cc := bb_Mo_fits) (maxL := 5) (ret := (some (.boolean))) (by decide +kernel) rfl (Nat.le_of_ble_eq_true rfl) ?_
  intro p e s m args below meth cd D cid B X h1 h2 h3 h4
  have X : zX p s m args cd D cid B bb_Mo_fits 5 rr_Mo zT := X
  have H : zH s meth B c.length (some (.boolean)) "fits" := ⟨h1, h2, h4, h3⟩
  unfold f_Mo_fits at h
  show Zz p l e (zRm 1 21 0 0) s m args below meth cd _ D cid B 5 0 0 c 0 [(0, .ref a0), (1, .int a1)] []
  refine z_iconst (v := 1) X dd_Mo_fits_0 (by decide) ?_
  refine z_istore_n (lv' := [(2, .int 1), (0, .ref a0), (1, .int a1)]) X dd_Mo_fits_1 rfl (by decide) rfl ?_
  refine z_iconst (v := 0) X dd_Mo_fits_2 (by decide) ?_
  refine z_istore_n (lv' := [(3, .int 0), (2, .int 1), (0, .ref a0), (1, .int a1)]) X dd_Mo_fits_3 rfl (by decide) rfl ?_
  refine z_sub [2, 3, 1, 0] rfl ?_
  exact t_Mo_fits_4 X H h
end ZzM
