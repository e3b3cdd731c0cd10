section ZzM
variable {p : Program} {l : Launch} {e : Env} {s : State} {m : MethodId} {args : Array Value} {below : List Frame} {meth : Method} {cd : Code} {Q : State → Prop} {D : va_G} {cid : Nat → ClassId} {B n0 : Nat}
theorem dd_Mo_told_0 : decode bb_Mo_told 0 = .ok (.iload_n 1, 1) := by decide +kernel
theorem dd_Mo_told_1 : decode bb_Mo_told 1 = .ok (.ifCond .eq 13, 3) := by decide +kernel
theorem dd_Mo_told_4 : decode bb_Mo_told 4 = .ok (.iload_n 1, 1) := by decide +kernel
theorem dd_Mo_told_5 : decode bb_Mo_told 5 = .ok (.iconst 1, 1) := by decide +kernel
theorem dd_Mo_told_6 : decode bb_Mo_told 6 = .ok (.if_icmp .eq 8, 3) := by decide +kernel
theorem dd_Mo_told_9 : decode bb_Mo_told 9 = .ok (.iload_n 1, 1) := by decide +kernel
theorem dd_Mo_told_10 : decode bb_Mo_told 10 = .ok (.iconst 2, 1) := by decide +kernel
theorem dd_Mo_told_11 : decode bb_Mo_told 11 = .ok (.if_icmp .ne 31, 3) := by decide +kernel
theorem dd_Mo_told_14 : decode bb_Mo_told 14 = .ok (.iload_n 1, 1) := by decide +kernel
theorem dd_Mo_told_15 : decode bb_Mo_told 15 = .ok (.ifCond .ne 10, 3) := by decide +kernel
theorem dd_Mo_told_18 : decode bb_Mo_told 18 = .ok (.aload_n 0, 1) := by decide +kernel
theorem dd_Mo_told_19 : decode bb_Mo_told 19 = .ok (.getfield 450, 3) := by decide +kernel
theorem dd_Mo_told_22 : decode bb_Mo_told 22 = .ok (.goto 19, 3) := by decide +kernel
theorem dd_Mo_told_25 : decode bb_Mo_told 25 = .ok (.iload_n 1, 1) := by decide +kernel
theorem dd_Mo_told_26 : decode bb_Mo_told 26 = .ok (.iconst 1, 1) := by decide +kernel
theorem dd_Mo_told_27 : decode bb_Mo_told 27 = .ok (.if_icmp .ne 10, 3) := by decide +kernel
theorem dd_Mo_told_30 : decode bb_Mo_told 30 = .ok (.aload_n 0, 1) := by decide +kernel
theorem dd_Mo_told_31 : decode bb_Mo_told 31 = .ok (.getfield 543, 3) := by decide +kernel
theorem dd_Mo_told_34 : decode bb_Mo_told 34 = .ok (.goto 7, 3) := by decide +kernel
theorem dd_Mo_told_37 : decode bb_Mo_told 37 = .ok (.aload_n 0, 1) := by decide +kernel
theorem dd_Mo_told_38 : decode bb_Mo_told 38 = .ok (.invokevirtual 546, 3) := by decide +kernel
theorem dd_Mo_told_41 : decode bb_Mo_told 41 = .ok (.ireturn, 1) := by decide +kernel
theorem dd_Mo_told_42 : decode bb_Mo_told 42 = .ok (.iload_n 1, 1) := by decide +kernel
theorem dd_Mo_told_43 : decode bb_Mo_told 43 = .ok (.bipush 10, 2) := by decide +kernel
theorem dd_Mo_told_45 : decode bb_Mo_told 45 = .ok (.if_icmp .lt 83, 3) := by decide +kernel
theorem dd_Mo_told_48 : decode bb_Mo_told 48 = .ok (.iload_n 1, 1) := by decide +kernel
theorem dd_Mo_told_49 : decode bb_Mo_told 49 = .ok (.bipush 13, 2) := by decide +kernel
theorem dd_Mo_told_51 : decode bb_Mo_told 51 = .ok (.if_icmp .gt 77, 3) := by decide +kernel
theorem dd_Mo_told_54 : decode bb_Mo_told 54 = .ok (.iload_n 2, 1) := by decide +kernel
theorem dd_Mo_told_55 : decode bb_Mo_told 55 = .ok (.bipush 100, 2) := by decide +kernel
theorem dd_Mo_told_57 : decode bb_Mo_told 57 = .ok (.invokestatic 536, 3) := by decide +kernel
theorem dd_Mo_told_60 : decode bb_Mo_told 60 = .ok (.ifCond .eq 12, 3) := by decide +kernel
theorem dd_Mo_told_63 : decode bb_Mo_told 63 = .ok (.aload_n 0, 1) := by decide +kernel
theorem dd_Mo_told_64 : decode bb_Mo_told 64 = .ok (.getfield 16, 3) := by decide +kernel
theorem dd_Mo_told_67 : decode bb_Mo_told 67 = .ok (.iload_n 2, 1) := by decide +kernel
theorem dd_Mo_told_68 : decode bb_Mo_told 68 = .ok (.baload, 1) := by decide +kernel
theorem dd_Mo_told_69 : decode bb_Mo_told 69 = .ok (.ifCond .ne 7, 3) := by decide +kernel
theorem dd_Mo_told_72 : decode bb_Mo_told 72 = .ok (.sipush 10000, 3) := by decide +kernel
theorem dd_Mo_told_75 : decode bb_Mo_told 75 = .ok (.ireturn, 1) := by decide +kernel
theorem dd_Mo_told_76 : decode bb_Mo_told 76 = .ok (.iload_n 1, 1) := by decide +kernel
theorem dd_Mo_told_77 : decode bb_Mo_told 77 = .ok (.bipush 10, 2) := by decide +kernel
theorem dd_Mo_told_79 : decode bb_Mo_told 79 = .ok (.if_icmp .ne 12, 3) := by decide +kernel
theorem dd_Mo_told_82 : decode bb_Mo_told 82 = .ok (.aload_n 0, 1) := by decide +kernel
theorem dd_Mo_told_83 : decode bb_Mo_told 83 = .ok (.getfield 20, 3) := by decide +kernel
theorem dd_Mo_told_86 : decode bb_Mo_told 86 = .ok (.iload_n 2, 1) := by decide +kernel
theorem dd_Mo_told_87 : decode bb_Mo_told 87 = .ok (.iaload, 1) := by decide +kernel
theorem dd_Mo_told_88 : decode bb_Mo_told 88 = .ok (.goto 39, 3) := by decide +kernel
theorem dd_Mo_told_91 : decode bb_Mo_told 91 = .ok (.iload_n 1, 1) := by decide +kernel
theorem dd_Mo_told_92 : decode bb_Mo_told 92 = .ok (.bipush 11, 2) := by decide +kernel
theorem dd_Mo_told_94 : decode bb_Mo_told 94 = .ok (.if_icmp .ne 12, 3) := by decide +kernel
theorem dd_Mo_told_97 : decode bb_Mo_told 97 = .ok (.aload_n 0, 1) := by decide +kernel
theorem dd_Mo_told_98 : decode bb_Mo_told 98 = .ok (.getfield 23, 3) := by decide +kernel
theorem dd_Mo_told_101 : decode bb_Mo_told 101 = .ok (.iload_n 2, 1) := by decide +kernel
theorem dd_Mo_told_102 : decode bb_Mo_told 102 = .ok (.iaload, 1) := by decide +kernel
theorem dd_Mo_told_103 : decode bb_Mo_told 103 = .ok (.goto 24, 3) := by decide +kernel
theorem dd_Mo_told_106 : decode bb_Mo_told 106 = .ok (.iload_n 1, 1) := by decide +kernel
theorem dd_Mo_told_107 : decode bb_Mo_told 107 = .ok (.bipush 12, 2) := by decide +kernel
theorem dd_Mo_told_109 : decode bb_Mo_told 109 = .ok (.if_icmp .ne 12, 3) := by decide +kernel
theorem dd_Mo_told_112 : decode bb_Mo_told 112 = .ok (.aload_n 0, 1) := by decide +kernel
theorem dd_Mo_told_113 : decode bb_Mo_told 113 = .ok (.getfield 26, 3) := by decide +kernel
theorem dd_Mo_told_116 : decode bb_Mo_told 116 = .ok (.iload_n 2, 1) := by decide +kernel
theorem dd_Mo_told_117 : decode bb_Mo_told 117 = .ok (.iaload, 1) := by decide +kernel
theorem dd_Mo_told_118 : decode bb_Mo_told 118 = .ok (.goto 9, 3) := by decide +kernel
theorem dd_Mo_told_121 : decode bb_Mo_told 121 = .ok (.aload_n 0, 1) := by decide +kernel
theorem dd_Mo_told_122 : decode bb_Mo_told 122 = .ok (.getfield 29, 3) := by decide +kernel
theorem dd_Mo_told_125 : decode bb_Mo_told 125 = .ok (.iload_n 2, 1) := by decide +kernel
theorem dd_Mo_told_126 : decode bb_Mo_told 126 = .ok (.iaload, 1) := by decide +kernel
theorem dd_Mo_told_127 : decode bb_Mo_told 127 = .ok (.ireturn, 1) := by decide +kernel
theorem dd_Mo_told_128 : decode bb_Mo_told 128 = .ok (.iload_n 1, 1) := by decide +kernel
theorem dd_Mo_told_129 : decode bb_Mo_told 129 = .ok (.iconst 3, 1) := by decide +kernel
theorem dd_Mo_told_130 : decode bb_Mo_told 130 = .ok (.if_icmp .lt 20, 3) := by decide +kernel
theorem dd_Mo_told_133 : decode bb_Mo_told 133 = .ok (.iload_n 1, 1) := by decide +kernel
theorem dd_Mo_told_134 : decode bb_Mo_told 134 = .ok (.bipush 9, 2) := by decide +kernel
theorem dd_Mo_told_136 : decode bb_Mo_told 136 = .ok (.if_icmp .gt 14, 3) := by decide +kernel
theorem dd_Mo_told_139 : decode bb_Mo_told 139 = .ok (.iload_n 2, 1) := by decide +kernel
theorem dd_Mo_told_140 : decode bb_Mo_told 140 = .ok (.aload_n 0, 1) := by decide +kernel
theorem dd_Mo_told_141 : decode bb_Mo_told 141 = .ok (.getfield 450, 3) := by decide +kernel
theorem dd_Mo_told_144 : decode bb_Mo_told 144 = .ok (.invokestatic 536, 3) := by decide +kernel
theorem dd_Mo_told_147 : decode bb_Mo_told 147 = .ok (.ifCond .ne 7, 3) := by decide +kernel
theorem dd_Mo_told_150 : decode bb_Mo_told 150 = .ok (.sipush 10000, 3) := by decide +kernel
theorem dd_Mo_told_153 : decode bb_Mo_told 153 = .ok (.ireturn, 1) := by decide +kernel
theorem dd_Mo_told_154 : decode bb_Mo_told 154 = .ok (.iload_n 1, 1) := by decide +kernel
theorem dd_Mo_told_155 : decode bb_Mo_told 155 = .ok (.iconst 3, 1) := by decide +kernel
theorem dd_Mo_told_156 : decode bb_Mo_told 156 = .ok (.if_icmp .ne 10, 3) := by decide +kernel
theorem dd_Mo_told_159 : decode bb_Mo_told 159 = .ok (.aload_n 0, 1) := by decide +kernel
theorem dd_Mo_told_160 : decode bb_Mo_told 160 = .ok (.getfield 7, 3) := by decide +kernel
theorem dd_Mo_told_163 : decode bb_Mo_told 163 = .ok (.iload_n 2, 1) := by decide +kernel
theorem dd_Mo_told_164 : decode bb_Mo_told 164 = .ok (.iaload, 1) := by decide +kernel
theorem dd_Mo_told_165 : decode bb_Mo_told 165 = .ok (.ireturn, 1) := by decide +kernel
theorem dd_Mo_told_166 : decode bb_Mo_told 166 = .ok (.iload_n 1, 1) := by decide +kernel
theorem dd_Mo_told_167 : decode bb_Mo_told 167 = .ok (.bipush 8, 2) := by decide +kernel
theorem dd_Mo_told_169 : decode bb_Mo_told 169 = .ok (.if_icmp .ge 16, 3) := by decide +kernel
theorem dd_Mo_told_172 : decode bb_Mo_told 172 = .ok (.aload_n 0, 1) := by decide +kernel
theorem dd_Mo_told_173 : decode bb_Mo_told 173 = .ok (.getfield 13, 3) := by decide +kernel
theorem dd_Mo_told_176 : decode bb_Mo_told 176 = .ok (.iconst 4, 1) := by decide +kernel
theorem dd_Mo_told_177 : decode bb_Mo_told 177 = .ok (.iload_n 2, 1) := by decide +kernel
theorem dd_Mo_told_178 : decode bb_Mo_told 178 = .ok (.imul, 1) := by decide +kernel
theorem dd_Mo_told_179 : decode bb_Mo_told 179 = .ok (.iload_n 1, 1) := by decide +kernel
theorem dd_Mo_told_180 : decode bb_Mo_told 180 = .ok (.iadd, 1) := by decide +kernel
theorem dd_Mo_told_181 : decode bb_Mo_told 181 = .ok (.iconst 4, 1) := by decide +kernel
theorem dd_Mo_told_182 : decode bb_Mo_told 182 = .ok (.isub, 1) := by decide +kernel
theorem dd_Mo_told_183 : decode bb_Mo_told 183 = .ok (.iaload, 1) := by decide +kernel
theorem dd_Mo_told_184 : decode bb_Mo_told 184 = .ok (.ireturn, 1) := by decide +kernel
theorem dd_Mo_told_185 : decode bb_Mo_told 185 = .ok (.iconst 0, 1) := by decide +kernel
theorem dd_Mo_told_186 : decode bb_Mo_told 186 = .ok (.istore_n 3, 1) := by decide +kernel
theorem dd_Mo_told_187 : decode bb_Mo_told 187 = .ok (.iconst 0, 1) := by decide +kernel
theorem dd_Mo_told_188 : decode bb_Mo_told 188 = .ok (.istore 4, 2) := by decide +kernel
theorem dd_Mo_told_190 : decode bb_Mo_told 190 = .ok (.iload 4, 2) := by decide +kernel
theorem dd_Mo_told_192 : decode bb_Mo_told 192 = .ok (.bipush 100, 2) := by decide +kernel
theorem dd_Mo_told_194 : decode bb_Mo_told 194 = .ok (.if_icmp .ge 54, 3) := by decide +kernel
theorem dd_Mo_told_197 : decode bb_Mo_told 197 = .ok (.iload_n 3, 1) := by decide +kernel
theorem dd_Mo_told_198 : decode bb_Mo_told 198 = .ok (.aload_n 0, 1) := by decide +kernel
theorem dd_Mo_told_199 : decode bb_Mo_told 199 = .ok (.getfield 16, 3) := by decide +kernel
theorem dd_Mo_told_202 : decode bb_Mo_told 202 = .ok (.iload 4, 2) := by decide +kernel
theorem dd_Mo_told_204 : decode bb_Mo_told 204 = .ok (.baload, 1) := by decide +kernel
theorem dd_Mo_told_205 : decode bb_Mo_told 205 = .ok (.ifCond .eq 34, 3) := by decide +kernel
theorem dd_Mo_told_208 : decode bb_Mo_told 208 = .ok (.iload_n 1, 1) := by decide +kernel
theorem dd_Mo_told_209 : decode bb_Mo_told 209 = .ok (.bipush 8, 2) := by decide +kernel
theorem dd_Mo_told_211 : decode bb_Mo_told 211 = .ok (.if_icmp .ne 13, 3) := by decide +kernel
theorem dd_Mo_told_214 : decode bb_Mo_told 214 = .ok (.aload_n 0, 1) := by decide +kernel
theorem dd_Mo_told_215 : decode bb_Mo_told 215 = .ok (.getfield 20, 3) := by decide +kernel
theorem dd_Mo_told_218 : decode bb_Mo_told 218 = .ok (.iload 4, 2) := by decide +kernel
theorem dd_Mo_told_220 : decode bb_Mo_told 220 = .ok (.iaload, 1) := by decide +kernel
theorem dd_Mo_told_221 : decode bb_Mo_told 221 = .ok (.goto 10, 3) := by decide +kernel
theorem dd_Mo_told_224 : decode bb_Mo_told 224 = .ok (.aload_n 0, 1) := by decide +kernel
theorem dd_Mo_told_225 : decode bb_Mo_told 225 = .ok (.getfield 23, 3) := by decide +kernel
theorem dd_Mo_told_228 : decode bb_Mo_told 228 = .ok (.iload 4, 2) := by decide +kernel
theorem dd_Mo_told_230 : decode bb_Mo_told 230 = .ok (.iaload, 1) := by decide +kernel
theorem dd_Mo_told_231 : decode bb_Mo_told 231 = .ok (.iload_n 2, 1) := by decide +kernel
theorem dd_Mo_told_232 : decode bb_Mo_told 232 = .ok (.if_icmp .ne 7, 3) := by decide +kernel
theorem dd_Mo_told_235 : decode bb_Mo_told 235 = .ok (.iconst 1, 1) := by decide +kernel
theorem dd_Mo_told_236 : decode bb_Mo_told 236 = .ok (.goto 4, 3) := by decide +kernel
theorem dd_Mo_told_239 : decode bb_Mo_told 239 = .ok (.iconst 0, 1) := by decide +kernel
theorem dd_Mo_told_240 : decode bb_Mo_told 240 = .ok (.iadd, 1) := by decide +kernel
theorem dd_Mo_told_241 : decode bb_Mo_told 241 = .ok (.istore_n 3, 1) := by decide +kernel
theorem dd_Mo_told_242 : decode bb_Mo_told 242 = .ok (.iinc 4 1, 3) := by decide +kernel
theorem dd_Mo_told_245 : decode bb_Mo_told 245 = .ok (.goto (-55), 3) := by decide +kernel
theorem dd_Mo_told_248 : decode bb_Mo_told 248 = .ok (.iload_n 3, 1) := by decide +kernel
theorem dd_Mo_told_249 : decode bb_Mo_told 249 = .ok (.ireturn, 1) := by decide +kernel
set_option maxRecDepth 100000 in
set_option maxHeartbeats 4000000 in
theorem t_Mo_told_41  (X : zX p s m args cd D cid B bb_Mo_told 5 rr_Mo zT) (H : zH s meth B n0 (some (.int)) "told") {nf : Nat} {s0 : Int32} {c : Zc} {res : Int32 × Zc} (h : f_Mo_told_41 nf s0 c = some res) : Zz p l e (zRm 1 22 0 0) s m args below meth cd (MQ below (zQi D cid B res.1 res.2 n0 0) args s 0 0 (fun q => B ≤ q)) D cid B 5 0 0 c 41 [] [.int s0] := by
  unfold f_Mo_told_41 at h
  obtain rfl := Option.some.inj h
  exact z_iret X H.1 H.2.1 H.2.2.1 dd_Mo_told_41
set_option maxRecDepth 100000 in
set_option maxHeartbeats 4000000 in
theorem t_Mo_told_14  (X : zX p s m args cd D cid B bb_Mo_told 5 rr_Mo zT) (H : zH s meth B n0 (some (.int)) "told") {nf : Nat} {x0 : Nat} {x1 : Int32} {c : Zc} {res : Int32 × Zc} (h : f_Mo_told_14 nf x0 x1 c = some res) : Zz p l e (zRm 1 22 0 0) s m args below meth cd (MQ below (zQi D cid B res.1 res.2 n0 0) args s 0 0 (fun q => B ≤ q)) D cid B 5 0 0 c 14 [(0, .ref x0), (1, .int x1)] [] := by
  unfold f_Mo_told_14 at h
  refine z_iload_n X dd_Mo_told_14 rfl 1 rfl ?_
  refine z_if_ne (tgt := 25) X dd_Mo_told_15 (by decide) (fun q2 => ?_) (fun q2 => ?_)
  · rw [if_neg q2] at h
    refine z_iload_n X dd_Mo_told_25 rfl 1 rfl ?_
    refine z_iconst (v := 1) X dd_Mo_told_26 (by decide) ?_
    refine z_icmp_ne (tgt := 37) X dd_Mo_told_27 (by decide) (fun q3 => ?_) (fun q3 => ?_)
    · rw [if_neg q3] at h
      refine z_aload_n X dd_Mo_told_37 rfl 0 rfl ?_
      obtain ⟨w5, ew5, h⟩ := zb h
      obtain ⟨q4, eq4, h⟩ := zb h
      refine z_callVi X [] rfl dd_Mo_told_38 (c_Mo_ruleCount l eq4) (cwV 0 X.1.2.2.2.2 (zg_V km_1836 km_1838 km_61 km_138 km_1839) rfl rfl rfl (by decide +kernel) ⟨Nat.le_of_ble_eq_true rfl, Nat.le_of_ble_eq_true rfl⟩) (zob_s ew5) kc_12 rfl (Nat.le_of_ble_eq_true rfl) ⟨Nat.le_of_ble_eq_true rfl, Nat.le_of_ble_eq_true rfl⟩ ?_
      refine z_sub [] rfl ?_
      exact t_Mo_told_41 X H h
    · rw [if_pos q3] at h
      refine z_aload_n X dd_Mo_told_30 rfl 0 rfl ?_
      obtain ⟨v6, ev6, h⟩ := zb h
      refine z_get (j := 8) X dd_Mo_told_31 kc_12 ki_12 (by decide) km_1529 (zgi_v ev6) ?_
      refine z_goto (tgt := 41) X dd_Mo_told_34 (by decide) ?_
      refine z_sub [] rfl ?_
      exact t_Mo_told_41 X H h
  · rw [if_pos q2] at h
    refine z_aload_n X dd_Mo_told_18 rfl 0 rfl ?_
    obtain ⟨v7, ev7, h⟩ := zb h
    refine z_get (j := 0) X dd_Mo_told_19 kc_12 ki_12 (by decide) km_1521 (zgi_v ev7) ?_
    refine z_goto (tgt := 41) X dd_Mo_told_22 (by decide) ?_
    refine z_sub [] rfl ?_
    exact t_Mo_told_41 X H h
set_option maxRecDepth 100000 in
set_option maxHeartbeats 4000000 in
theorem t_Mo_told_150  (X : zX p s m args cd D cid B bb_Mo_told 5 rr_Mo zT) (H : zH s meth B n0 (some (.int)) "told") {nf : Nat}  {c : Zc} {res : Int32 × Zc} (h : f_Mo_told_150 nf  c = some res) : Zz p l e (zRm 1 22 0 0) s m args below meth cd (MQ below (zQi D cid B res.1 res.2 n0 0) args s 0 0 (fun q => B ≤ q)) D cid B 5 0 0 c 150 [] [] := by
  unfold f_Mo_told_150 at h
  refine z_sipush (v := 10000) X dd_Mo_told_150 (by decide) ?_
  obtain rfl := Option.some.inj h
  exact z_iret X H.1 H.2.1 H.2.2.1 dd_Mo_told_153
set_option maxRecDepth 100000 in
set_option maxHeartbeats 4000000 in
theorem t_Mo_told_240  (X : zX p s m args cd D cid B bb_Mo_told 5 rr_Mo zT) (H : zH s meth B n0 (some (.int)) "told") {nf : Nat} {x0 : Nat} {x1 : Int32} {x2 : Int32} {x4 : Int32} {s0 : Int32} {s1 : Int32} {c : Zc} {r : (Nat × Int32 × Int32 × Int32 × Int32 × Zc) ⊕ (Int32 × Zc)} (h : f_Mo_told_240 nf x0 x1 x2 x4 s0 s1 c = some r) (k0 : ∀ a, r = .inl a → (fun a : Nat × Int32 × Int32 × Int32 × Int32 × Zc => Zz p l e (zRm 1 22 0 0) s m args below meth cd Q D cid B 5 0 0 a.2.2.2.2.2 190 [(0, .ref a.1), (1, .int a.2.1), (2, .int a.2.2.1), (3, .int a.2.2.2.1), (4, .int a.2.2.2.2.1)] []) a) (k1 : ∀ b, r = .inr b → (fun b : Int32 × Zc => Zz p l e (zRm 1 22 0 0) s m args below meth cd Q D cid B 5 0 0 b.2 248 [(3, .int b.1)] []) b) : Zz p l e (zRm 1 22 0 0) s m args below meth cd Q D cid B 5 0 0 c 240 [(0, .ref x0), (1, .int x1), (2, .int x2), (4, .int x4)] [.int s1, .int s0] := by
  unfold f_Mo_told_240 at h
  refine z_iadd X dd_Mo_told_240 ?_
  refine z_istore_n (lv' := [(3, .int (s0 + s1)), (0, .ref x0), (1, .int x1), (2, .int x2), (4, .int x4)]) X dd_Mo_told_241 rfl (by decide) rfl ?_
  refine z_iinc (v := (x4 + 1)) (lv' := [(4, .int (x4 + 1)), (3, .int (s0 + s1)), (0, .ref x0), (1, .int x1), (2, .int x2)]) X dd_Mo_told_242 4 rfl rfl (by decide) rfl ?_
  refine z_goto (tgt := 190) X dd_Mo_told_245 (by decide) ?_
  refine z_sub [2, 3, 4, 1, 0] rfl ?_
  obtain rfl := Option.some.inj h
  exact k0 _ rfl
set_option maxRecDepth 100000 in
set_option maxHeartbeats 4000000 in
theorem t_Mo_told_239  (X : zX p s m args cd D cid B bb_Mo_told 5 rr_Mo zT) (H : zH s meth B n0 (some (.int)) "told") {nf : Nat} {x0 : Nat} {x1 : Int32} {x2 : Int32} {x4 : Int32} {s0 : Int32} {c : Zc} {r : (Nat × Int32 × Int32 × Int32 × Int32 × Zc) ⊕ (Int32 × Zc)} (h : f_Mo_told_239 nf x0 x1 x2 x4 s0 c = some r) (k0 : ∀ a, r = .inl a → (fun a : Nat × Int32 × Int32 × Int32 × Int32 × Zc => Zz p l e (zRm 1 22 0 0) s m args below meth cd Q D cid B 5 0 0 a.2.2.2.2.2 190 [(0, .ref a.1), (1, .int a.2.1), (2, .int a.2.2.1), (3, .int a.2.2.2.1), (4, .int a.2.2.2.2.1)] []) a) (k1 : ∀ b, r = .inr b → (fun b : Int32 × Zc => Zz p l e (zRm 1 22 0 0) s m args below meth cd Q D cid B 5 0 0 b.2 248 [(3, .int b.1)] []) b) : Zz p l e (zRm 1 22 0 0) s m args below meth cd Q D cid B 5 0 0 c 239 [(0, .ref x0), (1, .int x1), (2, .int x2), (4, .int x4)] [.int s0] := by
  unfold f_Mo_told_239 at h
  refine z_iconst (v := 0) X dd_Mo_told_239 (by decide) ?_
  exact t_Mo_told_240 X H h k0 k1
set_option maxRecDepth 100000 in
set_option maxHeartbeats 4000000 in
theorem t_Mo_told_231  (X : zX p s m args cd D cid B bb_Mo_told 5 rr_Mo zT) (H : zH s meth B n0 (some (.int)) "told") {nf : Nat} {x0 : Nat} {x1 : Int32} {x2 : Int32} {x4 : Int32} {s0 : Int32} {s1 : Int32} {c : Zc} {r : (Nat × Int32 × Int32 × Int32 × Int32 × Zc) ⊕ (Int32 × Zc)} (h : f_Mo_told_231 nf x0 x1 x2 x4 s0 s1 c = some r) (k0 : ∀ a, r = .inl a → (fun a : Nat × Int32 × Int32 × Int32 × Int32 × Zc => Zz p l e (zRm 1 22 0 0) s m args below meth cd Q D cid B 5 0 0 a.2.2.2.2.2 190 [(0, .ref a.1), (1, .int a.2.1), (2, .int a.2.2.1), (3, .int a.2.2.2.1), (4, .int a.2.2.2.2.1)] []) a) (k1 : ∀ b, r = .inr b → (fun b : Int32 × Zc => Zz p l e (zRm 1 22 0 0) s m args below meth cd Q D cid B 5 0 0 b.2 248 [(3, .int b.1)] []) b) : Zz p l e (zRm 1 22 0 0) s m args below meth cd Q D cid B 5 0 0 c 231 [(0, .ref x0), (1, .int x1), (2, .int x2), (4, .int x4)] [.int s1, .int s0] := by
  unfold f_Mo_told_231 at h
  refine z_iload_n X dd_Mo_told_231 rfl 2 rfl ?_
  refine z_icmp_ne (tgt := 239) X dd_Mo_told_232 (by decide) (fun q25 => ?_) (fun q25 => ?_)
  · rw [if_neg q25] at h
    exact t_Mo_told_239 X H h k0 k1
  · rw [if_pos q25] at h
    refine z_iconst (v := 1) X dd_Mo_told_235 (by decide) ?_
    refine z_goto (tgt := 240) X dd_Mo_told_236 (by decide) ?_
    exact t_Mo_told_240 X H h k0 k1
set_option maxRecDepth 100000 in
set_option maxHeartbeats 4000000 in
theorem u_Mo_told_190  (X : zX p s m args cd D cid B bb_Mo_told 5 rr_Mo zT) (H : zH s meth B n0 (some (.int)) "told") {nf : Nat} {x0 : Nat} {x1 : Int32} {x2 : Int32} {x3 : Int32} {x4 : Int32} {c : Zc} {r : (Nat × Int32 × Int32 × Int32 × Int32 × Zc) ⊕ (Int32 × Zc)} (h : g_Mo_told_190 nf x0 x1 x2 x3 x4 c = some r) (k0 : ∀ a, r = .inl a → (fun a : Nat × Int32 × Int32 × Int32 × Int32 × Zc => Zz p l e (zRm 1 22 0 0) s m args below meth cd Q D cid B 5 0 0 a.2.2.2.2.2 190 [(0, .ref a.1), (1, .int a.2.1), (2, .int a.2.2.1), (3, .int a.2.2.2.1), (4, .int a.2.2.2.2.1)] []) a) (k1 : ∀ b, r = .inr b → (fun b : Int32 × Zc => Zz p l e (zRm 1 22 0 0) s m args below meth cd Q D cid B 5 0 0 b.2 248 [(3, .int b.1)] []) b) : Zz p l e (zRm 1 22 0 0) s m args below meth cd Q D cid B 5 0 0 c 190 [(0, .ref x0), (1, .int x1), (2, .int x2), (3, .int x3), (4, .int x4)] [] := by
  unfold g_Mo_told_190 at h
  refine z_iload X dd_Mo_told_190 4 rfl ?_
  refine z_bipush (v := 100) X dd_Mo_told_192 (by decide) ?_
  refine z_icmp_ge (tgt := 248) X dd_Mo_told_194 (by decide) (fun q18 => ?_) (fun q18 => ?_)
  · rw [if_pos q18] at h
    refine z_sub [3] rfl ?_
    obtain rfl := Option.some.inj h
    exact k1 _ rfl
  · rw [if_neg q18] at h
    refine z_iload_n X dd_Mo_told_197 rfl 3 rfl ?_
    refine z_aload_n X dd_Mo_told_198 rfl 0 rfl ?_
    obtain ⟨v19, ev19, h⟩ := zb h
    refine z_get (j := 3) X dd_Mo_told_199 kc_12 ki_12 (by decide) km_1524 (zgr_v ev19) ?_
    refine z_iload X dd_Mo_told_202 4 rfl ?_
    obtain ⟨v20, ev20, h⟩ := zb h
    refine z_zaload X dd_Mo_told_204 rfl ev20 ?_
    refine z_if_eq (tgt := 239) X dd_Mo_told_205 (by decide) (fun q21 => ?_) (fun q21 => ?_)
    · rw [if_pos q21] at h
      refine z_sub [0, 1, 2, 4] rfl ?_
      exact t_Mo_told_239 X H h k0 k1
    · rw [if_neg q21] at h
      refine z_iload_n X dd_Mo_told_208 rfl 1 rfl ?_
      refine z_bipush (v := 8) X dd_Mo_told_209 (by decide) ?_
      refine z_icmp_ne (tgt := 224) X dd_Mo_told_211 (by decide) (fun q22 => ?_) (fun q22 => ?_)
      · rw [if_neg q22] at h
        refine z_aload_n X dd_Mo_told_224 rfl 0 rfl ?_
        obtain ⟨v23, ev23, h⟩ := zb h
        refine z_get (j := 5) X dd_Mo_told_225 kc_12 ki_12 (by decide) km_1526 (zgr_v ev23) ?_
        refine z_iload X dd_Mo_told_228 4 rfl ?_
        obtain ⟨v24, ev24, h⟩ := zb h
        refine z_iaload X dd_Mo_told_230 rfl ev24 ?_
        refine z_sub [0, 1, 2, 4] rfl ?_
        exact t_Mo_told_231 X H h k0 k1
      · rw [if_pos q22] at h
        refine z_aload_n X dd_Mo_told_214 rfl 0 rfl ?_
        obtain ⟨v26, ev26, h⟩ := zb h
        refine z_get (j := 4) X dd_Mo_told_215 kc_12 ki_12 (by decide) km_1525 (zgr_v ev26) ?_
        refine z_iload X dd_Mo_told_218 4 rfl ?_
        obtain ⟨v27, ev27, h⟩ := zb h
        refine z_iaload X dd_Mo_told_220 rfl ev27 ?_
        refine z_goto (tgt := 231) X dd_Mo_told_221 (by decide) ?_
        refine z_sub [0, 1, 2, 4] rfl ?_
        exact t_Mo_told_231 X H h k0 k1
set_option maxRecDepth 100000 in
set_option maxHeartbeats 4000000 in
theorem t_Mo_told_190  (X : zX p s m args cd D cid B bb_Mo_told 5 rr_Mo zT) (H : zH s meth B n0 (some (.int)) "told") {nf : Nat} {x0 : Nat} {x1 : Int32} {x2 : Int32} {x3 : Int32} {x4 : Int32} {c : Zc} {res : Int32 × Zc} (h : f_Mo_told_190 nf x0 x1 x2 x3 x4 c = some res) : Zz p l e (zRm 1 22 0 0) s m args below meth cd (MQ below (zQi D cid B res.1 res.2 n0 0) args s 0 0 (fun q => B ≤ q)) D cid B 5 0 0 c 190 [(0, .ref x0), (1, .int x1), (2, .int x2), (3, .int x3), (4, .int x4)] [] := by
  unfold f_Mo_told_190 at h
  obtain ⟨b, eb, h⟩ := zb h
  refine zlp_ok (P := fun a : Nat × Int32 × Int32 × Int32 × Int32 × Zc => Zz p l e (zRm 1 22 0 0) s m args below meth cd _ D cid B 5 0 0 a.2.2.2.2.2 190 [(0, .ref a.1), (1, .int a.2.1), (2, .int a.2.2.1), (3, .int a.2.2.2.1), (4, .int a.2.2.2.2.1)] []) (G := fun b : Int32 × Zc => Zz p l e (zRm 1 22 0 0) s m args below meth cd _ D cid B 5 0 0 b.2 248 [(3, .int b.1)] []) (fun a r ha k0 k1 => u_Mo_told_190 X H ha k0 k1) nf _ b eb ?_
  refine z_iload_n X dd_Mo_told_248 rfl 0 rfl ?_
  obtain rfl := Option.some.inj h
  exact z_iret X H.1 H.2.1 H.2.2.1 dd_Mo_told_249
set_option maxRecDepth 100000 in
set_option maxHeartbeats 4000000 in
theorem t_Mo_told_128  (X : zX p s m args cd D cid B bb_Mo_told 5 rr_Mo zT) (H : zH s meth B n0 (some (.int)) "told") {nf : Nat} {x0 : Nat} {x1 : Int32} {x2 : Int32} {c : Zc} {res : Int32 × Zc} (h : f_Mo_told_128 nf x0 x1 x2 c = some res) : Zz p l e (zRm 1 22 0 0) s m args below meth cd (MQ below (zQi D cid B res.1 res.2 n0 0) args s 0 0 (fun q => B ≤ q)) D cid B 5 0 0 c 128 [(0, .ref x0), (1, .int x1), (2, .int x2)] [] := by
  unfold f_Mo_told_128 at h
  refine z_iload_n X dd_Mo_told_128 rfl 1 rfl ?_
  refine z_iconst (v := 3) X dd_Mo_told_129 (by decide) ?_
  refine z_icmp_lt (tgt := 150) X dd_Mo_told_130 (by decide) (fun q11 => ?_) (fun q11 => ?_)
  · rw [if_pos q11] at h
    refine z_sub [] rfl ?_
    exact t_Mo_told_150 X H h
  · rw [if_neg q11] at h
    refine z_iload_n X dd_Mo_told_133 rfl 1 rfl ?_
    refine z_bipush (v := 9) X dd_Mo_told_134 (by decide) ?_
    refine z_icmp_gt (tgt := 150) X dd_Mo_told_136 (by decide) (fun q12 => ?_) (fun q12 => ?_)
    · rw [if_pos q12] at h
      refine z_sub [] rfl ?_
      exact t_Mo_told_150 X H h
    · rw [if_neg q12] at h
      refine z_iload_n X dd_Mo_told_139 rfl 2 rfl ?_
      refine z_aload_n X dd_Mo_told_140 rfl 0 rfl ?_
      obtain ⟨v13, ev13, h⟩ := zb h
      refine z_get (j := 0) X dd_Mo_told_141 kc_12 ki_12 (by decide) km_1521 (zgi_v ev13) ?_
      obtain ⟨q14, eq14, h⟩ := zb h
      refine z_callSi X [.int x2, .int v13] rfl dd_Mo_told_144 (c_Mo_isIn l eq14) (va_cwS 2 X.1.2.2.2.2 (zg_S km_1809 km_1810 km_138 km_1811) rfl rfl rfl (by decide +kernel) ⟨Nat.le_of_ble_eq_true rfl, Nat.le_of_ble_eq_true rfl⟩) rfl (Nat.le_of_ble_eq_true rfl) ⟨Nat.le_of_ble_eq_true rfl, Nat.le_of_ble_eq_true rfl⟩ ?_
      refine z_if_ne (tgt := 154) X dd_Mo_told_147 (by decide) (fun q15 => ?_) (fun q15 => ?_)
      · rw [if_neg q15] at h
        refine z_iload_n X dd_Mo_told_154 rfl 1 rfl ?_
        refine z_iconst (v := 3) X dd_Mo_told_155 (by decide) ?_
        refine z_icmp_ne (tgt := 166) X dd_Mo_told_156 (by decide) (fun q16 => ?_) (fun q16 => ?_)
        · rw [if_neg q16] at h
          refine z_iload_n X dd_Mo_told_166 rfl 1 rfl ?_
          refine z_bipush (v := 8) X dd_Mo_told_167 (by decide) ?_
          refine z_icmp_ge (tgt := 185) X dd_Mo_told_169 (by decide) (fun q17 => ?_) (fun q17 => ?_)
          · rw [if_pos q17] at h
            refine z_iconst (v := 0) X dd_Mo_told_185 (by decide) ?_
            refine z_istore_n (lv' := [(3, .int 0), (0, .ref x0), (1, .int x1), (2, .int x2)]) X dd_Mo_told_186 rfl (by decide) rfl ?_
            refine z_iconst (v := 0) X dd_Mo_told_187 (by decide) ?_
            refine z_istore (lv' := [(4, .int 0), (3, .int 0), (0, .ref x0), (1, .int x1), (2, .int x2)]) X dd_Mo_told_188 (by decide) rfl ?_
            refine z_sub [2, 3, 4, 1, 0] rfl ?_
            exact t_Mo_told_190 X H h
          · rw [if_neg q17] at h
            refine z_aload_n X dd_Mo_told_172 rfl 0 rfl ?_
            obtain ⟨v28, ev28, h⟩ := zb h
            refine z_get (j := 2) X dd_Mo_told_173 kc_12 ki_12 (by decide) km_1523 (zgr_v ev28) ?_
            refine z_iconst (v := 4) X dd_Mo_told_176 (by decide) ?_
            refine z_iload_n X dd_Mo_told_177 rfl 2 rfl ?_
            refine z_imul X dd_Mo_told_178 ?_
            refine z_iload_n X dd_Mo_told_179 rfl 1 rfl ?_
            refine z_iadd X dd_Mo_told_180 ?_
            refine z_iconst (v := 4) X dd_Mo_told_181 (by decide) ?_
            refine z_isub X dd_Mo_told_182 ?_
            obtain ⟨v29, ev29, h⟩ := zb h
            refine z_iaload X dd_Mo_told_183 rfl ev29 ?_
            obtain rfl := Option.some.inj h
            exact z_iret X H.1 H.2.1 H.2.2.1 dd_Mo_told_184
        · rw [if_pos q16] at h
          refine z_aload_n X dd_Mo_told_159 rfl 0 rfl ?_
          obtain ⟨v30, ev30, h⟩ := zb h
          refine z_get (j := 1) X dd_Mo_told_160 kc_12 ki_12 (by decide) km_1522 (zgr_v ev30) ?_
          refine z_iload_n X dd_Mo_told_163 rfl 2 rfl ?_
          obtain ⟨v31, ev31, h⟩ := zb h
          refine z_iaload X dd_Mo_told_164 rfl ev31 ?_
          obtain rfl := Option.some.inj h
          exact z_iret X H.1 H.2.1 H.2.2.1 dd_Mo_told_165
      · rw [if_pos q15] at h
        refine z_sub [] rfl ?_
        exact t_Mo_told_150 X H h
set_option maxRecDepth 100000 in
set_option maxHeartbeats 4000000 in
theorem t_Mo_told_72  (X : zX p s m args cd D cid B bb_Mo_told 5 rr_Mo zT) (H : zH s meth B n0 (some (.int)) "told") {nf : Nat}  {c : Zc} {res : Int32 × Zc} (h : f_Mo_told_72 nf  c = some res) : Zz p l e (zRm 1 22 0 0) s m args below meth cd (MQ below (zQi D cid B res.1 res.2 n0 0) args s 0 0 (fun q => B ≤ q)) D cid B 5 0 0 c 72 [] [] := by
  unfold f_Mo_told_72 at h
  refine z_sipush (v := 10000) X dd_Mo_told_72 (by decide) ?_
  obtain rfl := Option.some.inj h
  exact z_iret X H.1 H.2.1 H.2.2.1 dd_Mo_told_75
set_option maxRecDepth 100000 in
set_option maxHeartbeats 4000000 in
theorem t_Mo_told_127  (X : zX p s m args cd D cid B bb_Mo_told 5 rr_Mo zT) (H : zH s meth B n0 (some (.int)) "told") {nf : Nat} {s0 : Int32} {c : Zc} {res : Int32 × Zc} (h : f_Mo_told_127 nf s0 c = some res) : Zz p l e (zRm 1 22 0 0) s m args below meth cd (MQ below (zQi D cid B res.1 res.2 n0 0) args s 0 0 (fun q => B ≤ q)) D cid B 5 0 0 c 127 [] [.int s0] := by
  unfold f_Mo_told_127 at h
  obtain rfl := Option.some.inj h
  exact z_iret X H.1 H.2.1 H.2.2.1 dd_Mo_told_127
set_option maxRecDepth 100000 in
set_option maxHeartbeats 4000000 in
theorem c_Mo_told (l : Launch) {nf : Nat} {a0 : Nat} {a1 : Int32} {a2 : Int32} {c : Zc} {res : Int32 × Zc} (h : f_Mo_told nf a0 a1 a2 c = some res) : zM l yy_Mo_told ww_Mo_told 1 22 0 0 [.ref a0, .int a1, .int a2] c (fun D cid B => zQi D cid B res.1 res.2 c.length 0) := by
  refine z_met (cc := bb_Mo_told) (maxL := 5) (ret := (some (.int))) (by decide +kernel) rfl (Nat.le_of_ble_eq_true rfl) ?_
  intro p e s m args below meth cd D cid B X h1 h2 h3 h4
  have X : zX p s m args cd D cid B bb_Mo_told 5 rr_Mo zT := X
  have H : zH s meth B c.length (some (.int)) "told" := ⟨h1, h2, h4, h3⟩
  unfold f_Mo_told at h
  show Zz p l e (zRm 1 22 0 0) s m args below meth cd _ D cid B 5 0 0 c 0 [(0, .ref a0), (1, .int a1), (2, .int a2)] []
  refine z_iload_n X dd_Mo_told_0 rfl 1 rfl ?_
  refine z_if_eq (tgt := 14) X dd_Mo_told_1 (by decide) (fun q1 => ?_) (fun q1 => ?_)
  · rw [if_pos q1] at h
    refine z_sub [0, 1] rfl ?_
    exact t_Mo_told_14 X H h
  · rw [if_neg q1] at h
    refine z_iload_n X dd_Mo_told_4 rfl 1 rfl ?_
    refine z_iconst (v := 1) X dd_Mo_told_5 (by decide) ?_
    refine z_icmp_eq (tgt := 14) X dd_Mo_told_6 (by decide) (fun q8 => ?_) (fun q8 => ?_)
    · rw [if_pos q8] at h
      refine z_sub [0, 1] rfl ?_
      exact t_Mo_told_14 X H h
    · rw [if_neg q8] at h
      refine z_iload_n X dd_Mo_told_9 rfl 1 rfl ?_
      refine z_iconst (v := 2) X dd_Mo_told_10 (by decide) ?_
      refine z_icmp_ne (tgt := 42) X dd_Mo_told_11 (by decide) (fun q9 => ?_) (fun q9 => ?_)
      · rw [if_neg q9] at h
        refine z_iload_n X dd_Mo_told_42 rfl 1 rfl ?_
        refine z_bipush (v := 10) X dd_Mo_told_43 (by decide) ?_
        refine z_icmp_lt (tgt := 128) X dd_Mo_told_45 (by decide) (fun q10 => ?_) (fun q10 => ?_)
        · rw [if_pos q10] at h
          exact t_Mo_told_128 X H h
        · rw [if_neg q10] at h
          refine z_iload_n X dd_Mo_told_48 rfl 1 rfl ?_
          refine z_bipush (v := 13) X dd_Mo_told_49 (by decide) ?_
          refine z_icmp_gt (tgt := 128) X dd_Mo_told_51 (by decide) (fun q32 => ?_) (fun q32 => ?_)
          · rw [if_pos q32] at h
            exact t_Mo_told_128 X H h
          · rw [if_neg q32] at h
            refine z_iload_n X dd_Mo_told_54 rfl 2 rfl ?_
            refine z_bipush (v := 100) X dd_Mo_told_55 (by decide) ?_
            obtain ⟨q33, eq33, h⟩ := zb h
            refine z_callSi X [.int a2, .int 100] rfl dd_Mo_told_57 (c_Mo_isIn l eq33) (va_cwS 2 X.1.2.2.2.2 (zg_S km_1809 km_1810 km_138 km_1811) rfl rfl rfl (by decide +kernel) ⟨Nat.le_of_ble_eq_true rfl, Nat.le_of_ble_eq_true rfl⟩) rfl (Nat.le_of_ble_eq_true rfl) ⟨Nat.le_of_ble_eq_true rfl, Nat.le_of_ble_eq_true rfl⟩ ?_
            refine z_if_eq (tgt := 72) X dd_Mo_told_60 (by decide) (fun q34 => ?_) (fun q34 => ?_)
            · rw [if_pos q34] at h
              refine z_sub [] rfl ?_
              exact t_Mo_told_72 X H h
            · rw [if_neg q34] at h
              refine z_aload_n X dd_Mo_told_63 rfl 0 rfl ?_
              obtain ⟨v35, ev35, h⟩ := zb h
              refine z_get (j := 3) X dd_Mo_told_64 kc_12 ki_12 (by decide) km_1524 (zgr_v ev35) ?_
              refine z_iload_n X dd_Mo_told_67 rfl 2 rfl ?_
              obtain ⟨v36, ev36, h⟩ := zb h
              refine z_zaload X dd_Mo_told_68 rfl ev36 ?_
              refine z_if_ne (tgt := 76) X dd_Mo_told_69 (by decide) (fun q37 => ?_) (fun q37 => ?_)
              · rw [if_neg q37] at h
                refine z_iload_n X dd_Mo_told_76 rfl 1 rfl ?_
                refine z_bipush (v := 10) X dd_Mo_told_77 (by decide) ?_
                refine z_icmp_ne (tgt := 91) X dd_Mo_told_79 (by decide) (fun q38 => ?_) (fun q38 => ?_)
                · rw [if_neg q38] at h
                  refine z_iload_n X dd_Mo_told_91 rfl 1 rfl ?_
                  refine z_bipush (v := 11) X dd_Mo_told_92 (by decide) ?_
                  refine z_icmp_ne (tgt := 106) X dd_Mo_told_94 (by decide) (fun q39 => ?_) (fun q39 => ?_)
                  · rw [if_neg q39] at h
                    refine z_iload_n X dd_Mo_told_106 rfl 1 rfl ?_
                    refine z_bipush (v := 12) X dd_Mo_told_107 (by decide) ?_
                    refine z_icmp_ne (tgt := 121) X dd_Mo_told_109 (by decide) (fun q40 => ?_) (fun q40 => ?_)
                    · rw [if_neg q40] at h
                      refine z_aload_n X dd_Mo_told_121 rfl 0 rfl ?_
                      obtain ⟨v41, ev41, h⟩ := zb h
                      refine z_get (j := 7) X dd_Mo_told_122 kc_12 ki_12 (by decide) km_1528 (zgr_v ev41) ?_
                      refine z_iload_n X dd_Mo_told_125 rfl 2 rfl ?_
                      obtain ⟨v42, ev42, h⟩ := zb h
                      refine z_iaload X dd_Mo_told_126 rfl ev42 ?_
                      refine z_sub [] rfl ?_
                      exact t_Mo_told_127 X H h
                    · rw [if_pos q40] at h
                      refine z_aload_n X dd_Mo_told_112 rfl 0 rfl ?_
                      obtain ⟨v43, ev43, h⟩ := zb h
                      refine z_get (j := 6) X dd_Mo_told_113 kc_12 ki_12 (by decide) km_1527 (zgr_v ev43) ?_
                      refine z_iload_n X dd_Mo_told_116 rfl 2 rfl ?_
                      obtain ⟨v44, ev44, h⟩ := zb h
                      refine z_iaload X dd_Mo_told_117 rfl ev44 ?_
                      refine z_goto (tgt := 127) X dd_Mo_told_118 (by decide) ?_
                      refine z_sub [] rfl ?_
                      exact t_Mo_told_127 X H h
                  · rw [if_pos q39] at h
                    refine z_aload_n X dd_Mo_told_97 rfl 0 rfl ?_
                    obtain ⟨v45, ev45, h⟩ := zb h
                    refine z_get (j := 5) X dd_Mo_told_98 kc_12 ki_12 (by decide) km_1526 (zgr_v ev45) ?_
                    refine z_iload_n X dd_Mo_told_101 rfl 2 rfl ?_
                    obtain ⟨v46, ev46, h⟩ := zb h
                    refine z_iaload X dd_Mo_told_102 rfl ev46 ?_
                    refine z_goto (tgt := 127) X dd_Mo_told_103 (by decide) ?_
                    refine z_sub [] rfl ?_
                    exact t_Mo_told_127 X H h
                · rw [if_pos q38] at h
                  refine z_aload_n X dd_Mo_told_82 rfl 0 rfl ?_
                  obtain ⟨v47, ev47, h⟩ := zb h
                  refine z_get (j := 4) X dd_Mo_told_83 kc_12 ki_12 (by decide) km_1525 (zgr_v ev47) ?_
                  refine z_iload_n X dd_Mo_told_86 rfl 2 rfl ?_
                  obtain ⟨v48, ev48, h⟩ := zb h
                  refine z_iaload X dd_Mo_told_87 rfl ev48 ?_
                  refine z_goto (tgt := 127) X dd_Mo_told_88 (by decide) ?_
                  refine z_sub [] rfl ?_
                  exact t_Mo_told_127 X H h
              · rw [if_pos q37] at h
                refine z_sub [] rfl ?_
                exact t_Mo_told_72 X H h
      · rw [if_pos q9] at h
        refine z_sub [0, 1] rfl ?_
        exact t_Mo_told_14 X H h
theorem dd_Mo_bare_0 : decode bb_Mo_bare 0 = .ok (.iload_n 1, 1) := by decide +kernel
theorem dd_Mo_bare_1 : decode bb_Mo_bare 1 = .ok (.aload_n 0, 1) := by decide +kernel
theorem dd_Mo_bare_2 : decode bb_Mo_bare 2 = .ok (.getfield 450, 3) := by decide +kernel
theorem dd_Mo_bare_5 : decode bb_Mo_bare 5 = .ok (.invokestatic 536, 3) := by decide +kernel
theorem dd_Mo_bare_8 : decode bb_Mo_bare 8 = .ok (.ifCond .ne 5, 3) := by decide +kernel
theorem dd_Mo_bare_11 : decode bb_Mo_bare 11 = .ok (.iconst (-1), 1) := by decide +kernel
theorem dd_Mo_bare_12 : decode bb_Mo_bare 12 = .ok (.ireturn, 1) := by decide +kernel
theorem dd_Mo_bare_13 : decode bb_Mo_bare 13 = .ok (.iconst 0, 1) := by decide +kernel
theorem dd_Mo_bare_14 : decode bb_Mo_bare 14 = .ok (.istore_n 2, 1) := by decide +kernel
theorem dd_Mo_bare_15 : decode bb_Mo_bare 15 = .ok (.iconst 0, 1) := by decide +kernel
theorem dd_Mo_bare_16 : decode bb_Mo_bare 16 = .ok (.istore_n 3, 1) := by decide +kernel
theorem dd_Mo_bare_17 : decode bb_Mo_bare 17 = .ok (.iload_n 3, 1) := by decide +kernel
theorem dd_Mo_bare_18 : decode bb_Mo_bare 18 = .ok (.bipush 100, 2) := by decide +kernel
theorem dd_Mo_bare_20 : decode bb_Mo_bare 20 = .ok (.if_icmp .ge 58, 3) := by decide +kernel
theorem dd_Mo_bare_23 : decode bb_Mo_bare 23 = .ok (.aload_n 0, 1) := by decide +kernel
theorem dd_Mo_bare_24 : decode bb_Mo_bare 24 = .ok (.getfield 16, 3) := by decide +kernel
theorem dd_Mo_bare_27 : decode bb_Mo_bare 27 = .ok (.iload_n 3, 1) := by decide +kernel
theorem dd_Mo_bare_28 : decode bb_Mo_bare 28 = .ok (.baload, 1) := by decide +kernel
theorem dd_Mo_bare_29 : decode bb_Mo_bare 29 = .ok (.ifCond .eq 43, 3) := by decide +kernel
theorem dd_Mo_bare_32 : decode bb_Mo_bare 32 = .ok (.aload_n 0, 1) := by decide +kernel
theorem dd_Mo_bare_33 : decode bb_Mo_bare 33 = .ok (.getfield 20, 3) := by decide +kernel
theorem dd_Mo_bare_36 : decode bb_Mo_bare 36 = .ok (.iload_n 3, 1) := by decide +kernel
theorem dd_Mo_bare_37 : decode bb_Mo_bare 37 = .ok (.iaload, 1) := by decide +kernel
theorem dd_Mo_bare_38 : decode bb_Mo_bare 38 = .ok (.iload_n 1, 1) := by decide +kernel
theorem dd_Mo_bare_39 : decode bb_Mo_bare 39 = .ok (.if_icmp .eq 13, 3) := by decide +kernel
theorem dd_Mo_bare_42 : decode bb_Mo_bare 42 = .ok (.aload_n 0, 1) := by decide +kernel
theorem dd_Mo_bare_43 : decode bb_Mo_bare 43 = .ok (.getfield 23, 3) := by decide +kernel
theorem dd_Mo_bare_46 : decode bb_Mo_bare 46 = .ok (.iload_n 3, 1) := by decide +kernel
theorem dd_Mo_bare_47 : decode bb_Mo_bare 47 = .ok (.iaload, 1) := by decide +kernel
theorem dd_Mo_bare_48 : decode bb_Mo_bare 48 = .ok (.iload_n 1, 1) := by decide +kernel
theorem dd_Mo_bare_49 : decode bb_Mo_bare 49 = .ok (.if_icmp .ne 23, 3) := by decide +kernel
theorem dd_Mo_bare_52 : decode bb_Mo_bare 52 = .ok (.aload_n 0, 1) := by decide +kernel
theorem dd_Mo_bare_53 : decode bb_Mo_bare 53 = .ok (.getfield 16, 3) := by decide +kernel
theorem dd_Mo_bare_56 : decode bb_Mo_bare 56 = .ok (.iload_n 3, 1) := by decide +kernel
theorem dd_Mo_bare_57 : decode bb_Mo_bare 57 = .ok (.iconst 0, 1) := by decide +kernel
theorem dd_Mo_bare_58 : decode bb_Mo_bare 58 = .ok (.bastore, 1) := by decide +kernel
theorem dd_Mo_bare_59 : decode bb_Mo_bare 59 = .ok (.aload_n 0, 1) := by decide +kernel
theorem dd_Mo_bare_60 : decode bb_Mo_bare 60 = .ok (.dup, 1) := by decide +kernel
theorem dd_Mo_bare_61 : decode bb_Mo_bare 61 = .ok (.getfield 543, 3) := by decide +kernel
theorem dd_Mo_bare_64 : decode bb_Mo_bare 64 = .ok (.iconst 1, 1) := by decide +kernel
theorem dd_Mo_bare_65 : decode bb_Mo_bare 65 = .ok (.isub, 1) := by decide +kernel
theorem dd_Mo_bare_66 : decode bb_Mo_bare 66 = .ok (.putfield 543, 3) := by decide +kernel
theorem dd_Mo_bare_69 : decode bb_Mo_bare 69 = .ok (.iinc 2 1, 3) := by decide +kernel
theorem dd_Mo_bare_72 : decode bb_Mo_bare 72 = .ok (.iinc 3 1, 3) := by decide +kernel
theorem dd_Mo_bare_75 : decode bb_Mo_bare 75 = .ok (.goto (-58), 3) := by decide +kernel
theorem dd_Mo_bare_78 : decode bb_Mo_bare 78 = .ok (.aload_n 0, 1) := by decide +kernel
theorem dd_Mo_bare_79 : decode bb_Mo_bare 79 = .ok (.getfield 7, 3) := by decide +kernel
theorem dd_Mo_bare_82 : decode bb_Mo_bare 82 = .ok (.iload_n 1, 1) := by decide +kernel
theorem dd_Mo_bare_83 : decode bb_Mo_bare 83 = .ok (.iconst 0, 1) := by decide +kernel
theorem dd_Mo_bare_84 : decode bb_Mo_bare 84 = .ok (.iastore, 1) := by decide +kernel
theorem dd_Mo_bare_85 : decode bb_Mo_bare 85 = .ok (.iconst 0, 1) := by decide +kernel
theorem dd_Mo_bare_86 : decode bb_Mo_bare 86 = .ok (.istore_n 3, 1) := by decide +kernel
theorem dd_Mo_bare_87 : decode bb_Mo_bare 87 = .ok (.iload_n 3, 1) := by decide +kernel
theorem dd_Mo_bare_88 : decode bb_Mo_bare 88 = .ok (.iconst 4, 1) := by decide +kernel
theorem dd_Mo_bare_89 : decode bb_Mo_bare 89 = .ok (.if_icmp .ge 20, 3) := by decide +kernel
theorem dd_Mo_bare_92 : decode bb_Mo_bare 92 = .ok (.aload_n 0, 1) := by decide +kernel
theorem dd_Mo_bare_93 : decode bb_Mo_bare 93 = .ok (.getfield 13, 3) := by decide +kernel
theorem dd_Mo_bare_96 : decode bb_Mo_bare 96 = .ok (.iconst 4, 1) := by decide +kernel
theorem dd_Mo_bare_97 : decode bb_Mo_bare 97 = .ok (.iload_n 1, 1) := by decide +kernel
theorem dd_Mo_bare_98 : decode bb_Mo_bare 98 = .ok (.imul, 1) := by decide +kernel
theorem dd_Mo_bare_99 : decode bb_Mo_bare 99 = .ok (.iload_n 3, 1) := by decide +kernel
theorem dd_Mo_bare_100 : decode bb_Mo_bare 100 = .ok (.iadd, 1) := by decide +kernel
theorem dd_Mo_bare_101 : decode bb_Mo_bare 101 = .ok (.iconst 0, 1) := by decide +kernel
theorem dd_Mo_bare_102 : decode bb_Mo_bare 102 = .ok (.iastore, 1) := by decide +kernel
theorem dd_Mo_bare_103 : decode bb_Mo_bare 103 = .ok (.iinc 3 1, 3) := by decide +kernel
theorem dd_Mo_bare_106 : decode bb_Mo_bare 106 = .ok (.goto (-19), 3) := by decide +kernel
theorem dd_Mo_bare_109 : decode bb_Mo_bare 109 = .ok (.aload_n 0, 1) := by decide +kernel
theorem dd_Mo_bare_110 : decode bb_Mo_bare 110 = .ok (.invokevirtual 540, 3) := by decide +kernel
theorem dd_Mo_bare_113 : decode bb_Mo_bare 113 = .ok (.iload_n 2, 1) := by decide +kernel
theorem dd_Mo_bare_114 : decode bb_Mo_bare 114 = .ok (.ireturn, 1) := by decide +kernel
set_option maxRecDepth 100000 in
set_option maxHeartbeats 4000000 in
theorem t_Mo_bare_72  (X : zX p s m args cd D cid B bb_Mo_bare 4 rr_Mo zT) (H : zH s meth B n0 (some (.int)) "bare") {nf : Nat} {x0 : Nat} {x1 : Int32} {x2 : Int32} {x3 : Int32} {c : Zc} {r : (Nat × Int32 × Int32 × Int32 × Zc) ⊕ (Nat × Int32 × Int32 × Zc)} (h : f_Mo_bare_72 nf x0 x1 x2 x3 c = some r) (k0 : ∀ a, r = .inl a → (fun a : Nat × Int32 × Int32 × Int32 × Zc => Zz p l e (zRm 1 21 0 0) s m args below meth cd Q D cid B 4 0 0 a.2.2.2.2 17 [(0, .ref a.1), (1, .int a.2.1), (2, .int a.2.2.1), (3, .int a.2.2.2.1)] []) a) (k1 : ∀ b, r = .inr b → (fun b : Nat × Int32 × Int32 × Zc => Zz p l e (zRm 1 21 0 0) s m args below meth cd Q D cid B 4 0 0 b.2.2.2 78 [(0, .ref b.1), (1, .int b.2.1), (2, .int b.2.2.1)] []) b) : Zz p l e (zRm 1 21 0 0) s m args below meth cd Q D cid B 4 0 0 c 72 [(0, .ref x0), (1, .int x1), (2, .int x2), (3, .int x3)] [] := by
  unfold f_Mo_bare_72 at h
  refine z_iinc (v := (x3 + 1)) (lv' := [(3, .int (x3 + 1)), (0, .ref x0), (1, .int x1), (2, .int x2)]) X dd_Mo_bare_72 3 rfl rfl (by decide) rfl ?_
  refine z_goto (tgt := 17) X dd_Mo_bare_75 (by decide) ?_
  refine z_sub [1, 2, 3, 0] rfl ?_
  obtain rfl := Option.some.inj h
  exact k0 _ rfl
set_option maxRecDepth 100000 in
set_option maxHeartbeats 4000000 in
theorem t_Mo_bare_52  (X : zX p s m args cd D cid B bb_Mo_bare 4 rr_Mo zT) (H : zH s meth B n0 (some (.int)) "bare") {nf : Nat} {x0 : Nat} {x1 : Int32} {x2 : Int32} {x3 : Int32} {c : Zc} {r : (Nat × Int32 × Int32 × Int32 × Zc) ⊕ (Nat × Int32 × Int32 × Zc)} (h : f_Mo_bare_52 nf x0 x1 x2 x3 c = some r) (k0 : ∀ a, r = .inl a → (fun a : Nat × Int32 × Int32 × Int32 × Zc => Zz p l e (zRm 1 21 0 0) s m args below meth cd Q D cid B 4 0 0 a.2.2.2.2 17 [(0, .ref a.1), (1, .int a.2.1), (2, .int a.2.2.1), (3, .int a.2.2.2.1)] []) a) (k1 : ∀ b, r = .inr b → (fun b : Nat × Int32 × Int32 × Zc => Zz p l e (zRm 1 21 0 0) s m args below meth cd Q D cid B 4 0 0 b.2.2.2 78 [(0, .ref b.1), (1, .int b.2.1), (2, .int b.2.2.1)] []) b) : Zz p l e (zRm 1 21 0 0) s m args below meth cd Q D cid B 4 0 0 c 52 [(0, .ref x0), (1, .int x1), (2, .int x2), (3, .int x3)] [] := by
  unfold f_Mo_bare_52 at h
  refine z_aload_n X dd_Mo_bare_52 rfl 0 rfl ?_
  obtain ⟨v11, ev11, h⟩ := zb h
  refine z_get (j := 3) X dd_Mo_bare_53 kc_12 ki_12 (by decide) km_1524 (zgr_v ev11) ?_
  refine z_iload_n X dd_Mo_bare_56 rfl 3 rfl ?_
  refine z_iconst (v := 0) X dd_Mo_bare_57 (by decide) ?_
  obtain ⟨c12, ec12, h⟩ := zb h
  refine z_zastore X dd_Mo_bare_58 rfl ec12 ?_
  refine z_aload_n X dd_Mo_bare_59 rfl 0 rfl ?_
  refine z_dup X dd_Mo_bare_60 rfl ?_
  obtain ⟨v13, ev13, h⟩ := zb h
  refine z_get (j := 8) X dd_Mo_bare_61 kc_12 ki_12 (by decide) km_1529 (zgi_v ev13) ?_
  refine z_iconst (v := 1) X dd_Mo_bare_64 (by decide) ?_
  refine z_isub X dd_Mo_bare_65 ?_
  obtain ⟨c14, ec14, h⟩ := zb h
  refine z_put (j := 8) X dd_Mo_bare_66 kc_12 ki_12 tt_Mo tk_Mo nn_Mo (by decide) km_1529 rfl (tk_Mo 8 (by decide)) rfl rfl ec14 ?_
  refine z_iinc (v := (x2 + 1)) (lv' := [(2, .int (x2 + 1)), (0, .ref x0), (1, .int x1), (3, .int x3)]) X dd_Mo_bare_69 2 rfl rfl (by decide) rfl ?_
  refine z_sub [1, 2, 0, 3] rfl ?_
  exact t_Mo_bare_72 X H h k0 k1
set_option maxRecDepth 100000 in
set_option maxHeartbeats 4000000 in
theorem u_Mo_bare_17  (X : zX p s m args cd D cid B bb_Mo_bare 4 rr_Mo zT) (H : zH s meth B n0 (some (.int)) "bare") {nf : Nat} {x0 : Nat} {x1 : Int32} {x2 : Int32} {x3 : Int32} {c : Zc} {r : (Nat × Int32 × Int32 × Int32 × Zc) ⊕ (Nat × Int32 × Int32 × Zc)} (h : g_Mo_bare_17 nf x0 x1 x2 x3 c = some r) (k0 : ∀ a, r = .inl a → (fun a : Nat × Int32 × Int32 × Int32 × Zc => Zz p l e (zRm 1 21 0 0) s m args below meth cd Q D cid B 4 0 0 a.2.2.2.2 17 [(0, .ref a.1), (1, .int a.2.1), (2, .int a.2.2.1), (3, .int a.2.2.2.1)] []) a) (k1 : ∀ b, r = .inr b → (fun b : Nat × Int32 × Int32 × Zc => Zz p l e (zRm 1 21 0 0) s m args below meth cd Q D cid B 4 0 0 b.2.2.2 78 [(0, .ref b.1), (1, .int b.2.1), (2, .int b.2.2.1)] []) b) : Zz p l e (zRm 1 21 0 0) s m args below meth cd Q D cid B 4 0 0 c 17 [(0, .ref x0), (1, .int x1), (2, .int x2), (3, .int x3)] [] := by
  unfold g_Mo_bare_17 at h
  refine z_iload_n X dd_Mo_bare_17 rfl 3 rfl ?_
  refine z_bipush (v := 100) X dd_Mo_bare_18 (by decide) ?_
  refine z_icmp_ge (tgt := 78) X dd_Mo_bare_20 (by decide) (fun q4 => ?_) (fun q4 => ?_)
  · rw [if_pos q4] at h
    refine z_sub [0, 1, 2] rfl ?_
    obtain rfl := Option.some.inj h
    exact k1 _ rfl
  · rw [if_neg q4] at h
    refine z_aload_n X dd_Mo_bare_23 rfl 0 rfl ?_
    obtain ⟨v5, ev5, h⟩ := zb h
    refine z_get (j := 3) X dd_Mo_bare_24 kc_12 ki_12 (by decide) km_1524 (zgr_v ev5) ?_
    refine z_iload_n X dd_Mo_bare_27 rfl 3 rfl ?_
    obtain ⟨v6, ev6, h⟩ := zb h
    refine z_zaload X dd_Mo_bare_28 rfl ev6 ?_
    refine z_if_eq (tgt := 72) X dd_Mo_bare_29 (by decide) (fun q7 => ?_) (fun q7 => ?_)
    · rw [if_pos q7] at h
      exact t_Mo_bare_72 X H h k0 k1
    · rw [if_neg q7] at h
      refine z_aload_n X dd_Mo_bare_32 rfl 0 rfl ?_
      obtain ⟨v8, ev8, h⟩ := zb h
      refine z_get (j := 4) X dd_Mo_bare_33 kc_12 ki_12 (by decide) km_1525 (zgr_v ev8) ?_
      refine z_iload_n X dd_Mo_bare_36 rfl 3 rfl ?_
      obtain ⟨v9, ev9, h⟩ := zb h
      refine z_iaload X dd_Mo_bare_37 rfl ev9 ?_
      refine z_iload_n X dd_Mo_bare_38 rfl 1 rfl ?_
      refine z_icmp_eq (tgt := 52) X dd_Mo_bare_39 (by decide) (fun q10 => ?_) (fun q10 => ?_)
      · rw [if_pos q10] at h
        exact t_Mo_bare_52 X H h k0 k1
      · rw [if_neg q10] at h
        refine z_aload_n X dd_Mo_bare_42 rfl 0 rfl ?_
        obtain ⟨v15, ev15, h⟩ := zb h
        refine z_get (j := 5) X dd_Mo_bare_43 kc_12 ki_12 (by decide) km_1526 (zgr_v ev15) ?_
        refine z_iload_n X dd_Mo_bare_46 rfl 3 rfl ?_
        obtain ⟨v16, ev16, h⟩ := zb h
        refine z_iaload X dd_Mo_bare_47 rfl ev16 ?_
        refine z_iload_n X dd_Mo_bare_48 rfl 1 rfl ?_
        refine z_icmp_ne (tgt := 72) X dd_Mo_bare_49 (by decide) (fun q17 => ?_) (fun q17 => ?_)
        · rw [if_neg q17] at h
          exact t_Mo_bare_72 X H h k0 k1
        · rw [if_pos q17] at h
          exact t_Mo_bare_52 X H h k0 k1
set_option maxRecDepth 100000 in
set_option maxHeartbeats 4000000 in
theorem u_Mo_bare_87  (X : zX p s m args cd D cid B bb_Mo_bare 4 rr_Mo zT) (H : zH s meth B n0 (some (.int)) "bare") {nf : Nat} {x0 : Nat} {x1 : Int32} {x2 : Int32} {x3 : Int32} {c : Zc} {r : (Nat × Int32 × Int32 × Int32 × Zc) ⊕ (Nat × Int32 × Zc)} (h : g_Mo_bare_87 nf x0 x1 x2 x3 c = some r) (k0 : ∀ a, r = .inl a → (fun a : Nat × Int32 × Int32 × Int32 × Zc => Zz p l e (zRm 1 21 0 0) s m args below meth cd Q D cid B 4 0 0 a.2.2.2.2 87 [(0, .ref a.1), (1, .int a.2.1), (2, .int a.2.2.1), (3, .int a.2.2.2.1)] []) a) (k1 : ∀ b, r = .inr b → (fun b : Nat × Int32 × Zc => Zz p l e (zRm 1 21 0 0) s m args below meth cd Q D cid B 4 0 0 b.2.2 109 [(0, .ref b.1), (2, .int b.2.1)] []) b) : Zz p l e (zRm 1 21 0 0) s m args below meth cd Q D cid B 4 0 0 c 87 [(0, .ref x0), (1, .int x1), (2, .int x2), (3, .int x3)] [] := by
  unfold g_Mo_bare_87 at h
  refine z_iload_n X dd_Mo_bare_87 rfl 3 rfl ?_
  refine z_iconst (v := 4) X dd_Mo_bare_88 (by decide) ?_
  refine z_icmp_ge (tgt := 109) X dd_Mo_bare_89 (by decide) (fun q20 => ?_) (fun q20 => ?_)
  · rw [if_pos q20] at h
    refine z_sub [0, 2] rfl ?_
    obtain rfl := Option.some.inj h
    exact k1 _ rfl
  · rw [if_neg q20] at h
    refine z_aload_n X dd_Mo_bare_92 rfl 0 rfl ?_
    obtain ⟨v21, ev21, h⟩ := zb h
    refine z_get (j := 2) X dd_Mo_bare_93 kc_12 ki_12 (by decide) km_1523 (zgr_v ev21) ?_
    refine z_iconst (v := 4) X dd_Mo_bare_96 (by decide) ?_
    refine z_iload_n X dd_Mo_bare_97 rfl 1 rfl ?_
    refine z_imul X dd_Mo_bare_98 ?_
    refine z_iload_n X dd_Mo_bare_99 rfl 3 rfl ?_
    refine z_iadd X dd_Mo_bare_100 ?_
    refine z_iconst (v := 0) X dd_Mo_bare_101 (by decide) ?_
    obtain ⟨c22, ec22, h⟩ := zb h
    refine z_iastore X dd_Mo_bare_102 rfl ec22 ?_
    refine z_iinc (v := (x3 + 1)) (lv' := [(3, .int (x3 + 1)), (0, .ref x0), (1, .int x1), (2, .int x2)]) X dd_Mo_bare_103 3 rfl rfl (by decide) rfl ?_
    refine z_goto (tgt := 87) X dd_Mo_bare_106 (by decide) ?_
    refine z_sub [1, 2, 3, 0] rfl ?_
    obtain rfl := Option.some.inj h
    exact k0 _ rfl
set_option maxRecDepth 100000 in
set_option maxHeartbeats 4000000 in
theorem t_Mo_bare_87  (X : zX p s m args cd D cid B bb_Mo_bare 4 rr_Mo zT) (H : zH s meth B n0 (some (.int)) "bare") {nf : Nat} {x0 : Nat} {x1 : Int32} {x2 : Int32} {x3 : Int32} {c : Zc} {res : Int32 × Zc} (h : f_Mo_bare_87 nf x0 x1 x2 x3 c = some res) : Zz p l e (zRm 1 21 0 0) s m args below meth cd (MQ below (zQi D cid B res.1 res.2 n0 0) args s 0 0 (fun q => B ≤ q)) D cid B 4 0 0 c 87 [(0, .ref x0), (1, .int x1), (2, .int x2), (3, .int x3)] [] := by
  unfold f_Mo_bare_87 at h
  obtain ⟨b, eb, h⟩ := zb h
  refine zlp_ok (P := fun a : Nat × Int32 × Int32 × Int32 × Zc => Zz p l e (zRm 1 21 0 0) s m args below meth cd _ D cid B 4 0 0 a.2.2.2.2 87 [(0, .ref a.1), (1, .int a.2.1), (2, .int a.2.2.1), (3, .int a.2.2.2.1)] []) (G := fun b : Nat × Int32 × Zc => Zz p l e (zRm 1 21 0 0) s m args below meth cd _ D cid B 4 0 0 b.2.2 109 [(0, .ref b.1), (2, .int b.2.1)] []) (fun a r ha k0 k1 => u_Mo_bare_87 X H ha k0 k1) nf _ b eb ?_
  refine z_aload_n X dd_Mo_bare_109 rfl 0 rfl ?_
  obtain ⟨w24, ew24, h⟩ := zb h
  obtain ⟨q23, eq23, h⟩ := zb h
  refine z_callVv X [] rfl dd_Mo_bare_110 (c_Mo_changed l eq23) (cwV 0 X.1.2.2.2.2 (zg_V km_1812 km_1814 km_60 km_138 km_1815) rfl rfl rfl (by decide +kernel) ⟨Nat.le_of_ble_eq_true rfl, Nat.le_of_ble_eq_true rfl⟩) (zob_s ew24) kc_12 rfl (Nat.le_of_ble_eq_true rfl) ⟨Nat.le_of_ble_eq_true rfl, Nat.le_of_ble_eq_true rfl⟩ ?_
  refine z_iload_n X dd_Mo_bare_113 rfl 1 rfl ?_
  obtain rfl := Option.some.inj h
  exact z_iret X H.1 H.2.1 H.2.2.1 dd_Mo_bare_114
set_option maxRecDepth 100000 in
set_option maxHeartbeats 4000000 in
theorem t_Mo_bare_17  (X : zX p s m args cd D cid B bb_Mo_bare 4 rr_Mo zT) (H : zH s meth B n0 (some (.int)) "bare") {nf : Nat} {x0 : Nat} {x1 : Int32} {x2 : Int32} {x3 : Int32} {c : Zc} {res : Int32 × Zc} (h : f_Mo_bare_17 nf x0 x1 x2 x3 c = some res) : Zz p l e (zRm 1 21 0 0) s m args below meth cd (MQ below (zQi D cid B res.1 res.2 n0 0) args s 0 0 (fun q => B ≤ q)) D cid B 4 0 0 c 17 [(0, .ref x0), (1, .int x1), (2, .int x2), (3, .int x3)] [] := by
  unfold f_Mo_bare_17 at h
  obtain ⟨b, eb, h⟩ := zb h
  refine zlp_ok (P := fun a : Nat × Int32 × Int32 × Int32 × Zc => Zz p l e (zRm 1 21 0 0) s m args below meth cd _ D cid B 4 0 0 a.2.2.2.2 17 [(0, .ref a.1), (1, .int a.2.1), (2, .int a.2.2.1), (3, .int a.2.2.2.1)] []) (G := fun b : Nat × Int32 × Int32 × Zc => Zz p l e (zRm 1 21 0 0) s m args below meth cd _ D cid B 4 0 0 b.2.2.2 78 [(0, .ref b.1), (1, .int b.2.1), (2, .int b.2.2.1)] []) (fun a r ha k0 k1 => u_Mo_bare_17 X H ha k0 k1) nf _ b eb ?_
  refine z_aload_n X dd_Mo_bare_78 rfl 0 rfl ?_
  obtain ⟨v18, ev18, h⟩ := zb h
  refine z_get (j := 1) X dd_Mo_bare_79 kc_12 ki_12 (by decide) km_1522 (zgr_v ev18) ?_
  refine z_iload_n X dd_Mo_bare_82 rfl 1 rfl ?_
  refine z_iconst (v := 0) X dd_Mo_bare_83 (by decide) ?_
  obtain ⟨c19, ec19, h⟩ := zb h
  refine z_iastore X dd_Mo_bare_84 rfl ec19 ?_
  refine z_iconst (v := 0) X dd_Mo_bare_85 (by decide) ?_
  refine z_istore_n (lv' := [(3, .int 0), (0, .ref b.1), (1, .int b.2.1), (2, .int b.2.2.1)]) X dd_Mo_bare_86 rfl (by decide) rfl ?_
  refine z_sub [1, 2, 3, 0] rfl ?_
  exact t_Mo_bare_87 X H h
set_option maxRecDepth 100000 in
set_option maxHeartbeats 4000000 in
theorem c_Mo_bare (l : Launch) {nf : Nat} {a0 : Nat} {a1 : Int32} {c : Zc} {res : Int32 × Zc} (h : f_Mo_bare nf a0 a1 c = some res) : zM l yy_Mo_bare ww_Mo_bare 1 21 0 0 [.ref a0, .int a1] c (fun D cid B => zQi D cid B res.1 res.2 c.length 0) := by
  refine z_met (cc := bb_Mo_bare) (maxL := 4) (ret := (some (.int))) (by decide +kernel) rfl (Nat.le_of_ble_eq_true rfl) ?_
  intro p e s m args below meth cd D cid B X h1 h2 h3 h4
  have X : zX p s m args cd D cid B bb_Mo_bare 4 rr_Mo zT := X
  have H : zH s meth B c.length (some (.int)) "bare" := ⟨h1, h2, h4, h3⟩
  unfold f_Mo_bare at h
  show Zz p l e (zRm 1 21 0 0) s m args below meth cd _ D cid B 4 0 0 c 0 [(0, .ref a0), (1, .int a1)] []
  refine z_iload_n X dd_Mo_bare_0 rfl 1 rfl ?_
  refine z_aload_n X dd_Mo_bare_1 rfl 0 rfl ?_
  obtain ⟨v1, ev1, h⟩ := zb h
  refine z_get (j := 0) X dd_Mo_bare_2 kc_12 ki_12 (by decide) km_1521 (zgi_v ev1) ?_
  obtain ⟨q2, eq2, h⟩ := zb h
  refine z_callSi X [.int a1, .int v1] rfl dd_Mo_bare_5 (c_Mo_isIn l eq2) (va_cwS 2 X.1.2.2.2.2 (zg_S km_1809 km_1810 km_138 km_1811) rfl rfl rfl (by decide +kernel) ⟨Nat.le_of_ble_eq_true rfl, Nat.le_of_ble_eq_true rfl⟩) rfl (Nat.le_of_ble_eq_true rfl) ⟨Nat.le_of_ble_eq_true rfl, Nat.le_of_ble_eq_true rfl⟩ ?_
  refine z_if_ne (tgt := 13) X dd_Mo_bare_8 (by decide) (fun q3 => ?_) (fun q3 => ?_)
  · rw [if_neg q3] at h
    refine z_iconst (v := 0) X dd_Mo_bare_13 (by decide) ?_
    refine z_istore_n (lv' := [(2, .int 0), (0, .ref a0), (1, .int a1)]) X dd_Mo_bare_14 rfl (by decide) rfl ?_
    refine z_iconst (v := 0) X dd_Mo_bare_15 (by decide) ?_
    refine z_istore_n (lv' := [(3, .int 0), (2, .int 0), (0, .ref a0), (1, .int a1)]) X dd_Mo_bare_16 rfl (by decide) rfl ?_
    refine z_sub [2, 3, 1, 0] rfl ?_
    exact t_Mo_bare_17 X H h
  · rw [if_pos q3] at h
    refine z_iconst (v := (-1)) X dd_Mo_bare_11 (by decide) ?_
    obtain rfl := Option.some.inj h
    exact z_iret X H.1 H.2.1 H.2.2.1 dd_Mo_bare_12
theorem dd_Mo_settle_0 : decode bb_Mo_settle 0 = .ok (.aload_n 0, 1) := by decide +kernel
theorem dd_Mo_settle_1 : decode bb_Mo_settle 1 = .ok (.aload_n 0, 1) := by decide +kernel
theorem dd_Mo_settle_2 : decode bb_Mo_settle 2 = .ok (.getfield 56, 3) := by decide +kernel
theorem dd_Mo_settle_5 : decode bb_Mo_settle 5 = .ok (.iload_n 1, 1) := by decide +kernel
theorem dd_Mo_settle_6 : decode bb_Mo_settle 6 = .ok (.iaload, 1) := by decide +kernel
theorem dd_Mo_settle_7 : decode bb_Mo_settle 7 = .ok (.putfield 62, 3) := by decide +kernel
theorem dd_Mo_settle_10 : decode bb_Mo_settle 10 = .ok (.aload_n 0, 1) := by decide +kernel
theorem dd_Mo_settle_11 : decode bb_Mo_settle 11 = .ok (.getfield 56, 3) := by decide +kernel
theorem dd_Mo_settle_14 : decode bb_Mo_settle 14 = .ok (.iload_n 1, 1) := by decide +kernel
theorem dd_Mo_settle_15 : decode bb_Mo_settle 15 = .ok (.aload_n 0, 1) := by decide +kernel
theorem dd_Mo_settle_16 : decode bb_Mo_settle 16 = .ok (.getfield 331, 3) := by decide +kernel
theorem dd_Mo_settle_19 : decode bb_Mo_settle 19 = .ok (.iastore, 1) := by decide +kernel
theorem dd_Mo_settle_20 : decode bb_Mo_settle 20 = .ok (.aload_n 0, 1) := by decide +kernel
theorem dd_Mo_settle_21 : decode bb_Mo_settle 21 = .ok (.getfield 59, 3) := by decide +kernel
theorem dd_Mo_settle_24 : decode bb_Mo_settle 24 = .ok (.iload_n 1, 1) := by decide +kernel
theorem dd_Mo_settle_25 : decode bb_Mo_settle 25 = .ok (.iconst 1, 1) := by decide +kernel
theorem dd_Mo_settle_26 : decode bb_Mo_settle 26 = .ok (.bastore, 1) := by decide +kernel
theorem dd_Mo_settle_27 : decode bb_Mo_settle 27 = .ok (.return_, 1) := by decide +kernel
set_option maxRecDepth 100000 in
set_option maxHeartbeats 4000000 in
theorem c_Mo_settle (l : Launch) {nf : Nat} {a0 : Nat} {a1 : Int32} {c : Zc} {res : Zc} (h : f_Mo_settle nf a0 a1 c = some res) : zM l yy_Mo_settle ww_Mo_settle 0 0 0 0 [.ref a0, .int a1] c (fun D cid B => zQv D cid B res c.length 0) := by
  refine z_met (cc := bb_Mo_settle) (maxL := 2) (ret := none) (by decide +kernel) rfl (Nat.le_of_ble_eq_true rfl) ?_
  intro p e s m args below meth cd D cid B X h1 h2 h3 h4
  have X : zX p s m args cd D cid B bb_Mo_settle 2 rr_Mo zT := X
  have H : zH s meth B c.length none "settle" := ⟨h1, h2, h4, h3⟩
  unfold f_Mo_settle at h
  show Zz p l e (zRm 0 0 0 0) s m args below meth cd _ D cid B 2 0 0 c 0 [(0, .ref a0), (1, .int a1)] []
  refine z_aload_n X dd_Mo_settle_0 rfl 0 rfl ?_
  refine z_aload_n X dd_Mo_settle_1 rfl 0 rfl ?_
  obtain ⟨v1, ev1, h⟩ := zb h
  refine z_get (j := 22) X dd_Mo_settle_2 kc_12 ki_12 (by decide) km_1543 (zgr_v ev1) ?_
  refine z_iload_n X dd_Mo_settle_5 rfl 1 rfl ?_
  obtain ⟨v2, ev2, h⟩ := zb h
  refine z_iaload X dd_Mo_settle_6 rfl ev2 ?_
  obtain ⟨c3, ec3, h⟩ := zb h
  refine z_put (j := 24) X dd_Mo_settle_7 kc_12 ki_12 tt_Mo tk_Mo nn_Mo (by decide) km_1545 rfl (tk_Mo 24 (by decide)) rfl rfl ec3 ?_
  refine z_aload_n X dd_Mo_settle_10 rfl 0 rfl ?_
  obtain ⟨v4, ev4, h⟩ := zb h
  refine z_get (j := 22) X dd_Mo_settle_11 kc_12 ki_12 (by decide) km_1543 (zgr_v ev4) ?_
  refine z_iload_n X dd_Mo_settle_14 rfl 1 rfl ?_
  refine z_aload_n X dd_Mo_settle_15 rfl 0 rfl ?_
  obtain ⟨v5, ev5, h⟩ := zb h
  refine z_get (j := 25) X dd_Mo_settle_16 kc_12 ki_12 (by decide) km_1546 (zgi_v ev5) ?_
  obtain ⟨c6, ec6, h⟩ := zb h
  refine z_iastore X dd_Mo_settle_19 rfl ec6 ?_
  refine z_aload_n X dd_Mo_settle_20 rfl 0 rfl ?_
  obtain ⟨v7, ev7, h⟩ := zb h
  refine z_get (j := 23) X dd_Mo_settle_21 kc_12 ki_12 (by decide) km_1544 (zgr_v ev7) ?_
  refine z_iload_n X dd_Mo_settle_24 rfl 1 rfl ?_
  refine z_iconst (v := 1) X dd_Mo_settle_25 (by decide) ?_
  obtain ⟨c8, ec8, h⟩ := zb h
  refine z_zastore X dd_Mo_settle_26 rfl ec8 ?_
  obtain rfl := Option.some.inj h
  exact z_vret X H.1 H.2.1 H.2.2.1 dd_Mo_settle_27
theorem dd_Mo_question_0 : decode bb_Mo_question 0 = .ok (.iload_n 1, 1) := by decide +kernel
theorem dd_Mo_question_1 : decode bb_Mo_question 1 = .ok (.iconst 4, 1) := by decide +kernel
theorem dd_Mo_question_2 : decode bb_Mo_question 2 = .ok (.invokestatic 536, 3) := by decide +kernel
theorem dd_Mo_question_5 : decode bb_Mo_question 5 = .ok (.ifCond .ne 5, 3) := by decide +kernel
theorem dd_Mo_question_8 : decode bb_Mo_question 8 = .ok (.iconst (-1), 1) := by decide +kernel
theorem dd_Mo_question_9 : decode bb_Mo_question 9 = .ok (.ireturn, 1) := by decide +kernel
theorem dd_Mo_question_10 : decode bb_Mo_question 10 = .ok (.aload_n 0, 1) := by decide +kernel
theorem dd_Mo_question_11 : decode bb_Mo_question 11 = .ok (.invokevirtual 549, 3) := by decide +kernel
theorem dd_Mo_question_14 : decode bb_Mo_question 14 = .ok (.istore_n 2, 1) := by decide +kernel
theorem dd_Mo_question_15 : decode bb_Mo_question 15 = .ok (.iload_n 2, 1) := by decide +kernel
theorem dd_Mo_question_16 : decode bb_Mo_question 16 = .ok (.ifCond .le 15, 3) := by decide +kernel
theorem dd_Mo_question_19 : decode bb_Mo_question 19 = .ok (.aload_n 0, 1) := by decide +kernel
theorem dd_Mo_question_20 : decode bb_Mo_question 20 = .ok (.iload_n 1, 1) := by decide +kernel
theorem dd_Mo_question_21 : decode bb_Mo_question 21 = .ok (.invokevirtual 552, 3) := by decide +kernel
theorem dd_Mo_question_24 : decode bb_Mo_question 24 = .ok (.aload_n 0, 1) := by decide +kernel
theorem dd_Mo_question_25 : decode bb_Mo_question 25 = .ok (.getfield 223, 3) := by decide +kernel
theorem dd_Mo_question_28 : decode bb_Mo_question 28 = .ok (.iload_n 1, 1) := by decide +kernel
theorem dd_Mo_question_29 : decode bb_Mo_question 29 = .ok (.iconst 0, 1) := by decide +kernel
theorem dd_Mo_question_30 : decode bb_Mo_question 30 = .ok (.bastore, 1) := by decide +kernel
theorem dd_Mo_question_31 : decode bb_Mo_question 31 = .ok (.iload_n 2, 1) := by decide +kernel
theorem dd_Mo_question_32 : decode bb_Mo_question 32 = .ok (.ireturn, 1) := by decide +kernel
set_option maxRecDepth 100000 in
set_option maxHeartbeats 4000000 in
theorem t_Mo_question_31  (X : zX p s m args cd D cid B bb_Mo_question 3 rr_Mo zT) (H : zH s meth B n0 (some (.int)) "question") {nf : Nat} {x2 : Int32} {c : Zc} {res : Int32 × Zc} (h : f_Mo_question_31 nf x2 c = some res) : Zz p l e (zRm 15 330 0 0) s m args below meth cd (MQ below (zQi D cid B res.1 res.2 n0 0) args s 0 0 (fun q => B ≤ q)) D cid B 3 0 0 c 31 [(2, .int x2)] [] := by
  unfold f_Mo_question_31 at h
  refine z_iload_n X dd_Mo_question_31 rfl 0 rfl ?_
  obtain rfl := Option.some.inj h
  exact z_iret X H.1 H.2.1 H.2.2.1 dd_Mo_question_32
set_option maxRecDepth 100000 in
set_option maxHeartbeats 4000000 in
theorem c_Mo_question (l : Launch) {nf : Nat} {a0 : Nat} {a1 : Int32} {c : Zc} {res : Int32 × Zc} (h : f_Mo_question nf a0 a1 c = some res) : zM l yy_Mo_question ww_Mo_question 15 330 0 0 [.ref a0, .int a1] c (fun D cid B => zQi D cid B res.1 res.2 c.length 0) := by
  refine z_met (cc := bb_Mo_question) (maxL := 3) (ret := (some (.int))) (by decide +kernel) rfl (Nat.le_of_ble_eq_true rfl) ?_
  intro p e s m args below meth cd D cid B X h1 h2 h3 h4
  have X : zX p s m args cd D cid B bb_Mo_question 3 rr_Mo zT := X
  have H : zH s meth B c.length (some (.int)) "question" := ⟨h1, h2, h4, h3⟩
  unfold f_Mo_question at h
  show Zz p l e (zRm 15 330 0 0) s m args below meth cd _ D cid B 3 0 0 c 0 [(0, .ref a0), (1, .int a1)] []
  refine z_iload_n X dd_Mo_question_0 rfl 1 rfl ?_
  refine z_iconst (v := 4) X dd_Mo_question_1 (by decide) ?_
  obtain ⟨q1, eq1, h⟩ := zb h
  refine z_callSi X [.int a1, .int 4] rfl dd_Mo_question_2 (c_Mo_isIn l eq1) (va_cwS 2 X.1.2.2.2.2 (zg_S km_1809 km_1810 km_138 km_1811) rfl rfl rfl (by decide +kernel) ⟨Nat.le_of_ble_eq_true rfl, Nat.le_of_ble_eq_true rfl⟩) rfl (Nat.le_of_ble_eq_true rfl) ⟨Nat.le_of_ble_eq_true rfl, Nat.le_of_ble_eq_true rfl⟩ ?_
  refine z_if_ne (tgt := 10) X dd_Mo_question_5 (by decide) (fun q2 => ?_) (fun q2 => ?_)
  · rw [if_neg q2] at h
    refine z_aload_n X dd_Mo_question_10 rfl 0 rfl ?_
    obtain ⟨w4, ew4, h⟩ := zb h
    obtain ⟨q3, eq3, h⟩ := zb h
    refine z_callVi X [] rfl dd_Mo_question_11 (c_Mo_readQuestion l eq3) (cwV 0 X.1.2.2.2.2 (zg_V km_1848 km_1850 km_62 km_138 km_1851) rfl rfl rfl (by decide +kernel) ⟨Nat.le_of_ble_eq_true rfl, Nat.le_of_ble_eq_true rfl⟩) (zob_s ew4) kc_12 rfl (Nat.le_of_ble_eq_true rfl) ⟨Nat.le_of_ble_eq_true rfl, Nat.le_of_ble_eq_true rfl⟩ ?_
    refine z_istore_n (lv' := [(2, .int q3.1), (0, .ref a0), (1, .int a1)]) X dd_Mo_question_14 rfl (by decide) rfl ?_
    refine z_iload_n X dd_Mo_question_15 rfl 0 rfl ?_
    refine z_if_le (tgt := 31) X dd_Mo_question_16 (by decide) (fun q5 => ?_) (fun q5 => ?_)
    · rw [if_pos q5] at h
      refine z_sub [0] rfl ?_
      exact t_Mo_question_31 X H h
    · rw [if_neg q5] at h
      refine z_aload_n X dd_Mo_question_19 rfl 1 rfl ?_
      refine z_iload_n X dd_Mo_question_20 rfl 2 rfl ?_
      obtain ⟨w7, ew7, h⟩ := zb h
      obtain ⟨q6, eq6, h⟩ := zb h
      refine z_callVv X [.int a1] rfl dd_Mo_question_21 (c_Mo_settle l eq6) (cwV 1 X.1.2.2.2.2 (zg_V km_2043 km_2045 km_102 km_138 km_2046) rfl rfl rfl (by decide +kernel) ⟨Nat.le_of_ble_eq_true rfl, Nat.le_of_ble_eq_true rfl⟩) (zob_s ew7) kc_12 rfl (Nat.le_of_ble_eq_true rfl) ⟨Nat.le_of_ble_eq_true rfl, Nat.le_of_ble_eq_true rfl⟩ ?_
      refine z_aload_n X dd_Mo_question_24 rfl 1 rfl ?_
      obtain ⟨v8, ev8, h⟩ := zb h
      refine z_get (j := 85) X dd_Mo_question_25 kc_12 ki_12 (by decide) km_1606 (zgr_v ev8) ?_
      refine z_iload_n X dd_Mo_question_28 rfl 2 rfl ?_
      refine z_iconst (v := 0) X dd_Mo_question_29 (by decide) ?_
      obtain ⟨c9, ec9, h⟩ := zb h
      refine z_zastore X dd_Mo_question_30 rfl ec9 ?_
      refine z_sub [0] rfl ?_
      exact t_Mo_question_31 X H h
  · rw [if_pos q2] at h
    refine z_iconst (v := (-1)) X dd_Mo_question_8 (by decide) ?_
    obtain rfl := Option.some.inj h
    exact z_iret X H.1 H.2.1 H.2.2.1 dd_Mo_question_9
theorem dd_Mo_rule_0 : decode bb_Mo_rule 0 = .ok (.aload_n 0, 1) := by decide +kernel
theorem dd_Mo_rule_1 : decode bb_Mo_rule 1 = .ok (.invokevirtual 555, 3) := by decide +kernel
theorem dd_Mo_rule_4 : decode bb_Mo_rule 4 = .ok (.istore_n 1, 1) := by decide +kernel
theorem dd_Mo_rule_5 : decode bb_Mo_rule 5 = .ok (.iload_n 1, 1) := by decide +kernel
theorem dd_Mo_rule_6 : decode bb_Mo_rule 6 = .ok (.ifCond .lt 14, 3) := by decide +kernel
theorem dd_Mo_rule_9 : decode bb_Mo_rule 9 = .ok (.aload_n 0, 1) := by decide +kernel
theorem dd_Mo_rule_10 : decode bb_Mo_rule 10 = .ok (.iconst 4, 1) := by decide +kernel
theorem dd_Mo_rule_11 : decode bb_Mo_rule 11 = .ok (.iload_n 1, 1) := by decide +kernel
theorem dd_Mo_rule_12 : decode bb_Mo_rule 12 = .ok (.iadd, 1) := by decide +kernel
theorem dd_Mo_rule_13 : decode bb_Mo_rule 13 = .ok (.invokevirtual 552, 3) := by decide +kernel
theorem dd_Mo_rule_16 : decode bb_Mo_rule 16 = .ok (.aload_n 0, 1) := by decide +kernel
theorem dd_Mo_rule_17 : decode bb_Mo_rule 17 = .ok (.invokevirtual 540, 3) := by decide +kernel
theorem dd_Mo_rule_20 : decode bb_Mo_rule 20 = .ok (.iload_n 1, 1) := by decide +kernel
theorem dd_Mo_rule_21 : decode bb_Mo_rule 21 = .ok (.ireturn, 1) := by decide +kernel
set_option maxRecDepth 100000 in
set_option maxHeartbeats 4000000 in
theorem t_Mo_rule_20  (X : zX p s m args cd D cid B bb_Mo_rule 2 rr_Mo zT) (H : zH s meth B n0 (some (.int)) "rule") {nf : Nat} {x1 : Int32} {c : Zc} {res : Int32 × Zc} (h : f_Mo_rule_20 nf x1 c = some res) : Zz p l e (zRm 15 329 0 0) s m args below meth cd (MQ below (zQi D cid B res.1 res.2 n0 0) args s 0 0 (fun q => B ≤ q)) D cid B 2 0 0 c 20 [(1, .int x1)] [] := by
  unfold f_Mo_rule_20 at h
  refine z_iload_n X dd_Mo_rule_20 rfl 0 rfl ?_
  obtain rfl := Option.some.inj h
  exact z_iret X H.1 H.2.1 H.2.2.1 dd_Mo_rule_21
set_option maxRecDepth 100000 in
set_option maxHeartbeats 4000000 in
theorem c_Mo_rule (l : Launch) {nf : Nat} {a0 : Nat} {c : Zc} {res : Int32 × Zc} (h : f_Mo_rule nf a0 c = some res) : zM l yy_Mo_rule ww_Mo_rule 15 329 0 0 [.ref a0] c (fun D cid B => zQi D cid B res.1 res.2 c.length 0) := by
  refine z_met (cc := bb_Mo_rule) (maxL := 2) (ret := (some (.int))) (by decide +kernel) rfl (Nat.le_of_ble_eq_true rfl) ?_
  intro p e s m args below meth cd D cid B X h1 h2 h3 h4
  have X : zX p s m args cd D cid B bb_Mo_rule 2 rr_Mo zT := X
  have H : zH s meth B c.length (some (.int)) "rule" := ⟨h1, h2, h4, h3⟩
  unfold f_Mo_rule at h
  show Zz p l e (zRm 15 329 0 0) s m args below meth cd _ D cid B 2 0 0 c 0 [(0, .ref a0)] []
  refine z_aload_n X dd_Mo_rule_0 rfl 0 rfl ?_
  obtain ⟨w2, ew2, h⟩ := zb h
  obtain ⟨q1, eq1, h⟩ := zb h
  refine z_callVi X [] rfl dd_Mo_rule_1 (c_Mo_readRule l eq1) (cwV 0 X.1.2.2.2.2 (zg_V km_2051 km_2053 km_103 km_138 km_2054) rfl rfl rfl (by decide +kernel) ⟨Nat.le_of_ble_eq_true rfl, Nat.le_of_ble_eq_true rfl⟩) (zob_s ew2) kc_12 rfl (Nat.le_of_ble_eq_true rfl) ⟨Nat.le_of_ble_eq_true rfl, Nat.le_of_ble_eq_true rfl⟩ ?_
  refine z_istore_n (lv' := [(1, .int q1.1), (0, .ref a0)]) X dd_Mo_rule_4 rfl (by decide) rfl ?_
  refine z_iload_n X dd_Mo_rule_5 rfl 0 rfl ?_
  refine z_if_lt (tgt := 20) X dd_Mo_rule_6 (by decide) (fun q3 => ?_) (fun q3 => ?_)
  · rw [if_pos q3] at h
    refine z_sub [0] rfl ?_
    exact t_Mo_rule_20 X H h
  · rw [if_neg q3] at h
    refine z_aload_n X dd_Mo_rule_9 rfl 1 rfl ?_
    refine z_iconst (v := 4) X dd_Mo_rule_10 (by decide) ?_
    refine z_iload_n X dd_Mo_rule_11 rfl 0 rfl ?_
    refine z_iadd X dd_Mo_rule_12 ?_
    obtain ⟨w5, ew5, h⟩ := zb h
    obtain ⟨q4, eq4, h⟩ := zb h
    refine z_callVv X [.int (4 + q1.1)] rfl dd_Mo_rule_13 (c_Mo_settle l eq4) (cwV 1 X.1.2.2.2.2 (zg_V km_2043 km_2045 km_102 km_138 km_2046) rfl rfl rfl (by decide +kernel) ⟨Nat.le_of_ble_eq_true rfl, Nat.le_of_ble_eq_true rfl⟩) (zob_s ew5) kc_12 rfl (Nat.le_of_ble_eq_true rfl) ⟨Nat.le_of_ble_eq_true rfl, Nat.le_of_ble_eq_true rfl⟩ ?_
    refine z_aload_n X dd_Mo_rule_16 rfl 1 rfl ?_
    obtain ⟨w7, ew7, h⟩ := zb h
    obtain ⟨q6, eq6, h⟩ := zb h
    refine z_callVv X [] rfl dd_Mo_rule_17 (c_Mo_changed l eq6) (cwV 0 X.1.2.2.2.2 (zg_V km_1812 km_1814 km_60 km_138 km_1815) rfl rfl rfl (by decide +kernel) ⟨Nat.le_of_ble_eq_true rfl, Nat.le_of_ble_eq_true rfl⟩) (zob_s ew7) kc_12 rfl (Nat.le_of_ble_eq_true rfl) ⟨Nat.le_of_ble_eq_true rfl, Nat.le_of_ble_eq_true rfl⟩ ?_
    refine z_sub [0] rfl ?_
    exact t_Mo_rule_20 X H h
theorem dd_Mo_forget_0 : decode bb_Mo_forget 0 = .ok (.iload_n 1, 1) := by decide +kernel
theorem dd_Mo_forget_1 : decode bb_Mo_forget 1 = .ok (.iconst 4, 1) := by decide +kernel
theorem dd_Mo_forget_2 : decode bb_Mo_forget 2 = .ok (.invokestatic 536, 3) := by decide +kernel
theorem dd_Mo_forget_5 : decode bb_Mo_forget 5 = .ok (.ifCond .ne 5, 3) := by decide +kernel
theorem dd_Mo_forget_8 : decode bb_Mo_forget 8 = .ok (.iconst (-1), 1) := by decide +kernel
theorem dd_Mo_forget_9 : decode bb_Mo_forget 9 = .ok (.ireturn, 1) := by decide +kernel
theorem dd_Mo_forget_10 : decode bb_Mo_forget 10 = .ok (.aload_n 0, 1) := by decide +kernel
theorem dd_Mo_forget_11 : decode bb_Mo_forget 11 = .ok (.getfield 59, 3) := by decide +kernel
theorem dd_Mo_forget_14 : decode bb_Mo_forget 14 = .ok (.iconst 4, 1) := by decide +kernel
theorem dd_Mo_forget_15 : decode bb_Mo_forget 15 = .ok (.iload_n 1, 1) := by decide +kernel
theorem dd_Mo_forget_16 : decode bb_Mo_forget 16 = .ok (.iadd, 1) := by decide +kernel
theorem dd_Mo_forget_17 : decode bb_Mo_forget 17 = .ok (.baload, 1) := by decide +kernel
theorem dd_Mo_forget_18 : decode bb_Mo_forget 18 = .ok (.ifCond .ne 6, 3) := by decide +kernel
theorem dd_Mo_forget_21 : decode bb_Mo_forget 21 = .ok (.bipush (-2), 2) := by decide +kernel
theorem dd_Mo_forget_23 : decode bb_Mo_forget 23 = .ok (.ireturn, 1) := by decide +kernel
theorem dd_Mo_forget_24 : decode bb_Mo_forget 24 = .ok (.aload_n 0, 1) := by decide +kernel
theorem dd_Mo_forget_25 : decode bb_Mo_forget 25 = .ok (.getfield 59, 3) := by decide +kernel
theorem dd_Mo_forget_28 : decode bb_Mo_forget 28 = .ok (.iconst 4, 1) := by decide +kernel
theorem dd_Mo_forget_29 : decode bb_Mo_forget 29 = .ok (.iload_n 1, 1) := by decide +kernel
theorem dd_Mo_forget_30 : decode bb_Mo_forget 30 = .ok (.iadd, 1) := by decide +kernel
theorem dd_Mo_forget_31 : decode bb_Mo_forget 31 = .ok (.iconst 0, 1) := by decide +kernel
theorem dd_Mo_forget_32 : decode bb_Mo_forget 32 = .ok (.bastore, 1) := by decide +kernel
theorem dd_Mo_forget_33 : decode bb_Mo_forget 33 = .ok (.aload_n 0, 1) := by decide +kernel
theorem dd_Mo_forget_34 : decode bb_Mo_forget 34 = .ok (.invokevirtual 540, 3) := by decide +kernel
theorem dd_Mo_forget_37 : decode bb_Mo_forget 37 = .ok (.iconst 1, 1) := by decide +kernel
theorem dd_Mo_forget_38 : decode bb_Mo_forget 38 = .ok (.ireturn, 1) := by decide +kernel
set_option maxRecDepth 100000 in
set_option maxHeartbeats 4000000 in
theorem c_Mo_forget (l : Launch) {nf : Nat} {a0 : Nat} {a1 : Int32} {c : Zc} {res : Int32 × Zc} (h : f_Mo_forget nf a0 a1 c = some res) : zM l yy_Mo_forget ww_Mo_forget 1 21 0 0 [.ref a0, .int a1] c (fun D cid B => zQi D cid B res.1 res.2 c.length 0) := by
  refine z_met (cc := bb_Mo_forget) (maxL := 2) (ret := (some (.int))) (by decide +kernel) rfl (Nat.le_of_ble_eq_true rfl) ?_
  intro p e s m args below meth cd D cid B X h1 h2 h3 h4
  have X : zX p s m args cd D cid B bb_Mo_forget 2 rr_Mo zT := X
  have H : zH s meth B c.length (some (.int)) "forget" := ⟨h1, h2, h4, h3⟩
  unfold f_Mo_forget at h
  show Zz p l e (zRm 1 21 0 0) s m args below meth cd _ D cid B 2 0 0 c 0 [(0, .ref a0), (1, .int a1)] []
  refine z_iload_n X dd_Mo_forget_0 rfl 1 rfl ?_
  refine z_iconst (v := 4) X dd_Mo_forget_1 (by decide) ?_
  obtain ⟨q1, eq1, h⟩ := zb h
  refine z_callSi X [.int a1, .int 4] rfl dd_Mo_forget_2 (c_Mo_isIn l eq1) (va_cwS 2 X.1.2.2.2.2 (zg_S km_1809 km_1810 km_138 km_1811) rfl rfl rfl (by decide +kernel) ⟨Nat.le_of_ble_eq_true rfl, Nat.le_of_ble_eq_true rfl⟩) rfl (Nat.le_of_ble_eq_true rfl) ⟨Nat.le_of_ble_eq_true rfl, Nat.le_of_ble_eq_true rfl⟩ ?_
  refine z_if_ne (tgt := 10) X dd_Mo_forget_5 (by decide) (fun q2 => ?_) (fun q2 => ?_)
  · rw [if_neg q2] at h
    refine z_aload_n X dd_Mo_forget_10 rfl 0 rfl ?_
    obtain ⟨v3, ev3, h⟩ := zb h
    refine z_get (j := 23) X dd_Mo_forget_11 kc_12 ki_12 (by decide) km_1544 (zgr_v ev3) ?_
    refine z_iconst (v := 4) X dd_Mo_forget_14 (by decide) ?_
    refine z_iload_n X dd_Mo_forget_15 rfl 1 rfl ?_
    refine z_iadd X dd_Mo_forget_16 ?_
    obtain ⟨v4, ev4, h⟩ := zb h
    refine z_zaload X dd_Mo_forget_17 rfl ev4 ?_
    refine z_if_ne (tgt := 24) X dd_Mo_forget_18 (by decide) (fun q5 => ?_) (fun q5 => ?_)
    · rw [if_neg q5] at h
      refine z_aload_n X dd_Mo_forget_24 rfl 0 rfl ?_
      obtain ⟨v6, ev6, h⟩ := zb h
      refine z_get (j := 23) X dd_Mo_forget_25 kc_12 ki_12 (by decide) km_1544 (zgr_v ev6) ?_
      refine z_iconst (v := 4) X dd_Mo_forget_28 (by decide) ?_
      refine z_iload_n X dd_Mo_forget_29 rfl 1 rfl ?_
      refine z_iadd X dd_Mo_forget_30 ?_
      refine z_iconst (v := 0) X dd_Mo_forget_31 (by decide) ?_
      obtain ⟨c7, ec7, h⟩ := zb h
      refine z_zastore X dd_Mo_forget_32 rfl ec7 ?_
      refine z_aload_n X dd_Mo_forget_33 rfl 0 rfl ?_
      obtain ⟨w9, ew9, h⟩ := zb h
      obtain ⟨q8, eq8, h⟩ := zb h
      refine z_callVv X [] rfl dd_Mo_forget_34 (c_Mo_changed l eq8) (cwV 0 X.1.2.2.2.2 (zg_V km_1812 km_1814 km_60 km_138 km_1815) rfl rfl rfl (by decide +kernel) ⟨Nat.le_of_ble_eq_true rfl, Nat.le_of_ble_eq_true rfl⟩) (zob_s ew9) kc_12 rfl (Nat.le_of_ble_eq_true rfl) ⟨Nat.le_of_ble_eq_true rfl, Nat.le_of_ble_eq_true rfl⟩ ?_
      refine z_iconst (v := 1) X dd_Mo_forget_37 (by decide) ?_
      obtain rfl := Option.some.inj h
      exact z_iret X H.1 H.2.1 H.2.2.1 dd_Mo_forget_38
    · rw [if_pos q5] at h
      refine z_bipush (v := (-2)) X dd_Mo_forget_21 (by decide) ?_
      obtain rfl := Option.some.inj h
      exact z_iret X H.1 H.2.1 H.2.2.1 dd_Mo_forget_23
  · rw [if_pos q2] at h
    refine z_iconst (v := (-1)) X dd_Mo_forget_8 (by decide) ?_
    obtain rfl := Option.some.inj h
    exact z_iret X H.1 H.2.1 H.2.2.1 dd_Mo_forget_9
theorem dd_Mo_place_0 : decode bb_Mo_place 0 = .ok (.aload_n 0, 1) := by decide +kernel
theorem dd_Mo_place_1 : decode bb_Mo_place 1 = .ok (.getfield 52, 3) := by decide +kernel
theorem dd_Mo_place_4 : decode bb_Mo_place 4 = .ok (.ireturn, 1) := by decide +kernel
set_option maxRecDepth 100000 in
set_option maxHeartbeats 4000000 in
theorem c_Mo_place (l : Launch) {nf : Nat} {a0 : Nat} {c : Zc} {res : Int32 × Zc} (h : f_Mo_place nf a0 c = some res) : zM l yy_Mo_place ww_Mo_place 0 0 0 0 [.ref a0] c (fun D cid B => zQi D cid B res.1 res.2 c.length 0) := by
  refine z_met (cc := bb_Mo_place) (maxL := 1) (ret := (some (.int))) (by decide +kernel) rfl (Nat.le_of_ble_eq_true rfl) ?_
  intro p e s m args below meth cd D cid B X h1 h2 h3 h4
  have X : zX p s m args cd D cid B bb_Mo_place 1 rr_Mo zT := X
  have H : zH s meth B c.length (some (.int)) "place" := ⟨h1, h2, h4, h3⟩
  unfold f_Mo_place at h
  show Zz p l e (zRm 0 0 0 0) s m args below meth cd _ D cid B 1 0 0 c 0 [(0, .ref a0)] []
  refine z_aload_n X dd_Mo_place_0 rfl 0 rfl ?_
  obtain ⟨v1, ev1, h⟩ := zb h
  refine z_get (j := 21) X dd_Mo_place_1 kc_12 ki_12 (by decide) km_1542 (zgi_v ev1) ?_
  obtain rfl := Option.some.inj h
  exact z_iret X H.1 H.2.1 H.2.2.1 dd_Mo_place_4
theorem dd_Mo_ask_0 : decode bb_Mo_ask 0 = .ok (.iload_n 1, 1) := by decide +kernel
theorem dd_Mo_ask_1 : decode bb_Mo_ask 1 = .ok (.iconst 4, 1) := by decide +kernel
theorem dd_Mo_ask_2 : decode bb_Mo_ask 2 = .ok (.invokestatic 536, 3) := by decide +kernel
theorem dd_Mo_ask_5 : decode bb_Mo_ask 5 = .ok (.ifCond .ne 5, 3) := by decide +kernel
theorem dd_Mo_ask_8 : decode bb_Mo_ask 8 = .ok (.iconst (-1), 1) := by decide +kernel
theorem dd_Mo_ask_9 : decode bb_Mo_ask 9 = .ok (.ireturn, 1) := by decide +kernel
theorem dd_Mo_ask_10 : decode bb_Mo_ask 10 = .ok (.aload_n 0, 1) := by decide +kernel
theorem dd_Mo_ask_11 : decode bb_Mo_ask 11 = .ok (.getfield 59, 3) := by decide +kernel
theorem dd_Mo_ask_14 : decode bb_Mo_ask 14 = .ok (.iload_n 1, 1) := by decide +kernel
theorem dd_Mo_ask_15 : decode bb_Mo_ask 15 = .ok (.baload, 1) := by decide +kernel
theorem dd_Mo_ask_16 : decode bb_Mo_ask 16 = .ok (.ifCond .ne 6, 3) := by decide +kernel
theorem dd_Mo_ask_19 : decode bb_Mo_ask 19 = .ok (.bipush (-2), 2) := by decide +kernel
theorem dd_Mo_ask_21 : decode bb_Mo_ask 21 = .ok (.ireturn, 1) := by decide +kernel
theorem dd_Mo_ask_22 : decode bb_Mo_ask 22 = .ok (.aload_n 0, 1) := by decide +kernel
theorem dd_Mo_ask_23 : decode bb_Mo_ask 23 = .ok (.invokevirtual 558, 3) := by decide +kernel
theorem dd_Mo_ask_26 : decode bb_Mo_ask 26 = .ok (.aload_n 0, 1) := by decide +kernel
theorem dd_Mo_ask_27 : decode bb_Mo_ask 27 = .ok (.getfield 488, 3) := by decide +kernel
theorem dd_Mo_ask_30 : decode bb_Mo_ask 30 = .ok (.ifCond .ne 20, 3) := by decide +kernel
theorem dd_Mo_ask_33 : decode bb_Mo_ask 33 = .ok (.aload_n 0, 1) := by decide +kernel
theorem dd_Mo_ask_34 : decode bb_Mo_ask 34 = .ok (.aload_n 0, 1) := by decide +kernel
theorem dd_Mo_ask_35 : decode bb_Mo_ask 35 = .ok (.getfield 56, 3) := by decide +kernel
theorem dd_Mo_ask_38 : decode bb_Mo_ask 38 = .ok (.iload_n 1, 1) := by decide +kernel
theorem dd_Mo_ask_39 : decode bb_Mo_ask 39 = .ok (.iaload, 1) := by decide +kernel
theorem dd_Mo_ask_40 : decode bb_Mo_ask 40 = .ok (.invokevirtual 491, 3) := by decide +kernel
theorem dd_Mo_ask_43 : decode bb_Mo_ask 43 = .ok (.ldc2_w 495, 3) := by decide +kernel
theorem dd_Mo_ask_46 : decode bb_Mo_ask 46 = .ok (.lcmp, 1) := by decide +kernel
theorem dd_Mo_ask_47 : decode bb_Mo_ask 47 = .ok (.ifCond .le 6, 3) := by decide +kernel
theorem dd_Mo_ask_50 : decode bb_Mo_ask 50 = .ok (.bipush (-4), 2) := by decide +kernel
theorem dd_Mo_ask_52 : decode bb_Mo_ask 52 = .ok (.ireturn, 1) := by decide +kernel
theorem dd_Mo_ask_53 : decode bb_Mo_ask 53 = .ok (.aload_n 0, 1) := by decide +kernel
theorem dd_Mo_ask_54 : decode bb_Mo_ask 54 = .ok (.iload_n 1, 1) := by decide +kernel
theorem dd_Mo_ask_55 : decode bb_Mo_ask 55 = .ok (.invokevirtual 561, 3) := by decide +kernel
theorem dd_Mo_ask_58 : decode bb_Mo_ask 58 = .ok (.ireturn, 1) := by decide +kernel
set_option maxRecDepth 100000 in
set_option maxHeartbeats 4000000 in
theorem t_Mo_ask_50  (X : zX p s m args cd D cid B bb_Mo_ask 2 rr_Mo zT) (H : zH s meth B n0 (some (.int)) "ask") {nf : Nat}  {c : Zc} {res : Int32 × Zc} (h : f_Mo_ask_50 nf  c = some res) : Zz p l e (zRm 7 161 0 0) s m args below meth cd (MQ below (zQi D cid B res.1 res.2 n0 0) args s 0 0 (fun q => B ≤ q)) D cid B 2 0 0 c 50 [] [] := by
  unfold f_Mo_ask_50 at h
  refine z_bipush (v := (-4)) X dd_Mo_ask_50 (by decide) ?_
  obtain rfl := Option.some.inj h
  exact z_iret X H.1 H.2.1 H.2.2.1 dd_Mo_ask_52
set_option maxRecDepth 100000 in
set_option maxHeartbeats 4000000 in
theorem c_Mo_ask (l : Launch) {nf : Nat} {a0 : Nat} {a1 : Int32} {c : Zc} {res : Int32 × Zc} (h : f_Mo_ask nf a0 a1 c = some res) : zM l yy_Mo_ask ww_Mo_ask 7 161 0 0 [.ref a0, .int a1] c (fun D cid B => zQi D cid B res.1 res.2 c.length 0) := by
  refine z_met (cc := bb_Mo_ask) (maxL := 2) (ret := (some (.int))) (by decide +kernel) rfl (Nat.le_of_ble_eq_true rfl) ?_
  intro p e s m args below meth cd D cid B X h1 h2 h3 h4
  have X : zX p s m args cd D cid B bb_Mo_ask 2 rr_Mo zT := X
  have H : zH s meth B c.length (some (.int)) "ask" := ⟨h1, h2, h4, h3⟩
  unfold f_Mo_ask at h
  show Zz p l e (zRm 7 161 0 0) s m args below meth cd _ D cid B 2 0 0 c 0 [(0, .ref a0), (1, .int a1)] []
  refine z_iload_n X dd_Mo_ask_0 rfl 1 rfl ?_
  refine z_iconst (v := 4) X dd_Mo_ask_1 (by decide) ?_
  obtain ⟨q1, eq1, h⟩ := zb h
  refine z_callSi X [.int a1, .int 4] rfl dd_Mo_ask_2 (c_Mo_isIn l eq1) (va_cwS 2 X.1.2.2.2.2 (zg_S km_1809 km_1810 km_138 km_1811) rfl rfl rfl (by decide +kernel) ⟨Nat.le_of_ble_eq_true rfl, Nat.le_of_ble_eq_true rfl⟩) rfl (Nat.le_of_ble_eq_true rfl) ⟨Nat.le_of_ble_eq_true rfl, Nat.le_of_ble_eq_true rfl⟩ ?_
  refine z_if_ne (tgt := 10) X dd_Mo_ask_5 (by decide) (fun q2 => ?_) (fun q2 => ?_)
  · rw [if_neg q2] at h
    refine z_aload_n X dd_Mo_ask_10 rfl 0 rfl ?_
    obtain ⟨v3, ev3, h⟩ := zb h
    refine z_get (j := 23) X dd_Mo_ask_11 kc_12 ki_12 (by decide) km_1544 (zgr_v ev3) ?_
    refine z_iload_n X dd_Mo_ask_14 rfl 1 rfl ?_
    obtain ⟨v4, ev4, h⟩ := zb h
    refine z_zaload X dd_Mo_ask_15 rfl ev4 ?_
    refine z_if_ne (tgt := 22) X dd_Mo_ask_16 (by decide) (fun q5 => ?_) (fun q5 => ?_)
    · rw [if_neg q5] at h
      refine z_aload_n X dd_Mo_ask_22 rfl 0 rfl ?_
      obtain ⟨w7, ew7, h⟩ := zb h
      obtain ⟨q6, eq6, h⟩ := zb h
      refine z_callVv X [] rfl dd_Mo_ask_23 (c_Mo_workRules l eq6) (cwV 0 X.1.2.2.2.2 (zg_V km_2071 km_2073 km_105 km_138 km_2074) rfl rfl rfl (by decide +kernel) ⟨Nat.le_of_ble_eq_true rfl, Nat.le_of_ble_eq_true rfl⟩) (zob_s ew7) kc_12 rfl (Nat.le_of_ble_eq_true rfl) ⟨Nat.le_of_ble_eq_true rfl, Nat.le_of_ble_eq_true rfl⟩ ?_
      refine z_aload_n X dd_Mo_ask_26 rfl 0 rfl ?_
      obtain ⟨v8, ev8, h⟩ := zb h
      refine z_get (j := 11) X dd_Mo_ask_27 kc_12 ki_12 (by decide) km_1532 (zgi_v ev8) ?_
      refine z_if_ne (tgt := 50) X dd_Mo_ask_30 (by decide) (fun q9 => ?_) (fun q9 => ?_)
      · rw [if_neg q9] at h
        refine z_sub [] rfl ?_
        exact t_Mo_ask_50 X H h
      · rw [if_pos q9] at h
        refine z_aload_n X dd_Mo_ask_33 rfl 0 rfl ?_
        refine z_aload_n X dd_Mo_ask_34 rfl 0 rfl ?_
        obtain ⟨v10, ev10, h⟩ := zb h
        refine z_get (j := 22) X dd_Mo_ask_35 kc_12 ki_12 (by decide) km_1543 (zgr_v ev10) ?_
        refine z_iload_n X dd_Mo_ask_38 rfl 1 rfl ?_
        obtain ⟨v11, ev11, h⟩ := zb h
        refine z_iaload X dd_Mo_ask_39 rfl ev11 ?_
        obtain ⟨w13, ew13, h⟩ := zb h
        obtain ⟨q12, eq12, h⟩ := zb h
        refine z_callVl X [.int v11] rfl dd_Mo_ask_40 (c_Mo_workOf l eq12) (cwV 1 X.1.2.2.2.2 (zg_V km_2075 km_2077 km_106 km_138 km_2078) rfl rfl rfl (by decide +kernel) ⟨Nat.le_of_ble_eq_true rfl, Nat.le_of_ble_eq_true rfl⟩) (zob_s ew13) kc_12 rfl (Nat.le_of_ble_eq_true rfl) ⟨Nat.le_of_ble_eq_true rfl, Nat.le_of_ble_eq_true rfl⟩ ?_
        refine z_ldc2 (v := 20000) X dd_Mo_ask_43 km_2079 ?_
        refine z_lcmp X dd_Mo_ask_46 ?_
        refine z_if_le (tgt := 53) X dd_Mo_ask_47 (by decide) (fun q14 => ?_) (fun q14 => ?_)
        · rw [if_pos q14] at h
          refine z_aload_n X dd_Mo_ask_53 rfl 0 rfl ?_
          refine z_iload_n X dd_Mo_ask_54 rfl 1 rfl ?_
          obtain ⟨w16, ew16, h⟩ := zb h
          obtain ⟨q15, eq15, h⟩ := zb h
          refine z_callVi X [.int a1] rfl dd_Mo_ask_55 (c_Mo_answered l eq15) (cwV 1 X.1.2.2.2.2 (zg_V km_2135 km_2137 km_118 km_138 km_2138) rfl rfl rfl (by decide +kernel) ⟨Nat.le_of_ble_eq_true rfl, Nat.le_of_ble_eq_true rfl⟩) (zob_s ew16) kc_12 rfl (Nat.le_of_ble_eq_true rfl) ⟨Nat.le_of_ble_eq_true rfl, Nat.le_of_ble_eq_true rfl⟩ ?_
          obtain rfl := Option.some.inj h
          exact z_iret X H.1 H.2.1 H.2.2.1 dd_Mo_ask_58
        · rw [if_neg q14] at h
          refine z_sub [] rfl ?_
          exact t_Mo_ask_50 X H h
    · rw [if_pos q5] at h
      refine z_bipush (v := (-2)) X dd_Mo_ask_19 (by decide) ?_
      obtain rfl := Option.some.inj h
      exact z_iret X H.1 H.2.1 H.2.2.1 dd_Mo_ask_21
  · rw [if_pos q2] at h
    refine z_iconst (v := (-1)) X dd_Mo_ask_8 (by decide) ?_
    obtain rfl := Option.some.inj h
    exact z_iret X H.1 H.2.1 H.2.2.1 dd_Mo_ask_9
theorem dd_Mo_answer_0 : decode bb_Mo_answer 0 = .ok (.iload_n 1, 1) := by decide +kernel
theorem dd_Mo_answer_1 : decode bb_Mo_answer 1 = .ok (.iconst 4, 1) := by decide +kernel
theorem dd_Mo_answer_2 : decode bb_Mo_answer 2 = .ok (.invokestatic 536, 3) := by decide +kernel
theorem dd_Mo_answer_5 : decode bb_Mo_answer 5 = .ok (.ifCond .eq 38, 3) := by decide +kernel
theorem dd_Mo_answer_8 : decode bb_Mo_answer 8 = .ok (.aload_n 0, 1) := by decide +kernel
theorem dd_Mo_answer_9 : decode bb_Mo_answer 9 = .ok (.getfield 223, 3) := by decide +kernel
theorem dd_Mo_answer_12 : decode bb_Mo_answer 12 = .ok (.iload_n 1, 1) := by decide +kernel
theorem dd_Mo_answer_13 : decode bb_Mo_answer 13 = .ok (.baload, 1) := by decide +kernel
theorem dd_Mo_answer_14 : decode bb_Mo_answer 14 = .ok (.ifCond .eq 29, 3) := by decide +kernel
theorem dd_Mo_answer_17 : decode bb_Mo_answer 17 = .ok (.iload_n 2, 1) := by decide +kernel
theorem dd_Mo_answer_18 : decode bb_Mo_answer 18 = .ok (.aload_n 0, 1) := by decide +kernel
theorem dd_Mo_answer_19 : decode bb_Mo_answer 19 = .ok (.getfield 217, 3) := by decide +kernel
theorem dd_Mo_answer_22 : decode bb_Mo_answer 22 = .ok (.iload_n 1, 1) := by decide +kernel
theorem dd_Mo_answer_23 : decode bb_Mo_answer 23 = .ok (.iaload, 1) := by decide +kernel
theorem dd_Mo_answer_24 : decode bb_Mo_answer 24 = .ok (.invokestatic 536, 3) := by decide +kernel
theorem dd_Mo_answer_27 : decode bb_Mo_answer 27 = .ok (.ifCond .eq 16, 3) := by decide +kernel
theorem dd_Mo_answer_30 : decode bb_Mo_answer 30 = .ok (.iload_n 3, 1) := by decide +kernel
theorem dd_Mo_answer_31 : decode bb_Mo_answer 31 = .ok (.aload_n 0, 1) := by decide +kernel
theorem dd_Mo_answer_32 : decode bb_Mo_answer 32 = .ok (.getfield 220, 3) := by decide +kernel
theorem dd_Mo_answer_35 : decode bb_Mo_answer 35 = .ok (.iload_n 1, 1) := by decide +kernel
theorem dd_Mo_answer_36 : decode bb_Mo_answer 36 = .ok (.iaload, 1) := by decide +kernel
theorem dd_Mo_answer_37 : decode bb_Mo_answer 37 = .ok (.invokestatic 536, 3) := by decide +kernel
theorem dd_Mo_answer_40 : decode bb_Mo_answer 40 = .ok (.ifCond .ne 7, 3) := by decide +kernel
theorem dd_Mo_answer_43 : decode bb_Mo_answer 43 = .ok (.ldc_w 564, 3) := by decide +kernel
theorem dd_Mo_answer_46 : decode bb_Mo_answer 46 = .ok (.ireturn, 1) := by decide +kernel
theorem dd_Mo_answer_47 : decode bb_Mo_answer 47 = .ok (.aload_n 0, 1) := by decide +kernel
theorem dd_Mo_answer_48 : decode bb_Mo_answer 48 = .ok (.getfield 214, 3) := by decide +kernel
theorem dd_Mo_answer_51 : decode bb_Mo_answer 51 = .ok (.ldc 203, 2) := by decide +kernel
theorem dd_Mo_answer_53 : decode bb_Mo_answer 53 = .ok (.iload_n 1, 1) := by decide +kernel
theorem dd_Mo_answer_54 : decode bb_Mo_answer 54 = .ok (.imul, 1) := by decide +kernel
theorem dd_Mo_answer_55 : decode bb_Mo_answer 55 = .ok (.bipush 8, 2) := by decide +kernel
theorem dd_Mo_answer_57 : decode bb_Mo_answer 57 = .ok (.iload_n 2, 1) := by decide +kernel
theorem dd_Mo_answer_58 : decode bb_Mo_answer 58 = .ok (.imul, 1) := by decide +kernel
theorem dd_Mo_answer_59 : decode bb_Mo_answer 59 = .ok (.iadd, 1) := by decide +kernel
theorem dd_Mo_answer_60 : decode bb_Mo_answer 60 = .ok (.iload_n 3, 1) := by decide +kernel
theorem dd_Mo_answer_61 : decode bb_Mo_answer 61 = .ok (.iadd, 1) := by decide +kernel
theorem dd_Mo_answer_62 : decode bb_Mo_answer 62 = .ok (.iaload, 1) := by decide +kernel
theorem dd_Mo_answer_63 : decode bb_Mo_answer 63 = .ok (.ireturn, 1) := by decide +kernel
set_option maxRecDepth 100000 in
set_option maxHeartbeats 4000000 in
theorem t_Mo_answer_43  (X : zX p s m args cd D cid B bb_Mo_answer 4 rr_Mo zT) (H : zH s meth B n0 (some (.int)) "answer") {nf : Nat}  {c : Zc} {res : Int32 × Zc} (h : f_Mo_answer_43 nf  c = some res) : Zz p l e (zRm 1 21 0 0) s m args below meth cd (MQ below (zQi D cid B res.1 res.2 n0 0) args s 0 0 (fun q => B ≤ q)) D cid B 4 0 0 c 43 [] [] := by
  unfold f_Mo_answer_43 at h
  refine z_ldcw (v := 2000000000) X dd_Mo_answer_43 km_2163 ?_
  obtain rfl := Option.some.inj h
  exact z_iret X H.1 H.2.1 H.2.2.1 dd_Mo_answer_46
set_option maxRecDepth 100000 in
set_option maxHeartbeats 4000000 in
theorem c_Mo_answer (l : Launch) {nf : Nat} {a0 : Nat} {a1 : Int32} {a2 : Int32} {a3 : Int32} {c : Zc} {res : Int32 × Zc} (h : f_Mo_answer nf a0 a1 a2 a3 c = some res) : zM l yy_Mo_answer ww_Mo_answer 1 21 0 0 [.ref a0, .int a1, .int a2, .int a3] c (fun D cid B => zQi D cid B res.1 res.2 c.length 0) := by
  refine z_met (cc := bb_Mo_answer) (maxL := 4) (ret := (some (.int))) (by decide +kernel) rfl (Nat.le_of_ble_eq_true rfl) ?_
  intro p e s m args below meth cd D cid B X h1 h2 h3 h4
  have X : zX p s m args cd D cid B bb_Mo_answer 4 rr_Mo zT := X
  have H : zH s meth B c.length (some (.int)) "answer" := ⟨h1, h2, h4, h3⟩
  unfold f_Mo_answer at h
  show Zz p l e (zRm 1 21 0 0) s m args below meth cd _ D cid B 4 0 0 c 0 [(0, .ref a0), (1, .int a1), (2, .int a2), (3, .int a3)] []
  refine z_iload_n X dd_Mo_answer_0 rfl 1 rfl ?_
  refine z_iconst (v := 4) X dd_Mo_answer_1 (by decide) ?_
  obtain ⟨q1, eq1, h⟩ := zb h
  refine z_callSi X [.int a1, .int 4] rfl dd_Mo_answer_2 (c_Mo_isIn l eq1) (va_cwS 2 X.1.2.2.2.2 (zg_S km_1809 km_1810 km_138 km_1811) rfl rfl rfl (by decide +kernel) ⟨Nat.le_of_ble_eq_true rfl, Nat.le_of_ble_eq_true rfl⟩) rfl (Nat.le_of_ble_eq_true rfl) ⟨Nat.le_of_ble_eq_true rfl, Nat.le_of_ble_eq_true rfl⟩ ?_
  refine z_if_eq (tgt := 43) X dd_Mo_answer_5 (by decide) (fun q2 => ?_) (fun q2 => ?_)
  · rw [if_pos q2] at h
    refine z_sub [] rfl ?_
    exact t_Mo_answer_43 X H h
  · rw [if_neg q2] at h
    refine z_aload_n X dd_Mo_answer_8 rfl 0 rfl ?_
    obtain ⟨v3, ev3, h⟩ := zb h
    refine z_get (j := 85) X dd_Mo_answer_9 kc_12 ki_12 (by decide) km_1606 (zgr_v ev3) ?_
    refine z_iload_n X dd_Mo_answer_12 rfl 1 rfl ?_
    obtain ⟨v4, ev4, h⟩ := zb h
    refine z_zaload X dd_Mo_answer_13 rfl ev4 ?_
    refine z_if_eq (tgt := 43) X dd_Mo_answer_14 (by decide) (fun q5 => ?_) (fun q5 => ?_)
    · rw [if_pos q5] at h
      refine z_sub [] rfl ?_
      exact t_Mo_answer_43 X H h
    · rw [if_neg q5] at h
      refine z_iload_n X dd_Mo_answer_17 rfl 2 rfl ?_
      refine z_aload_n X dd_Mo_answer_18 rfl 0 rfl ?_
      obtain ⟨v6, ev6, h⟩ := zb h
      refine z_get (j := 83) X dd_Mo_answer_19 kc_12 ki_12 (by decide) km_1604 (zgr_v ev6) ?_
      refine z_iload_n X dd_Mo_answer_22 rfl 1 rfl ?_
      obtain ⟨v7, ev7, h⟩ := zb h
      refine z_iaload X dd_Mo_answer_23 rfl ev7 ?_
      obtain ⟨q8, eq8, h⟩ := zb h
      refine z_callSi X [.int a2, .int v7] rfl dd_Mo_answer_24 (c_Mo_isIn l eq8) (va_cwS 2 X.1.2.2.2.2 (zg_S km_1809 km_1810 km_138 km_1811) rfl rfl rfl (by decide +kernel) ⟨Nat.le_of_ble_eq_true rfl, Nat.le_of_ble_eq_true rfl⟩) rfl (Nat.le_of_ble_eq_true rfl) ⟨Nat.le_of_ble_eq_true rfl, Nat.le_of_ble_eq_true rfl⟩ ?_
      refine z_if_eq (tgt := 43) X dd_Mo_answer_27 (by decide) (fun q9 => ?_) (fun q9 => ?_)
      · rw [if_pos q9] at h
        refine z_sub [] rfl ?_
        exact t_Mo_answer_43 X H h
      · rw [if_neg q9] at h
        refine z_iload_n X dd_Mo_answer_30 rfl 3 rfl ?_
        refine z_aload_n X dd_Mo_answer_31 rfl 0 rfl ?_
        obtain ⟨v10, ev10, h⟩ := zb h
        refine z_get (j := 84) X dd_Mo_answer_32 kc_12 ki_12 (by decide) km_1605 (zgr_v ev10) ?_
        refine z_iload_n X dd_Mo_answer_35 rfl 1 rfl ?_
        obtain ⟨v11, ev11, h⟩ := zb h
        refine z_iaload X dd_Mo_answer_36 rfl ev11 ?_
        obtain ⟨q12, eq12, h⟩ := zb h
        refine z_callSi X [.int a3, .int v11] rfl dd_Mo_answer_37 (c_Mo_isIn l eq12) (va_cwS 2 X.1.2.2.2.2 (zg_S km_1809 km_1810 km_138 km_1811) rfl rfl rfl (by decide +kernel) ⟨Nat.le_of_ble_eq_true rfl, Nat.le_of_ble_eq_true rfl⟩) rfl (Nat.le_of_ble_eq_true rfl) ⟨Nat.le_of_ble_eq_true rfl, Nat.le_of_ble_eq_true rfl⟩ ?_
        refine z_if_ne (tgt := 47) X dd_Mo_answer_40 (by decide) (fun q13 => ?_) (fun q13 => ?_)
        · rw [if_neg q13] at h
          refine z_aload_n X dd_Mo_answer_47 rfl 0 rfl ?_
          obtain ⟨v14, ev14, h⟩ := zb h
          refine z_get (j := 82) X dd_Mo_answer_48 kc_12 ki_12 (by decide) km_1603 (zgr_v ev14) ?_
          refine z_ldc (v := 160000) X dd_Mo_answer_51 km_1519 ?_
          refine z_iload_n X dd_Mo_answer_53 rfl 1 rfl ?_
          refine z_imul X dd_Mo_answer_54 ?_
          refine z_bipush (v := 8) X dd_Mo_answer_55 (by decide) ?_
          refine z_iload_n X dd_Mo_answer_57 rfl 2 rfl ?_
          refine z_imul X dd_Mo_answer_58 ?_
          refine z_iadd X dd_Mo_answer_59 ?_
          refine z_iload_n X dd_Mo_answer_60 rfl 3 rfl ?_
          refine z_iadd X dd_Mo_answer_61 ?_
          obtain ⟨v15, ev15, h⟩ := zb h
          refine z_iaload X dd_Mo_answer_62 rfl ev15 ?_
          obtain rfl := Option.some.inj h
          exact z_iret X H.1 H.2.1 H.2.2.1 dd_Mo_answer_63
        · rw [if_pos q13] at h
          refine z_sub [] rfl ?_
          exact t_Mo_answer_43 X H h
theorem dd_Mo_leads_0 : decode bb_Mo_leads 0 = .ok (.iload_n 1, 1) := by decide +kernel
theorem dd_Mo_leads_1 : decode bb_Mo_leads 1 = .ok (.aload_n 0, 1) := by decide +kernel
theorem dd_Mo_leads_2 : decode bb_Mo_leads 2 = .ok (.getfield 450, 3) := by decide +kernel
theorem dd_Mo_leads_5 : decode bb_Mo_leads 5 = .ok (.invokestatic 536, 3) := by decide +kernel
theorem dd_Mo_leads_8 : decode bb_Mo_leads 8 = .ok (.ifCond .eq 23, 3) := by decide +kernel
theorem dd_Mo_leads_11 : decode bb_Mo_leads 11 = .ok (.iload_n 2, 1) := by decide +kernel
theorem dd_Mo_leads_12 : decode bb_Mo_leads 12 = .ok (.aload_n 0, 1) := by decide +kernel
theorem dd_Mo_leads_13 : decode bb_Mo_leads 13 = .ok (.getfield 450, 3) := by decide +kernel
theorem dd_Mo_leads_16 : decode bb_Mo_leads 16 = .ok (.invokestatic 536, 3) := by decide +kernel
theorem dd_Mo_leads_19 : decode bb_Mo_leads 19 = .ok (.ifCond .eq 12, 3) := by decide +kernel
theorem dd_Mo_leads_22 : decode bb_Mo_leads 22 = .ok (.iload_n 3, 1) := by decide +kernel
theorem dd_Mo_leads_23 : decode bb_Mo_leads 23 = .ok (.bipush 12, 2) := by decide +kernel
theorem dd_Mo_leads_25 : decode bb_Mo_leads 25 = .ok (.invokestatic 536, 3) := by decide +kernel
theorem dd_Mo_leads_28 : decode bb_Mo_leads 28 = .ok (.ifCond .ne 5, 3) := by decide +kernel
theorem dd_Mo_leads_31 : decode bb_Mo_leads 31 = .ok (.iconst (-1), 1) := by decide +kernel
theorem dd_Mo_leads_32 : decode bb_Mo_leads 32 = .ok (.ireturn, 1) := by decide +kernel
theorem dd_Mo_leads_33 : decode bb_Mo_leads 33 = .ok (.aload_n 0, 1) := by decide +kernel
theorem dd_Mo_leads_34 : decode bb_Mo_leads 34 = .ok (.invokevirtual 558, 3) := by decide +kernel
theorem dd_Mo_leads_37 : decode bb_Mo_leads 37 = .ok (.iload_n 3, 1) := by decide +kernel
theorem dd_Mo_leads_38 : decode bb_Mo_leads 38 = .ok (.bipush 8, 2) := by decide +kernel
theorem dd_Mo_leads_40 : decode bb_Mo_leads 40 = .ok (.if_icmp .lt 13, 3) := by decide +kernel
theorem dd_Mo_leads_43 : decode bb_Mo_leads 43 = .ok (.aload_n 0, 1) := by decide +kernel
theorem dd_Mo_leads_44 : decode bb_Mo_leads 44 = .ok (.getfield 488, 3) := by decide +kernel
theorem dd_Mo_leads_47 : decode bb_Mo_leads 47 = .ok (.ifCond .eq 6, 3) := by decide +kernel
theorem dd_Mo_leads_50 : decode bb_Mo_leads 50 = .ok (.bipush (-4), 2) := by decide +kernel
theorem dd_Mo_leads_52 : decode bb_Mo_leads 52 = .ok (.ireturn, 1) := by decide +kernel
theorem dd_Mo_leads_53 : decode bb_Mo_leads 53 = .ok (.aload_n 0, 1) := by decide +kernel
theorem dd_Mo_leads_54 : decode bb_Mo_leads 54 = .ok (.getfield 32, 3) := by decide +kernel
theorem dd_Mo_leads_57 : decode bb_Mo_leads 57 = .ok (.sipush 256, 3) := by decide +kernel
theorem dd_Mo_leads_60 : decode bb_Mo_leads 60 = .ok (.iload_n 3, 1) := by decide +kernel
theorem dd_Mo_leads_61 : decode bb_Mo_leads 61 = .ok (.imul, 1) := by decide +kernel
theorem dd_Mo_leads_62 : decode bb_Mo_leads 62 = .ok (.bipush 16, 2) := by decide +kernel
theorem dd_Mo_leads_64 : decode bb_Mo_leads 64 = .ok (.iload_n 1, 1) := by decide +kernel
theorem dd_Mo_leads_65 : decode bb_Mo_leads 65 = .ok (.imul, 1) := by decide +kernel
theorem dd_Mo_leads_66 : decode bb_Mo_leads 66 = .ok (.iadd, 1) := by decide +kernel
theorem dd_Mo_leads_67 : decode bb_Mo_leads 67 = .ok (.iload_n 2, 1) := by decide +kernel
theorem dd_Mo_leads_68 : decode bb_Mo_leads 68 = .ok (.iadd, 1) := by decide +kernel
theorem dd_Mo_leads_69 : decode bb_Mo_leads 69 = .ok (.iaload, 1) := by decide +kernel
theorem dd_Mo_leads_70 : decode bb_Mo_leads 70 = .ok (.ireturn, 1) := by decide +kernel
set_option maxRecDepth 100000 in
set_option maxHeartbeats 4000000 in
theorem t_Mo_leads_31  (X : zX p s m args cd D cid B bb_Mo_leads 4 rr_Mo zT) (H : zH s meth B n0 (some (.int)) "leads") {nf : Nat}  {c : Zc} {res : Int32 × Zc} (h : f_Mo_leads_31 nf  c = some res) : Zz p l e (zRm 7 161 0 0) s m args below meth cd (MQ below (zQi D cid B res.1 res.2 n0 0) args s 0 0 (fun q => B ≤ q)) D cid B 4 0 0 c 31 [] [] := by
  unfold f_Mo_leads_31 at h
  refine z_iconst (v := (-1)) X dd_Mo_leads_31 (by decide) ?_
  obtain rfl := Option.some.inj h
  exact z_iret X H.1 H.2.1 H.2.2.1 dd_Mo_leads_32
set_option maxRecDepth 100000 in
set_option maxHeartbeats 4000000 in
theorem t_Mo_leads_53  (X : zX p s m args cd D cid B bb_Mo_leads 4 rr_Mo zT) (H : zH s meth B n0 (some (.int)) "leads") {nf : Nat} {x0 : Nat} {x1 : Int32} {x2 : Int32} {x3 : Int32} {c : Zc} {res : Int32 × Zc} (h : f_Mo_leads_53 nf x0 x1 x2 x3 c = some res) : Zz p l e (zRm 7 161 0 0) s m args below meth cd (MQ below (zQi D cid B res.1 res.2 n0 0) args s 0 0 (fun q => B ≤ q)) D cid B 4 0 0 c 53 [(0, .ref x0), (1, .int x1), (2, .int x2), (3, .int x3)] [] := by
  unfold f_Mo_leads_53 at h
  refine z_aload_n X dd_Mo_leads_53 rfl 0 rfl ?_
  obtain ⟨v12, ev12, h⟩ := zb h
  refine z_get (j := 9) X dd_Mo_leads_54 kc_12 ki_12 (by decide) km_1530 (zgr_v ev12) ?_
  refine z_sipush (v := 256) X dd_Mo_leads_57 (by decide) ?_
  refine z_iload_n X dd_Mo_leads_60 rfl 3 rfl ?_
  refine z_imul X dd_Mo_leads_61 ?_
  refine z_bipush (v := 16) X dd_Mo_leads_62 (by decide) ?_
  refine z_iload_n X dd_Mo_leads_64 rfl 1 rfl ?_
  refine z_imul X dd_Mo_leads_65 ?_
  refine z_iadd X dd_Mo_leads_66 ?_
  refine z_iload_n X dd_Mo_leads_67 rfl 2 rfl ?_
  refine z_iadd X dd_Mo_leads_68 ?_
  obtain ⟨v13, ev13, h⟩ := zb h
  refine z_iaload X dd_Mo_leads_69 rfl ev13 ?_
  obtain rfl := Option.some.inj h
  exact z_iret X H.1 H.2.1 H.2.2.1 dd_Mo_leads_70
set_option maxRecDepth 100000 in
set_option maxHeartbeats 4000000 in
theorem c_Mo_leads (l : Launch) {nf : Nat} {a0 : Nat} {a1 : Int32} {a2 : Int32} {a3 : Int32} {c : Zc} {res : Int32 × Zc} (h : f_Mo_leads nf a0 a1 a2 a3 c = some res) : zM l yy_Mo_leads ww_Mo_leads 7 161 0 0 [.ref a0, .int a1, .int a2, .int a3] c (fun D cid B => zQi D cid B res.1 res.2 c.length 0) := by
  refine z_met (cc := bb_Mo_leads) (maxL := 4) (ret := (some (.int))) (by decide +kernel) rfl (Nat.le_of_ble_eq_true rfl) ?_
  intro p e s m args below meth cd D cid B X h1 h2 h3 h4
  have X : zX p s m args cd D cid B bb_Mo_leads 4 rr_Mo zT := X
  have H : zH s meth B c.length (some (.int)) "leads" := ⟨h1, h2, h4, h3⟩
  unfold f_Mo_leads at h
  show Zz p l e (zRm 7 161 0 0) s m args below meth cd _ D cid B 4 0 0 c 0 [(0, .ref a0), (1, .int a1), (2, .int a2), (3, .int a3)] []
  refine z_iload_n X dd_Mo_leads_0 rfl 1 rfl ?_
  refine z_aload_n X dd_Mo_leads_1 rfl 0 rfl ?_
  obtain ⟨v1, ev1, h⟩ := zb h
  refine z_get (j := 0) X dd_Mo_leads_2 kc_12 ki_12 (by decide) km_1521 (zgi_v ev1) ?_
  obtain ⟨q2, eq2, h⟩ := zb h
  refine z_callSi X [.int a1, .int v1] rfl dd_Mo_leads_5 (c_Mo_isIn l eq2) (va_cwS 2 X.1.2.2.2.2 (zg_S km_1809 km_1810 km_138 km_1811) rfl rfl rfl (by decide +kernel) ⟨Nat.le_of_ble_eq_true rfl, Nat.le_of_ble_eq_true rfl⟩) rfl (Nat.le_of_ble_eq_true rfl) ⟨Nat.le_of_ble_eq_true rfl, Nat.le_of_ble_eq_true rfl⟩ ?_
  refine z_if_eq (tgt := 31) X dd_Mo_leads_8 (by decide) (fun q3 => ?_) (fun q3 => ?_)
  · rw [if_pos q3] at h
    refine z_sub [] rfl ?_
    exact t_Mo_leads_31 X H h
  · rw [if_neg q3] at h
    refine z_iload_n X dd_Mo_leads_11 rfl 2 rfl ?_
    refine z_aload_n X dd_Mo_leads_12 rfl 0 rfl ?_
    obtain ⟨v4, ev4, h⟩ := zb h
    refine z_get (j := 0) X dd_Mo_leads_13 kc_12 ki_12 (by decide) km_1521 (zgi_v ev4) ?_
    obtain ⟨q5, eq5, h⟩ := zb h
    refine z_callSi X [.int a2, .int v4] rfl dd_Mo_leads_16 (c_Mo_isIn l eq5) (va_cwS 2 X.1.2.2.2.2 (zg_S km_1809 km_1810 km_138 km_1811) rfl rfl rfl (by decide +kernel) ⟨Nat.le_of_ble_eq_true rfl, Nat.le_of_ble_eq_true rfl⟩) rfl (Nat.le_of_ble_eq_true rfl) ⟨Nat.le_of_ble_eq_true rfl, Nat.le_of_ble_eq_true rfl⟩ ?_
    refine z_if_eq (tgt := 31) X dd_Mo_leads_19 (by decide) (fun q6 => ?_) (fun q6 => ?_)
    · rw [if_pos q6] at h
      refine z_sub [] rfl ?_
      exact t_Mo_leads_31 X H h
    · rw [if_neg q6] at h
      refine z_iload_n X dd_Mo_leads_22 rfl 3 rfl ?_
      refine z_bipush (v := 12) X dd_Mo_leads_23 (by decide) ?_
      obtain ⟨q7, eq7, h⟩ := zb h
      refine z_callSi X [.int a3, .int 12] rfl dd_Mo_leads_25 (c_Mo_isIn l eq7) (va_cwS 2 X.1.2.2.2.2 (zg_S km_1809 km_1810 km_138 km_1811) rfl rfl rfl (by decide +kernel) ⟨Nat.le_of_ble_eq_true rfl, Nat.le_of_ble_eq_true rfl⟩) rfl (Nat.le_of_ble_eq_true rfl) ⟨Nat.le_of_ble_eq_true rfl, Nat.le_of_ble_eq_true rfl⟩ ?_
      refine z_if_ne (tgt := 33) X dd_Mo_leads_28 (by decide) (fun q8 => ?_) (fun q8 => ?_)
      · rw [if_neg q8] at h
        refine z_aload_n X dd_Mo_leads_33 rfl 0 rfl ?_
        obtain ⟨w10, ew10, h⟩ := zb h
        obtain ⟨q9, eq9, h⟩ := zb h
        refine z_callVv X [] rfl dd_Mo_leads_34 (c_Mo_workRules l eq9) (cwV 0 X.1.2.2.2.2 (zg_V km_2071 km_2073 km_105 km_138 km_2074) rfl rfl rfl (by decide +kernel) ⟨Nat.le_of_ble_eq_true rfl, Nat.le_of_ble_eq_true rfl⟩) (zob_s ew10) kc_12 rfl (Nat.le_of_ble_eq_true rfl) ⟨Nat.le_of_ble_eq_true rfl, Nat.le_of_ble_eq_true rfl⟩ ?_
        refine z_iload_n X dd_Mo_leads_37 rfl 3 rfl ?_
        refine z_bipush (v := 8) X dd_Mo_leads_38 (by decide) ?_
        refine z_icmp_lt (tgt := 53) X dd_Mo_leads_40 (by decide) (fun q11 => ?_) (fun q11 => ?_)
        · rw [if_pos q11] at h
          exact t_Mo_leads_53 X H h
        · rw [if_neg q11] at h
          refine z_aload_n X dd_Mo_leads_43 rfl 0 rfl ?_
          obtain ⟨v14, ev14, h⟩ := zb h
          refine z_get (j := 11) X dd_Mo_leads_44 kc_12 ki_12 (by decide) km_1532 (zgi_v ev14) ?_
          refine z_if_eq (tgt := 53) X dd_Mo_leads_47 (by decide) (fun q15 => ?_) (fun q15 => ?_)
          · rw [if_pos q15] at h
            exact t_Mo_leads_53 X H h
          · rw [if_neg q15] at h
            refine z_bipush (v := (-4)) X dd_Mo_leads_50 (by decide) ?_
            obtain rfl := Option.some.inj h
            exact z_iret X H.1 H.2.1 H.2.2.1 dd_Mo_leads_52
      · rw [if_pos q8] at h
        refine z_sub [] rfl ?_
        exact t_Mo_leads_31 X H h
theorem dd_Mo_pairs_0 : decode bb_Mo_pairs 0 = .ok (.iload_n 1, 1) := by decide +kernel
theorem dd_Mo_pairs_1 : decode bb_Mo_pairs 1 = .ok (.iconst 4, 1) := by decide +kernel
theorem dd_Mo_pairs_2 : decode bb_Mo_pairs 2 = .ok (.invokestatic 536, 3) := by decide +kernel
theorem dd_Mo_pairs_5 : decode bb_Mo_pairs 5 = .ok (.ifCond .ne 5, 3) := by decide +kernel
theorem dd_Mo_pairs_8 : decode bb_Mo_pairs 8 = .ok (.iconst (-1), 1) := by decide +kernel
theorem dd_Mo_pairs_9 : decode bb_Mo_pairs 9 = .ok (.ireturn, 1) := by decide +kernel
theorem dd_Mo_pairs_10 : decode bb_Mo_pairs 10 = .ok (.aload_n 0, 1) := by decide +kernel
theorem dd_Mo_pairs_11 : decode bb_Mo_pairs 11 = .ok (.getfield 59, 3) := by decide +kernel
theorem dd_Mo_pairs_14 : decode bb_Mo_pairs 14 = .ok (.iconst 4, 1) := by decide +kernel
theorem dd_Mo_pairs_15 : decode bb_Mo_pairs 15 = .ok (.iload_n 1, 1) := by decide +kernel
theorem dd_Mo_pairs_16 : decode bb_Mo_pairs 16 = .ok (.iadd, 1) := by decide +kernel
theorem dd_Mo_pairs_17 : decode bb_Mo_pairs 17 = .ok (.baload, 1) := by decide +kernel
theorem dd_Mo_pairs_18 : decode bb_Mo_pairs 18 = .ok (.ifCond .ne 6, 3) := by decide +kernel
theorem dd_Mo_pairs_21 : decode bb_Mo_pairs 21 = .ok (.bipush (-2), 2) := by decide +kernel
theorem dd_Mo_pairs_23 : decode bb_Mo_pairs 23 = .ok (.ireturn, 1) := by decide +kernel
theorem dd_Mo_pairs_24 : decode bb_Mo_pairs 24 = .ok (.aload_n 0, 1) := by decide +kernel
theorem dd_Mo_pairs_25 : decode bb_Mo_pairs 25 = .ok (.invokevirtual 558, 3) := by decide +kernel
theorem dd_Mo_pairs_28 : decode bb_Mo_pairs 28 = .ok (.aload_n 0, 1) := by decide +kernel
theorem dd_Mo_pairs_29 : decode bb_Mo_pairs 29 = .ok (.getfield 488, 3) := by decide +kernel
theorem dd_Mo_pairs_32 : decode bb_Mo_pairs 32 = .ok (.ifCond .eq 6, 3) := by decide +kernel
theorem dd_Mo_pairs_35 : decode bb_Mo_pairs 35 = .ok (.bipush (-4), 2) := by decide +kernel
theorem dd_Mo_pairs_37 : decode bb_Mo_pairs 37 = .ok (.ireturn, 1) := by decide +kernel
theorem dd_Mo_pairs_38 : decode bb_Mo_pairs 38 = .ok (.iconst 0, 1) := by decide +kernel
theorem dd_Mo_pairs_39 : decode bb_Mo_pairs 39 = .ok (.istore_n 2, 1) := by decide +kernel
theorem dd_Mo_pairs_40 : decode bb_Mo_pairs 40 = .ok (.iconst 0, 1) := by decide +kernel
theorem dd_Mo_pairs_41 : decode bb_Mo_pairs 41 = .ok (.istore_n 3, 1) := by decide +kernel
theorem dd_Mo_pairs_42 : decode bb_Mo_pairs 42 = .ok (.iload_n 3, 1) := by decide +kernel
theorem dd_Mo_pairs_43 : decode bb_Mo_pairs 43 = .ok (.sipush 256, 3) := by decide +kernel
theorem dd_Mo_pairs_46 : decode bb_Mo_pairs 46 = .ok (.if_icmp .ge 27, 3) := by decide +kernel
theorem dd_Mo_pairs_49 : decode bb_Mo_pairs 49 = .ok (.iload_n 2, 1) := by decide +kernel
theorem dd_Mo_pairs_50 : decode bb_Mo_pairs 50 = .ok (.aload_n 0, 1) := by decide +kernel
theorem dd_Mo_pairs_51 : decode bb_Mo_pairs 51 = .ok (.getfield 32, 3) := by decide +kernel
theorem dd_Mo_pairs_54 : decode bb_Mo_pairs 54 = .ok (.sipush 256, 3) := by decide +kernel
theorem dd_Mo_pairs_57 : decode bb_Mo_pairs 57 = .ok (.bipush 8, 2) := by decide +kernel
theorem dd_Mo_pairs_59 : decode bb_Mo_pairs 59 = .ok (.iload_n 1, 1) := by decide +kernel
theorem dd_Mo_pairs_60 : decode bb_Mo_pairs 60 = .ok (.iadd, 1) := by decide +kernel
theorem dd_Mo_pairs_61 : decode bb_Mo_pairs 61 = .ok (.imul, 1) := by decide +kernel
theorem dd_Mo_pairs_62 : decode bb_Mo_pairs 62 = .ok (.iload_n 3, 1) := by decide +kernel
theorem dd_Mo_pairs_63 : decode bb_Mo_pairs 63 = .ok (.iadd, 1) := by decide +kernel
theorem dd_Mo_pairs_64 : decode bb_Mo_pairs 64 = .ok (.iaload, 1) := by decide +kernel
theorem dd_Mo_pairs_65 : decode bb_Mo_pairs 65 = .ok (.iadd, 1) := by decide +kernel
theorem dd_Mo_pairs_66 : decode bb_Mo_pairs 66 = .ok (.istore_n 2, 1) := by decide +kernel
theorem dd_Mo_pairs_67 : decode bb_Mo_pairs 67 = .ok (.iinc 3 1, 3) := by decide +kernel
theorem dd_Mo_pairs_70 : decode bb_Mo_pairs 70 = .ok (.goto (-28), 3) := by decide +kernel
theorem dd_Mo_pairs_73 : decode bb_Mo_pairs 73 = .ok (.iload_n 2, 1) := by decide +kernel
theorem dd_Mo_pairs_74 : decode bb_Mo_pairs 74 = .ok (.ireturn, 1) := by decide +kernel
set_option maxRecDepth 100000 in
set_option maxHeartbeats 4000000 in
theorem u_Mo_pairs_42  (X : zX p s m args cd D cid B bb_Mo_pairs 4 rr_Mo zT) (H : zH s meth B n0 (some (.int)) "pairs") {nf : Nat} {x0 : Nat} {x1 : Int32} {x2 : Int32} {x3 : Int32} {c : Zc} {r : (Nat × Int32 × Int32 × Int32 × Zc) ⊕ (Int32 × Zc)} (h : g_Mo_pairs_42 nf x0 x1 x2 x3 c = some r) (k0 : ∀ a, r = .inl a → (fun a : Nat × Int32 × Int32 × Int32 × Zc => Zz p l e (zRm 7 161 0 0) s m args below meth cd Q D cid B 4 0 0 a.2.2.2.2 42 [(0, .ref a.1), (1, .int a.2.1), (2, .int a.2.2.1), (3, .int a.2.2.2.1)] []) a) (k1 : ∀ b, r = .inr b → (fun b : Int32 × Zc => Zz p l e (zRm 7 161 0 0) s m args below meth cd Q D cid B 4 0 0 b.2 73 [(2, .int b.1)] []) b) : Zz p l e (zRm 7 161 0 0) s m args below meth cd Q D cid B 4 0 0 c 42 [(0, .ref x0), (1, .int x1), (2, .int x2), (3, .int x3)] [] := by
  unfold g_Mo_pairs_42 at h
  refine z_iload_n X dd_Mo_pairs_42 rfl 3 rfl ?_
  refine z_sipush (v := 256) X dd_Mo_pairs_43 (by decide) ?_
  refine z_icmp_ge (tgt := 73) X dd_Mo_pairs_46 (by decide) (fun q10 => ?_) (fun q10 => ?_)
  · rw [if_pos q10] at h
    refine z_sub [2] rfl ?_
    obtain rfl := Option.some.inj h
    exact k1 _ rfl
  · rw [if_neg q10] at h
    refine z_iload_n X dd_Mo_pairs_49 rfl 2 rfl ?_
    refine z_aload_n X dd_Mo_pairs_50 rfl 0 rfl ?_
    obtain ⟨v11, ev11, h⟩ := zb h
    refine z_get (j := 9) X dd_Mo_pairs_51 kc_12 ki_12 (by decide) km_1530 (zgr_v ev11) ?_
    refine z_sipush (v := 256) X dd_Mo_pairs_54 (by decide) ?_
    refine z_bipush (v := 8) X dd_Mo_pairs_57 (by decide) ?_
    refine z_iload_n X dd_Mo_pairs_59 rfl 1 rfl ?_
    refine z_iadd X dd_Mo_pairs_60 ?_
    refine z_imul X dd_Mo_pairs_61 ?_
    refine z_iload_n X dd_Mo_pairs_62 rfl 3 rfl ?_
    refine z_iadd X dd_Mo_pairs_63 ?_
    obtain ⟨v12, ev12, h⟩ := zb h
    refine z_iaload X dd_Mo_pairs_64 rfl ev12 ?_
    refine z_iadd X dd_Mo_pairs_65 ?_
    refine z_istore_n (lv' := [(2, .int (x2 + v12)), (0, .ref x0), (1, .int x1), (3, .int x3)]) X dd_Mo_pairs_66 rfl (by decide) rfl ?_
    refine z_iinc (v := (x3 + 1)) (lv' := [(3, .int (x3 + 1)), (2, .int (x2 + v12)), (0, .ref x0), (1, .int x1)]) X dd_Mo_pairs_67 3 rfl rfl (by decide) rfl ?_
    refine z_goto (tgt := 42) X dd_Mo_pairs_70 (by decide) ?_
    refine z_sub [2, 3, 1, 0] rfl ?_
    obtain rfl := Option.some.inj h
    exact k0 _ rfl
set_option maxRecDepth 100000 in
set_option maxHeartbeats 4000000 in
theorem t_Mo_pairs_42  (X : zX p s m args cd D cid B bb_Mo_pairs 4 rr_Mo zT) (H : zH s meth B n0 (some (.int)) "pairs") {nf : Nat} {x0 : Nat} {x1 : Int32} {x2 : Int32} {x3 : Int32} {c : Zc} {res : Int32 × Zc} (h : f_Mo_pairs_42 nf x0 x1 x2 x3 c = some res) : Zz p l e (zRm 7 161 0 0) s m args below meth cd (MQ below (zQi D cid B res.1 res.2 n0 0) args s 0 0 (fun q => B ≤ q)) D cid B 4 0 0 c 42 [(0, .ref x0), (1, .int x1), (2, .int x2), (3, .int x3)] [] := by
  unfold f_Mo_pairs_42 at h
  obtain ⟨b, eb, h⟩ := zb h
  refine zlp_ok (P := fun a : Nat × Int32 × Int32 × Int32 × Zc => Zz p l e (zRm 7 161 0 0) s m args below meth cd _ D cid B 4 0 0 a.2.2.2.2 42 [(0, .ref a.1), (1, .int a.2.1), (2, .int a.2.2.1), (3, .int a.2.2.2.1)] []) (G := fun b : Int32 × Zc => Zz p l e (zRm 7 161 0 0) s m args below meth cd _ D cid B 4 0 0 b.2 73 [(2, .int b.1)] []) (fun a r ha k0 k1 => u_Mo_pairs_42 X H ha k0 k1) nf _ b eb ?_
  refine z_iload_n X dd_Mo_pairs_73 rfl 0 rfl ?_
  obtain rfl := Option.some.inj h
  exact z_iret X H.1 H.2.1 H.2.2.1 dd_Mo_pairs_74
set_option maxRecDepth 100000 in
set_option maxHeartbeats 4000000 in
theorem c_Mo_pairs (l : Launch) {nf : Nat} {a0 : Nat} {a1 : Int32} {c : Zc} {res : Int32 × Zc} (h : f_Mo_pairs nf a0 a1 c = some res) : zM l yy_Mo_pairs ww_Mo_pairs 7 161 0 0 [.ref a0, .int a1] c (fun D cid B => zQi D cid B res.1 res.2 c.length 0) := by
  refine z_met (cc := bb_Mo_pairs) (maxL := 4) (ret := (some (.int))) (by decide +kernel) rfl (Nat.le_of_ble_eq_true rfl) ?_
  intro p e s m args below meth cd D cid B X h1 h2 h3 h4
  have X : zX p s m args cd D cid B bb_Mo_pairs 4 rr_Mo zT := X
  have H : zH s meth B c.length (some (.int)) "pairs" := ⟨h1, h2, h4, h3⟩
  unfold f_Mo_pairs at h
  show Zz p l e (zRm 7 161 0 0) s m args below meth cd _ D cid B 4 0 0 c 0 [(0, .ref a0), (1, .int a1)] []
  refine z_iload_n X dd_Mo_pairs_0 rfl 1 rfl ?_
  refine z_iconst (v := 4) X dd_Mo_pairs_1 (by decide) ?_
  obtain ⟨q1, eq1, h⟩ := zb h
  refine z_callSi X [.int a1, .int 4] rfl dd_Mo_pairs_2 (c_Mo_isIn l eq1) (va_cwS 2 X.1.2.2.2.2 (zg_S km_1809 km_1810 km_138 km_1811) rfl rfl rfl (by decide +kernel) ⟨Nat.le_of_ble_eq_true rfl, Nat.le_of_ble_eq_true rfl⟩) rfl (Nat.le_of_ble_eq_true rfl) ⟨Nat.le_of_ble_eq_true rfl, Nat.le_of_ble_eq_true rfl⟩ ?_
  refine z_if_ne (tgt := 10) X dd_Mo_pairs_5 (by decide) (fun q2 => ?_) (fun q2 => ?_)
  · rw [if_neg q2] at h
    refine z_aload_n X dd_Mo_pairs_10 rfl 0 rfl ?_
    obtain ⟨v3, ev3, h⟩ := zb h
    refine z_get (j := 23) X dd_Mo_pairs_11 kc_12 ki_12 (by decide) km_1544 (zgr_v ev3) ?_
    refine z_iconst (v := 4) X dd_Mo_pairs_14 (by decide) ?_
    refine z_iload_n X dd_Mo_pairs_15 rfl 1 rfl ?_
    refine z_iadd X dd_Mo_pairs_16 ?_
    obtain ⟨v4, ev4, h⟩ := zb h
    refine z_zaload X dd_Mo_pairs_17 rfl ev4 ?_
    refine z_if_ne (tgt := 24) X dd_Mo_pairs_18 (by decide) (fun q5 => ?_) (fun q5 => ?_)
    · rw [if_neg q5] at h
      refine z_aload_n X dd_Mo_pairs_24 rfl 0 rfl ?_
      obtain ⟨w7, ew7, h⟩ := zb h
      obtain ⟨q6, eq6, h⟩ := zb h
      refine z_callVv X [] rfl dd_Mo_pairs_25 (c_Mo_workRules l eq6) (cwV 0 X.1.2.2.2.2 (zg_V km_2071 km_2073 km_105 km_138 km_2074) rfl rfl rfl (by decide +kernel) ⟨Nat.le_of_ble_eq_true rfl, Nat.le_of_ble_eq_true rfl⟩) (zob_s ew7) kc_12 rfl (Nat.le_of_ble_eq_true rfl) ⟨Nat.le_of_ble_eq_true rfl, Nat.le_of_ble_eq_true rfl⟩ ?_
      refine z_aload_n X dd_Mo_pairs_28 rfl 0 rfl ?_
      obtain ⟨v8, ev8, h⟩ := zb h
      refine z_get (j := 11) X dd_Mo_pairs_29 kc_12 ki_12 (by decide) km_1532 (zgi_v ev8) ?_
      refine z_if_eq (tgt := 38) X dd_Mo_pairs_32 (by decide) (fun q9 => ?_) (fun q9 => ?_)
      · rw [if_pos q9] at h
        refine z_iconst (v := 0) X dd_Mo_pairs_38 (by decide) ?_
        refine z_istore_n (lv' := [(2, .int 0), (0, .ref a0), (1, .int a1)]) X dd_Mo_pairs_39 rfl (by decide) rfl ?_
        refine z_iconst (v := 0) X dd_Mo_pairs_40 (by decide) ?_
        refine z_istore_n (lv' := [(3, .int 0), (2, .int 0), (0, .ref a0), (1, .int a1)]) X dd_Mo_pairs_41 rfl (by decide) rfl ?_
        refine z_sub [2, 3, 1, 0] rfl ?_
        exact t_Mo_pairs_42 X H h
      · rw [if_neg q9] at h
        refine z_bipush (v := (-4)) X dd_Mo_pairs_35 (by decide) ?_
        obtain rfl := Option.some.inj h
        exact z_iret X H.1 H.2.1 H.2.2.1 dd_Mo_pairs_37
    · rw [if_pos q5] at h
      refine z_bipush (v := (-2)) X dd_Mo_pairs_21 (by decide) ?_
      obtain rfl := Option.some.inj h
      exact z_iret X H.1 H.2.1 H.2.2.1 dd_Mo_pairs_23
  · rw [if_pos q2] at h
    refine z_iconst (v := (-1)) X dd_Mo_pairs_8 (by decide) ?_
    obtain rfl := Option.some.inj h
    exact z_iret X H.1 H.2.1 H.2.2.1 dd_Mo_pairs_9
theorem dd_Mo_least_0 : decode bb_Mo_least 0 = .ok (.iload_n 1, 1) := by decide +kernel
theorem dd_Mo_least_1 : decode bb_Mo_least 1 = .ok (.iconst 4, 1) := by decide +kernel
theorem dd_Mo_least_2 : decode bb_Mo_least 2 = .ok (.invokestatic 536, 3) := by decide +kernel
theorem dd_Mo_least_5 : decode bb_Mo_least 5 = .ok (.ifCond .eq 25, 3) := by decide +kernel
theorem dd_Mo_least_8 : decode bb_Mo_least 8 = .ok (.iload_n 2, 1) := by decide +kernel
theorem dd_Mo_least_9 : decode bb_Mo_least 9 = .ok (.aload_n 0, 1) := by decide +kernel
theorem dd_Mo_least_10 : decode bb_Mo_least 10 = .ok (.getfield 450, 3) := by decide +kernel
theorem dd_Mo_least_13 : decode bb_Mo_least 13 = .ok (.invokestatic 536, 3) := by decide +kernel
theorem dd_Mo_least_16 : decode bb_Mo_least 16 = .ok (.ifCond .eq 14, 3) := by decide +kernel
theorem dd_Mo_least_19 : decode bb_Mo_least 19 = .ok (.iload_n 3, 1) := by decide +kernel
theorem dd_Mo_least_20 : decode bb_Mo_least 20 = .ok (.aload_n 0, 1) := by decide +kernel
theorem dd_Mo_least_21 : decode bb_Mo_least 21 = .ok (.getfield 450, 3) := by decide +kernel
theorem dd_Mo_least_24 : decode bb_Mo_least 24 = .ok (.invokestatic 536, 3) := by decide +kernel
theorem dd_Mo_least_27 : decode bb_Mo_least 27 = .ok (.ifCond .ne 5, 3) := by decide +kernel
theorem dd_Mo_least_30 : decode bb_Mo_least 30 = .ok (.iconst (-1), 1) := by decide +kernel
theorem dd_Mo_least_31 : decode bb_Mo_least 31 = .ok (.ireturn, 1) := by decide +kernel
theorem dd_Mo_least_32 : decode bb_Mo_least 32 = .ok (.aload_n 0, 1) := by decide +kernel
theorem dd_Mo_least_33 : decode bb_Mo_least 33 = .ok (.getfield 59, 3) := by decide +kernel
theorem dd_Mo_least_36 : decode bb_Mo_least 36 = .ok (.iload_n 1, 1) := by decide +kernel
theorem dd_Mo_least_37 : decode bb_Mo_least 37 = .ok (.baload, 1) := by decide +kernel
theorem dd_Mo_least_38 : decode bb_Mo_least 38 = .ok (.ifCond .eq 17, 3) := by decide +kernel
theorem dd_Mo_least_41 : decode bb_Mo_least 41 = .ok (.aload_n 0, 1) := by decide +kernel
theorem dd_Mo_least_42 : decode bb_Mo_least 42 = .ok (.getfield 80, 3) := by decide +kernel
theorem dd_Mo_least_45 : decode bb_Mo_least 45 = .ok (.aload_n 0, 1) := by decide +kernel
theorem dd_Mo_least_46 : decode bb_Mo_least 46 = .ok (.getfield 56, 3) := by decide +kernel
theorem dd_Mo_least_49 : decode bb_Mo_least 49 = .ok (.iload_n 1, 1) := by decide +kernel
theorem dd_Mo_least_50 : decode bb_Mo_least 50 = .ok (.iaload, 1) := by decide +kernel
theorem dd_Mo_least_51 : decode bb_Mo_least 51 = .ok (.iaload, 1) := by decide +kernel
theorem dd_Mo_least_52 : decode bb_Mo_least 52 = .ok (.ifCond .ne 6, 3) := by decide +kernel
theorem dd_Mo_least_55 : decode bb_Mo_least 55 = .ok (.bipush (-2), 2) := by decide +kernel
theorem dd_Mo_least_57 : decode bb_Mo_least 57 = .ok (.ireturn, 1) := by decide +kernel
theorem dd_Mo_least_58 : decode bb_Mo_least 58 = .ok (.aload_n 0, 1) := by decide +kernel
theorem dd_Mo_least_59 : decode bb_Mo_least 59 = .ok (.invokevirtual 558, 3) := by decide +kernel
theorem dd_Mo_least_62 : decode bb_Mo_least 62 = .ok (.aload_n 0, 1) := by decide +kernel
theorem dd_Mo_least_63 : decode bb_Mo_least 63 = .ok (.getfield 488, 3) := by decide +kernel
theorem dd_Mo_least_66 : decode bb_Mo_least 66 = .ok (.ifCond .eq 6, 3) := by decide +kernel
theorem dd_Mo_least_69 : decode bb_Mo_least 69 = .ok (.bipush (-4), 2) := by decide +kernel
theorem dd_Mo_least_71 : decode bb_Mo_least 71 = .ok (.ireturn, 1) := by decide +kernel
theorem dd_Mo_least_72 : decode bb_Mo_least 72 = .ok (.aload_n 0, 1) := by decide +kernel
theorem dd_Mo_least_73 : decode bb_Mo_least 73 = .ok (.aload_n 0, 1) := by decide +kernel
theorem dd_Mo_least_74 : decode bb_Mo_least 74 = .ok (.getfield 56, 3) := by decide +kernel
theorem dd_Mo_least_77 : decode bb_Mo_least 77 = .ok (.iload_n 1, 1) := by decide +kernel
theorem dd_Mo_least_78 : decode bb_Mo_least 78 = .ok (.iaload, 1) := by decide +kernel
theorem dd_Mo_least_79 : decode bb_Mo_least 79 = .ok (.putfield 331, 3) := by decide +kernel
theorem dd_Mo_least_82 : decode bb_Mo_least 82 = .ok (.bipush 11, 2) := by decide +kernel
theorem dd_Mo_least_84 : decode bb_Mo_least 84 = .ok (.aload_n 0, 1) := by decide +kernel
theorem dd_Mo_least_85 : decode bb_Mo_least 85 = .ok (.getfield 331, 3) := by decide +kernel
theorem dd_Mo_least_88 : decode bb_Mo_least 88 = .ok (.imul, 1) := by decide +kernel
theorem dd_Mo_least_89 : decode bb_Mo_least 89 = .ok (.istore 4, 2) := by decide +kernel
theorem dd_Mo_least_91 : decode bb_Mo_least 91 = .ok (.aload_n 0, 1) := by decide +kernel
theorem dd_Mo_least_92 : decode bb_Mo_least 92 = .ok (.getfield 232, 3) := by decide +kernel
theorem dd_Mo_least_95 : decode bb_Mo_least 95 = .ok (.iload 4, 2) := by decide +kernel
theorem dd_Mo_least_97 : decode bb_Mo_least 97 = .ok (.baload, 1) := by decide +kernel
theorem dd_Mo_least_98 : decode bb_Mo_least 98 = .ok (.istore 5, 2) := by decide +kernel
theorem dd_Mo_least_100 : decode bb_Mo_least 100 = .ok (.aload_n 0, 1) := by decide +kernel
theorem dd_Mo_least_101 : decode bb_Mo_least 101 = .ok (.iload 4, 2) := by decide +kernel
theorem dd_Mo_least_103 : decode bb_Mo_least 103 = .ok (.iload 5, 2) := by decide +kernel
theorem dd_Mo_least_105 : decode bb_Mo_least 105 = .ok (.ifCond .eq 7, 3) := by decide +kernel
theorem dd_Mo_least_108 : decode bb_Mo_least 108 = .ok (.iload_n 3, 1) := by decide +kernel
theorem dd_Mo_least_109 : decode bb_Mo_least 109 = .ok (.goto 4, 3) := by decide +kernel
theorem dd_Mo_least_112 : decode bb_Mo_least 112 = .ok (.iload_n 2, 1) := by decide +kernel
theorem dd_Mo_least_113 : decode bb_Mo_least 113 = .ok (.invokevirtual 457, 3) := by decide +kernel
theorem dd_Mo_least_116 : decode bb_Mo_least 116 = .ok (.aload_n 0, 1) := by decide +kernel
theorem dd_Mo_least_117 : decode bb_Mo_least 117 = .ok (.getfield 179, 3) := by decide +kernel
theorem dd_Mo_least_120 : decode bb_Mo_least 120 = .ok (.iload 5, 2) := by decide +kernel
theorem dd_Mo_least_122 : decode bb_Mo_least 122 = .ok (.ifCond .eq 12, 3) := by decide +kernel
theorem dd_Mo_least_125 : decode bb_Mo_least 125 = .ok (.bipush 16, 2) := by decide +kernel
theorem dd_Mo_least_127 : decode bb_Mo_least 127 = .ok (.iload_n 3, 1) := by decide +kernel
theorem dd_Mo_least_128 : decode bb_Mo_least 128 = .ok (.imul, 1) := by decide +kernel
theorem dd_Mo_least_129 : decode bb_Mo_least 129 = .ok (.iload_n 2, 1) := by decide +kernel
theorem dd_Mo_least_130 : decode bb_Mo_least 130 = .ok (.iadd, 1) := by decide +kernel
theorem dd_Mo_least_131 : decode bb_Mo_least 131 = .ok (.goto 9, 3) := by decide +kernel
theorem dd_Mo_least_134 : decode bb_Mo_least 134 = .ok (.bipush 16, 2) := by decide +kernel
theorem dd_Mo_least_136 : decode bb_Mo_least 136 = .ok (.iload_n 2, 1) := by decide +kernel
theorem dd_Mo_least_137 : decode bb_Mo_least 137 = .ok (.imul, 1) := by decide +kernel
theorem dd_Mo_least_138 : decode bb_Mo_least 138 = .ok (.iload_n 3, 1) := by decide +kernel
theorem dd_Mo_least_139 : decode bb_Mo_least 139 = .ok (.iadd, 1) := by decide +kernel
theorem dd_Mo_least_140 : decode bb_Mo_least 140 = .ok (.iaload, 1) := by decide +kernel
theorem dd_Mo_least_141 : decode bb_Mo_least 141 = .ok (.istore 6, 2) := by decide +kernel
theorem dd_Mo_least_143 : decode bb_Mo_least 143 = .ok (.iload 6, 2) := by decide +kernel
theorem dd_Mo_least_145 : decode bb_Mo_least 145 = .ok (.ifCond .ge 8, 3) := by decide +kernel
theorem dd_Mo_least_148 : decode bb_Mo_least 148 = .ok (.bipush (-2), 2) := by decide +kernel
theorem dd_Mo_least_150 : decode bb_Mo_least 150 = .ok (.goto 5, 3) := by decide +kernel
theorem dd_Mo_least_153 : decode bb_Mo_least 153 = .ok (.iload 6, 2) := by decide +kernel
theorem dd_Mo_least_155 : decode bb_Mo_least 155 = .ok (.ireturn, 1) := by decide +kernel
set_option maxRecDepth 100000 in
set_option maxHeartbeats 4000000 in
theorem t_Mo_least_30  (X : zX p s m args cd D cid B bb_Mo_least 7 rr_Mo zT) (H : zH s meth B n0 (some (.int)) "least") {nf : Nat}  {c : Zc} {res : Int32 × Zc} (h : f_Mo_least_30 nf  c = some res) : Zz p l e (zRm 7 161 0 0) s m args below meth cd (MQ below (zQi D cid B res.1 res.2 n0 0) args s 0 0 (fun q => B ≤ q)) D cid B 7 0 0 c 30 [] [] := by
  unfold f_Mo_least_30 at h
  refine z_iconst (v := (-1)) X dd_Mo_least_30 (by decide) ?_
  obtain rfl := Option.some.inj h
  exact z_iret X H.1 H.2.1 H.2.2.1 dd_Mo_least_31
set_option maxRecDepth 100000 in
set_option maxHeartbeats 4000000 in
theorem t_Mo_least_55  (X : zX p s m args cd D cid B bb_Mo_least 7 rr_Mo zT) (H : zH s meth B n0 (some (.int)) "least") {nf : Nat}  {c : Zc} {res : Int32 × Zc} (h : f_Mo_least_55 nf  c = some res) : Zz p l e (zRm 7 161 0 0) s m args below meth cd (MQ below (zQi D cid B res.1 res.2 n0 0) args s 0 0 (fun q => B ≤ q)) D cid B 7 0 0 c 55 [] [] := by
  unfold f_Mo_least_55 at h
  refine z_bipush (v := (-2)) X dd_Mo_least_55 (by decide) ?_
  obtain rfl := Option.some.inj h
  exact z_iret X H.1 H.2.1 H.2.2.1 dd_Mo_least_57
set_option maxRecDepth 100000 in
set_option maxHeartbeats 4000000 in
theorem t_Mo_least_155  (X : zX p s m args cd D cid B bb_Mo_least 7 rr_Mo zT) (H : zH s meth B n0 (some (.int)) "least") {nf : Nat} {s0 : Int32} {c : Zc} {res : Int32 × Zc} (h : f_Mo_least_155 nf s0 c = some res) : Zz p l e (zRm 7 161 0 0) s m args below meth cd (MQ below (zQi D cid B res.1 res.2 n0 0) args s 0 0 (fun q => B ≤ q)) D cid B 7 0 0 c 155 [] [.int s0] := by
  unfold f_Mo_least_155 at h
  obtain rfl := Option.some.inj h
  exact z_iret X H.1 H.2.1 H.2.2.1 dd_Mo_least_155
set_option maxRecDepth 100000 in
set_option maxHeartbeats 4000000 in
theorem t_Mo_least_140  (X : zX p s m args cd D cid B bb_Mo_least 7 rr_Mo zT) (H : zH s meth B n0 (some (.int)) "least") {nf : Nat} {s0 : Nat} {s1 : Int32} {c : Zc} {res : Int32 × Zc} (h : f_Mo_least_140 nf s0 s1 c = some res) : Zz p l e (zRm 7 161 0 0) s m args below meth cd (MQ below (zQi D cid B res.1 res.2 n0 0) args s 0 0 (fun q => B ≤ q)) D cid B 7 0 0 c 140 [] [.int s1, .ref s0] := by
  unfold f_Mo_least_140 at h
  obtain ⟨v32, ev32, h⟩ := zb h
  refine z_iaload X dd_Mo_least_140 rfl ev32 ?_
  refine z_istore (lv' := [(6, .int v32)]) X dd_Mo_least_141 (by decide) rfl ?_
  refine z_iload X dd_Mo_least_143 0 rfl ?_
  refine z_if_ge (tgt := 153) X dd_Mo_least_145 (by decide) (fun q33 => ?_) (fun q33 => ?_)
  · rw [if_pos q33] at h
    refine z_iload X dd_Mo_least_153 0 rfl ?_
    refine z_sub [] rfl ?_
    exact t_Mo_least_155 X H h
  · rw [if_neg q33] at h
    refine z_bipush (v := (-2)) X dd_Mo_least_148 (by decide) ?_
    refine z_goto (tgt := 155) X dd_Mo_least_150 (by decide) ?_
    refine z_sub [] rfl ?_
    exact t_Mo_least_155 X H h
set_option maxRecDepth 100000 in
set_option maxHeartbeats 4000000 in
theorem t_Mo_least_113  (X : zX p s m args cd D cid B bb_Mo_least 7 rr_Mo zT) (H : zH s meth B n0 (some (.int)) "least") {nf : Nat} {x0 : Nat} {x2 : Int32} {x3 : Int32} {x5 : Int32} {s0 : Nat} {s1 : Int32} {s2 : Int32} {c : Zc} {res : Int32 × Zc} (h : f_Mo_least_113 nf x0 x2 x3 x5 s0 s1 s2 c = some res) : Zz p l e (zRm 7 161 0 0) s m args below meth cd (MQ below (zQi D cid B res.1 res.2 n0 0) args s 0 0 (fun q => B ≤ q)) D cid B 7 0 0 c 113 [(0, .ref x0), (2, .int x2), (3, .int x3), (5, .int x5)] [.int s2, .int s1, .ref s0] := by
  unfold f_Mo_least_113 at h
  obtain ⟨w29, ew29, h⟩ := zb h
  obtain ⟨q28, eq28, h⟩ := zb h
  refine z_callVv X [.int s1, .int s2] rfl dd_Mo_least_113 (c_Mo_measure l eq28) (cwV 2 X.1.2.2.2.2 (zg_V km_2089 km_2091 km_109 km_138 km_2092) rfl rfl rfl (by decide +kernel) ⟨Nat.le_of_ble_eq_true rfl, Nat.le_of_ble_eq_true rfl⟩) (zob_s ew29) kc_12 rfl (Nat.le_of_ble_eq_true rfl) ⟨Nat.le_of_ble_eq_true rfl, Nat.le_of_ble_eq_true rfl⟩ ?_
  refine z_aload_n X dd_Mo_least_116 rfl 0 rfl ?_
  obtain ⟨v30, ev30, h⟩ := zb h
  refine z_get (j := 70) X dd_Mo_least_117 kc_12 ki_12 (by decide) km_1591 (zgr_v ev30) ?_
  refine z_iload X dd_Mo_least_120 3 rfl ?_
  refine z_if_eq (tgt := 134) X dd_Mo_least_122 (by decide) (fun q31 => ?_) (fun q31 => ?_)
  · rw [if_pos q31] at h
    refine z_bipush (v := 16) X dd_Mo_least_134 (by decide) ?_
    refine z_iload_n X dd_Mo_least_136 rfl 1 rfl ?_
    refine z_imul X dd_Mo_least_137 ?_
    refine z_iload_n X dd_Mo_least_138 rfl 2 rfl ?_
    refine z_iadd X dd_Mo_least_139 ?_
    refine z_sub [] rfl ?_
    exact t_Mo_least_140 X H h
  · rw [if_neg q31] at h
    refine z_bipush (v := 16) X dd_Mo_least_125 (by decide) ?_
    refine z_iload_n X dd_Mo_least_127 rfl 2 rfl ?_
    refine z_imul X dd_Mo_least_128 ?_
    refine z_iload_n X dd_Mo_least_129 rfl 1 rfl ?_
    refine z_iadd X dd_Mo_least_130 ?_
    refine z_goto (tgt := 140) X dd_Mo_least_131 (by decide) ?_
    refine z_sub [] rfl ?_
    exact t_Mo_least_140 X H h
set_option maxRecDepth 100000 in
set_option maxHeartbeats 4000000 in
theorem c_Mo_least (l : Launch) {nf : Nat} {a0 : Nat} {a1 : Int32} {a2 : Int32} {a3 : Int32} {c : Zc} {res : Int32 × Zc} (h : f_Mo_least nf a0 a1 a2 a3 c = some res) : zM l yy_Mo_least ww_Mo_least 7 161 0 0 [.ref a0, .int a1, .int a2, .int a3] c (fun D cid B => zQi D cid B res.1 res.2 c.length 0) := by
  refine z_met (cc := bb_Mo_least) (maxL := 7) (ret := (some (.int))) (by decide +kernel) rfl (Nat.le_of_ble_eq_true rfl) ?_
  intro p e s m args below meth cd D cid B X h1 h2 h3 h4
  have X : zX p s m args cd D cid B bb_Mo_least 7 rr_Mo zT := X
  have H : zH s meth B c.length (some (.int)) "least" := ⟨h1, h2, h4, h3⟩
  unfold f_Mo_least at h
  show Zz p l e (zRm 7 161 0 0) s m args below meth cd _ D cid B 7 0 0 c 0 [(0, .ref a0), (1, .int a1), (2, .int a2), (3, .int a3)] []
  refine z_iload_n X dd_Mo_least_0 rfl 1 rfl ?_
  refine z_iconst (v := 4) X dd_Mo_least_1 (by decide) ?_
  obtain ⟨q1, eq1, h⟩ := zb h
  refine z_callSi X [.int a1, .int 4] rfl dd_Mo_least_2 (c_Mo_isIn l eq1) (va_cwS 2 X.1.2.2.2.2 (zg_S km_1809 km_1810 km_138 km_1811) rfl rfl rfl (by decide +kernel) ⟨Nat.le_of_ble_eq_true rfl, Nat.le_of_ble_eq_true rfl⟩) rfl (Nat.le_of_ble_eq_true rfl) ⟨Nat.le_of_ble_eq_true rfl, Nat.le_of_ble_eq_true rfl⟩ ?_
  refine z_if_eq (tgt := 30) X dd_Mo_least_5 (by decide) (fun q2 => ?_) (fun q2 => ?_)
  · rw [if_pos q2] at h
    refine z_sub [] rfl ?_
    exact t_Mo_least_30 X H h
  · rw [if_neg q2] at h
    refine z_iload_n X dd_Mo_least_8 rfl 2 rfl ?_
    refine z_aload_n X dd_Mo_least_9 rfl 0 rfl ?_
    obtain ⟨v3, ev3, h⟩ := zb h
    refine z_get (j := 0) X dd_Mo_least_10 kc_12 ki_12 (by decide) km_1521 (zgi_v ev3) ?_
    obtain ⟨q4, eq4, h⟩ := zb h
    refine z_callSi X [.int a2, .int v3] rfl dd_Mo_least_13 (c_Mo_isIn l eq4) (va_cwS 2 X.1.2.2.2.2 (zg_S km_1809 km_1810 km_138 km_1811) rfl rfl rfl (by decide +kernel) ⟨Nat.le_of_ble_eq_true rfl, Nat.le_of_ble_eq_true rfl⟩) rfl (Nat.le_of_ble_eq_true rfl) ⟨Nat.le_of_ble_eq_true rfl, Nat.le_of_ble_eq_true rfl⟩ ?_
    refine z_if_eq (tgt := 30) X dd_Mo_least_16 (by decide) (fun q5 => ?_) (fun q5 => ?_)
    · rw [if_pos q5] at h
      refine z_sub [] rfl ?_
      exact t_Mo_least_30 X H h
    · rw [if_neg q5] at h
      refine z_iload_n X dd_Mo_least_19 rfl 3 rfl ?_
      refine z_aload_n X dd_Mo_least_20 rfl 0 rfl ?_
      obtain ⟨v6, ev6, h⟩ := zb h
      refine z_get (j := 0) X dd_Mo_least_21 kc_12 ki_12 (by decide) km_1521 (zgi_v ev6) ?_
      obtain ⟨q7, eq7, h⟩ := zb h
      refine z_callSi X [.int a3, .int v6] rfl dd_Mo_least_24 (c_Mo_isIn l eq7) (va_cwS 2 X.1.2.2.2.2 (zg_S km_1809 km_1810 km_138 km_1811) rfl rfl rfl (by decide +kernel) ⟨Nat.le_of_ble_eq_true rfl, Nat.le_of_ble_eq_true rfl⟩) rfl (Nat.le_of_ble_eq_true rfl) ⟨Nat.le_of_ble_eq_true rfl, Nat.le_of_ble_eq_true rfl⟩ ?_
      refine z_if_ne (tgt := 32) X dd_Mo_least_27 (by decide) (fun q8 => ?_) (fun q8 => ?_)
      · rw [if_neg q8] at h
        refine z_aload_n X dd_Mo_least_32 rfl 0 rfl ?_
        obtain ⟨v9, ev9, h⟩ := zb h
        refine z_get (j := 23) X dd_Mo_least_33 kc_12 ki_12 (by decide) km_1544 (zgr_v ev9) ?_
        refine z_iload_n X dd_Mo_least_36 rfl 1 rfl ?_
        obtain ⟨v10, ev10, h⟩ := zb h
        refine z_zaload X dd_Mo_least_37 rfl ev10 ?_
        refine z_if_eq (tgt := 55) X dd_Mo_least_38 (by decide) (fun q11 => ?_) (fun q11 => ?_)
        · rw [if_pos q11] at h
          refine z_sub [] rfl ?_
          exact t_Mo_least_55 X H h
        · rw [if_neg q11] at h
          refine z_aload_n X dd_Mo_least_41 rfl 0 rfl ?_
          obtain ⟨v12, ev12, h⟩ := zb h
          refine z_get (j := 31) X dd_Mo_least_42 kc_12 ki_12 (by decide) km_1552 (zgr_v ev12) ?_
          refine z_aload_n X dd_Mo_least_45 rfl 0 rfl ?_
          obtain ⟨v13, ev13, h⟩ := zb h
          refine z_get (j := 22) X dd_Mo_least_46 kc_12 ki_12 (by decide) km_1543 (zgr_v ev13) ?_
          refine z_iload_n X dd_Mo_least_49 rfl 1 rfl ?_
          obtain ⟨v14, ev14, h⟩ := zb h
          refine z_iaload X dd_Mo_least_50 rfl ev14 ?_
          obtain ⟨v15, ev15, h⟩ := zb h
          refine z_iaload X dd_Mo_least_51 rfl ev15 ?_
          refine z_if_ne (tgt := 58) X dd_Mo_least_52 (by decide) (fun q16 => ?_) (fun q16 => ?_)
          · rw [if_neg q16] at h
            refine z_aload_n X dd_Mo_least_58 rfl 0 rfl ?_
            obtain ⟨w18, ew18, h⟩ := zb h
            obtain ⟨q17, eq17, h⟩ := zb h
            refine z_callVv X [] rfl dd_Mo_least_59 (c_Mo_workRules l eq17) (cwV 0 X.1.2.2.2.2 (zg_V km_2071 km_2073 km_105 km_138 km_2074) rfl rfl rfl (by decide +kernel) ⟨Nat.le_of_ble_eq_true rfl, Nat.le_of_ble_eq_true rfl⟩) (zob_s ew18) kc_12 rfl (Nat.le_of_ble_eq_true rfl) ⟨Nat.le_of_ble_eq_true rfl, Nat.le_of_ble_eq_true rfl⟩ ?_
            refine z_aload_n X dd_Mo_least_62 rfl 0 rfl ?_
            obtain ⟨v19, ev19, h⟩ := zb h
            refine z_get (j := 11) X dd_Mo_least_63 kc_12 ki_12 (by decide) km_1532 (zgi_v ev19) ?_
            refine z_if_eq (tgt := 72) X dd_Mo_least_66 (by decide) (fun q20 => ?_) (fun q20 => ?_)
            · rw [if_pos q20] at h
              refine z_aload_n X dd_Mo_least_72 rfl 0 rfl ?_
              refine z_aload_n X dd_Mo_least_73 rfl 0 rfl ?_
              obtain ⟨v21, ev21, h⟩ := zb h
              refine z_get (j := 22) X dd_Mo_least_74 kc_12 ki_12 (by decide) km_1543 (zgr_v ev21) ?_
              refine z_iload_n X dd_Mo_least_77 rfl 1 rfl ?_
              obtain ⟨v22, ev22, h⟩ := zb h
              refine z_iaload X dd_Mo_least_78 rfl ev22 ?_
              obtain ⟨c23, ec23, h⟩ := zb h
              refine z_put (j := 25) X dd_Mo_least_79 kc_12 ki_12 tt_Mo tk_Mo nn_Mo (by decide) km_1546 rfl (tk_Mo 25 (by decide)) rfl rfl ec23 ?_
              refine z_bipush (v := 11) X dd_Mo_least_82 (by decide) ?_
              refine z_aload_n X dd_Mo_least_84 rfl 0 rfl ?_
              obtain ⟨v24, ev24, h⟩ := zb h
              refine z_get (j := 25) X dd_Mo_least_85 kc_12 ki_12 (by decide) km_1546 (zgi_v ev24) ?_
              refine z_imul X dd_Mo_least_88 ?_
              refine z_istore (lv' := [(4, .int (11 * v24)), (0, .ref a0), (1, .int a1), (2, .int a2), (3, .int a3)]) X dd_Mo_least_89 (by decide) rfl ?_
              refine z_aload_n X dd_Mo_least_91 rfl 1 rfl ?_
              obtain ⟨v25, ev25, h⟩ := zb h
              refine z_get (j := 89) X dd_Mo_least_92 kc_12 ki_12 (by decide) km_1610 (zgr_v ev25) ?_
              refine z_iload X dd_Mo_least_95 0 rfl ?_
              obtain ⟨v26, ev26, h⟩ := zb h
              refine z_zaload X dd_Mo_least_97 rfl ev26 ?_
              refine z_istore (lv' := [(5, .int v26), (4, .int (11 * v24)), (0, .ref a0), (1, .int a1), (2, .int a2), (3, .int a3)]) X dd_Mo_least_98 (by decide) rfl ?_
              refine z_aload_n X dd_Mo_least_100 rfl 2 rfl ?_
              refine z_iload X dd_Mo_least_101 1 rfl ?_
              refine z_iload X dd_Mo_least_103 0 rfl ?_
              refine z_if_eq (tgt := 112) X dd_Mo_least_105 (by decide) (fun q27 => ?_) (fun q27 => ?_)
              · rw [if_pos q27] at h
                refine z_iload_n X dd_Mo_least_112 rfl 4 rfl ?_
                refine z_sub [2, 4, 5, 0] rfl ?_
                exact t_Mo_least_113 X H h
              · rw [if_neg q27] at h
                refine z_iload_n X dd_Mo_least_108 rfl 5 rfl ?_
                refine z_goto (tgt := 113) X dd_Mo_least_109 (by decide) ?_
                refine z_sub [2, 4, 5, 0] rfl ?_
                exact t_Mo_least_113 X H h
            · rw [if_neg q20] at h
              refine z_bipush (v := (-4)) X dd_Mo_least_69 (by decide) ?_
              obtain rfl := Option.some.inj h
              exact z_iret X H.1 H.2.1 H.2.2.1 dd_Mo_least_71
          · rw [if_pos q16] at h
            refine z_sub [] rfl ?_
            exact t_Mo_least_55 X H h
      · rw [if_pos q8] at h
        refine z_sub [] rfl ?_
        exact t_Mo_least_30 X H h
end ZzM
