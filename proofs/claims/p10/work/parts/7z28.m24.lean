section ZzM
variable {p : Program} {l : Launch} {e : Env} {s : State} {m : MethodId} {args : Array Value} {below : List Frame} {meth : Method} {cd : Code} {Q : State → Prop} {D : va_G} {cid : Nat → ClassId} {B n0 : Nat}
theorem dd_Mo_answered_0 : decode bb_Mo_answered 0 = .ok (.aload_n 0, 1) := by decide +kernel
theorem dd_Mo_answered_1 : decode bb_Mo_answered 1 = .ok (.aload_n 0, 1) := by decide +kernel
theorem dd_Mo_answered_2 : decode bb_Mo_answered 2 = .ok (.getfield 56, 3) := by decide +kernel
theorem dd_Mo_answered_5 : decode bb_Mo_answered 5 = .ok (.iload_n 1, 1) := by decide +kernel
theorem dd_Mo_answered_6 : decode bb_Mo_answered 6 = .ok (.iaload, 1) := by decide +kernel
theorem dd_Mo_answered_7 : decode bb_Mo_answered 7 = .ok (.putfield 331, 3) := by decide +kernel
theorem dd_Mo_answered_10 : decode bb_Mo_answered 10 = .ok (.aload_n 0, 1) := by decide +kernel
theorem dd_Mo_answered_11 : decode bb_Mo_answered 11 = .ok (.invokevirtual 503, 3) := by decide +kernel
theorem dd_Mo_answered_14 : decode bb_Mo_answered 14 = .ok (.aload_n 0, 1) := by decide +kernel
theorem dd_Mo_answered_15 : decode bb_Mo_answered 15 = .ok (.invokevirtual 527, 3) := by decide +kernel
theorem dd_Mo_answered_18 : decode bb_Mo_answered 18 = .ok (.aload_n 0, 1) := by decide +kernel
theorem dd_Mo_answered_19 : decode bb_Mo_answered 19 = .ok (.invokevirtual 530, 3) := by decide +kernel
theorem dd_Mo_answered_22 : decode bb_Mo_answered 22 = .ok (.istore_n 2, 1) := by decide +kernel
theorem dd_Mo_answered_23 : decode bb_Mo_answered 23 = .ok (.iconst 0, 1) := by decide +kernel
theorem dd_Mo_answered_24 : decode bb_Mo_answered 24 = .ok (.istore_n 3, 1) := by decide +kernel
theorem dd_Mo_answered_25 : decode bb_Mo_answered 25 = .ok (.iload_n 3, 1) := by decide +kernel
theorem dd_Mo_answered_26 : decode bb_Mo_answered 26 = .ok (.bipush 8, 2) := by decide +kernel
theorem dd_Mo_answered_28 : decode bb_Mo_answered 28 = .ok (.iload_n 2, 1) := by decide +kernel
theorem dd_Mo_answered_29 : decode bb_Mo_answered 29 = .ok (.imul, 1) := by decide +kernel
theorem dd_Mo_answered_30 : decode bb_Mo_answered 30 = .ok (.if_icmp .ge 21, 3) := by decide +kernel
theorem dd_Mo_answered_33 : decode bb_Mo_answered 33 = .ok (.aload_n 0, 1) := by decide +kernel
theorem dd_Mo_answered_34 : decode bb_Mo_answered 34 = .ok (.getfield 204, 3) := by decide +kernel
theorem dd_Mo_answered_37 : decode bb_Mo_answered 37 = .ok (.iload_n 3, 1) := by decide +kernel
theorem dd_Mo_answered_38 : decode bb_Mo_answered 38 = .ok (.aload_n 0, 1) := by decide +kernel
theorem dd_Mo_answered_39 : decode bb_Mo_answered 39 = .ok (.getfield 229, 3) := by decide +kernel
theorem dd_Mo_answered_42 : decode bb_Mo_answered 42 = .ok (.iload_n 3, 1) := by decide +kernel
theorem dd_Mo_answered_43 : decode bb_Mo_answered 43 = .ok (.iaload, 1) := by decide +kernel
theorem dd_Mo_answered_44 : decode bb_Mo_answered 44 = .ok (.iastore, 1) := by decide +kernel
theorem dd_Mo_answered_45 : decode bb_Mo_answered 45 = .ok (.iinc 3 1, 3) := by decide +kernel
theorem dd_Mo_answered_48 : decode bb_Mo_answered 48 = .ok (.goto (-23), 3) := by decide +kernel
theorem dd_Mo_answered_51 : decode bb_Mo_answered 51 = .ok (.aload_n 0, 1) := by decide +kernel
theorem dd_Mo_answered_52 : decode bb_Mo_answered 52 = .ok (.iload_n 2, 1) := by decide +kernel
theorem dd_Mo_answered_53 : decode bb_Mo_answered 53 = .ok (.putfield 515, 3) := by decide +kernel
theorem dd_Mo_answered_56 : decode bb_Mo_answered 56 = .ok (.aload_n 0, 1) := by decide +kernel
theorem dd_Mo_answered_57 : decode bb_Mo_answered 57 = .ok (.aload_n 0, 1) := by decide +kernel
theorem dd_Mo_answered_58 : decode bb_Mo_answered 58 = .ok (.getfield 116, 3) := by decide +kernel
theorem dd_Mo_answered_61 : decode bb_Mo_answered 61 = .ok (.aload_n 0, 1) := by decide +kernel
theorem dd_Mo_answered_62 : decode bb_Mo_answered 62 = .ok (.getfield 331, 3) := by decide +kernel
theorem dd_Mo_answered_65 : decode bb_Mo_answered 65 = .ok (.iaload, 1) := by decide +kernel
theorem dd_Mo_answered_66 : decode bb_Mo_answered 66 = .ok (.putfield 512, 3) := by decide +kernel
theorem dd_Mo_answered_69 : decode bb_Mo_answered 69 = .ok (.iconst 0, 1) := by decide +kernel
theorem dd_Mo_answered_70 : decode bb_Mo_answered 70 = .ok (.istore_n 3, 1) := by decide +kernel
theorem dd_Mo_answered_71 : decode bb_Mo_answered 71 = .ok (.iload_n 3, 1) := by decide +kernel
theorem dd_Mo_answered_72 : decode bb_Mo_answered 72 = .ok (.aload_n 0, 1) := by decide +kernel
theorem dd_Mo_answered_73 : decode bb_Mo_answered 73 = .ok (.getfield 512, 3) := by decide +kernel
theorem dd_Mo_answered_76 : decode bb_Mo_answered 76 = .ok (.if_icmp .ge 16, 3) := by decide +kernel
theorem dd_Mo_answered_79 : decode bb_Mo_answered 79 = .ok (.aload_n 0, 1) := by decide +kernel
theorem dd_Mo_answered_80 : decode bb_Mo_answered 80 = .ok (.getfield 226, 3) := by decide +kernel
theorem dd_Mo_answered_83 : decode bb_Mo_answered 83 = .ok (.iload_n 3, 1) := by decide +kernel
theorem dd_Mo_answered_84 : decode bb_Mo_answered 84 = .ok (.iload_n 3, 1) := by decide +kernel
theorem dd_Mo_answered_85 : decode bb_Mo_answered 85 = .ok (.iastore, 1) := by decide +kernel
theorem dd_Mo_answered_86 : decode bb_Mo_answered 86 = .ok (.iinc 3 1, 3) := by decide +kernel
theorem dd_Mo_answered_89 : decode bb_Mo_answered 89 = .ok (.goto (-18), 3) := by decide +kernel
theorem dd_Mo_answered_92 : decode bb_Mo_answered 92 = .ok (.aload_n 0, 1) := by decide +kernel
theorem dd_Mo_answered_93 : decode bb_Mo_answered 93 = .ok (.invokevirtual 521, 3) := by decide +kernel
theorem dd_Mo_answered_96 : decode bb_Mo_answered 96 = .ok (.aload_n 0, 1) := by decide +kernel
theorem dd_Mo_answered_97 : decode bb_Mo_answered 97 = .ok (.getfield 128, 3) := by decide +kernel
theorem dd_Mo_answered_100 : decode bb_Mo_answered 100 = .ok (.aload_n 0, 1) := by decide +kernel
theorem dd_Mo_answered_101 : decode bb_Mo_answered 101 = .ok (.getfield 331, 3) := by decide +kernel
theorem dd_Mo_answered_104 : decode bb_Mo_answered 104 = .ok (.iaload, 1) := by decide +kernel
theorem dd_Mo_answered_105 : decode bb_Mo_answered 105 = .ok (.ifCond .le 26, 3) := by decide +kernel
theorem dd_Mo_answered_108 : decode bb_Mo_answered 108 = .ok (.iload_n 2, 1) := by decide +kernel
theorem dd_Mo_answered_109 : decode bb_Mo_answered 109 = .ok (.aload_n 0, 1) := by decide +kernel
theorem dd_Mo_answered_110 : decode bb_Mo_answered 110 = .ok (.getfield 128, 3) := by decide +kernel
theorem dd_Mo_answered_113 : decode bb_Mo_answered 113 = .ok (.aload_n 0, 1) := by decide +kernel
theorem dd_Mo_answered_114 : decode bb_Mo_answered 114 = .ok (.getfield 331, 3) := by decide +kernel
theorem dd_Mo_answered_117 : decode bb_Mo_answered 117 = .ok (.iaload, 1) := by decide +kernel
theorem dd_Mo_answered_118 : decode bb_Mo_answered 118 = .ok (.if_icmp .le 13, 3) := by decide +kernel
theorem dd_Mo_answered_121 : decode bb_Mo_answered 121 = .ok (.aload_n 0, 1) := by decide +kernel
theorem dd_Mo_answered_122 : decode bb_Mo_answered 122 = .ok (.getfield 128, 3) := by decide +kernel
theorem dd_Mo_answered_125 : decode bb_Mo_answered 125 = .ok (.aload_n 0, 1) := by decide +kernel
theorem dd_Mo_answered_126 : decode bb_Mo_answered 126 = .ok (.getfield 331, 3) := by decide +kernel
theorem dd_Mo_answered_129 : decode bb_Mo_answered 129 = .ok (.iaload, 1) := by decide +kernel
theorem dd_Mo_answered_130 : decode bb_Mo_answered 130 = .ok (.istore_n 2, 1) := by decide +kernel
theorem dd_Mo_answered_131 : decode bb_Mo_answered 131 = .ok (.iconst 0, 1) := by decide +kernel
theorem dd_Mo_answered_132 : decode bb_Mo_answered 132 = .ok (.istore_n 3, 1) := by decide +kernel
theorem dd_Mo_answered_133 : decode bb_Mo_answered 133 = .ok (.iload_n 3, 1) := by decide +kernel
theorem dd_Mo_answered_134 : decode bb_Mo_answered 134 = .ok (.iload_n 2, 1) := by decide +kernel
theorem dd_Mo_answered_135 : decode bb_Mo_answered 135 = .ok (.if_icmp .ge 66, 3) := by decide +kernel
theorem dd_Mo_answered_138 : decode bb_Mo_answered 138 = .ok (.iconst 0, 1) := by decide +kernel
theorem dd_Mo_answered_139 : decode bb_Mo_answered 139 = .ok (.istore 4, 2) := by decide +kernel
theorem dd_Mo_answered_141 : decode bb_Mo_answered 141 = .ok (.iload 4, 2) := by decide +kernel
theorem dd_Mo_answered_143 : decode bb_Mo_answered 143 = .ok (.aload_n 0, 1) := by decide +kernel
theorem dd_Mo_answered_144 : decode bb_Mo_answered 144 = .ok (.getfield 116, 3) := by decide +kernel
theorem dd_Mo_answered_147 : decode bb_Mo_answered 147 = .ok (.aload_n 0, 1) := by decide +kernel
theorem dd_Mo_answered_148 : decode bb_Mo_answered 148 = .ok (.getfield 331, 3) := by decide +kernel
theorem dd_Mo_answered_151 : decode bb_Mo_answered 151 = .ok (.iaload, 1) := by decide +kernel
theorem dd_Mo_answered_152 : decode bb_Mo_answered 152 = .ok (.if_icmp .ge 43, 3) := by decide +kernel
theorem dd_Mo_answered_155 : decode bb_Mo_answered 155 = .ok (.aload_n 0, 1) := by decide +kernel
theorem dd_Mo_answered_156 : decode bb_Mo_answered 156 = .ok (.getfield 214, 3) := by decide +kernel
theorem dd_Mo_answered_159 : decode bb_Mo_answered 159 = .ok (.ldc 203, 2) := by decide +kernel
theorem dd_Mo_answered_161 : decode bb_Mo_answered 161 = .ok (.iload_n 1, 1) := by decide +kernel
theorem dd_Mo_answered_162 : decode bb_Mo_answered 162 = .ok (.imul, 1) := by decide +kernel
theorem dd_Mo_answered_163 : decode bb_Mo_answered 163 = .ok (.bipush 8, 2) := by decide +kernel
theorem dd_Mo_answered_165 : decode bb_Mo_answered 165 = .ok (.iload_n 3, 1) := by decide +kernel
theorem dd_Mo_answered_166 : decode bb_Mo_answered 166 = .ok (.imul, 1) := by decide +kernel
theorem dd_Mo_answered_167 : decode bb_Mo_answered 167 = .ok (.iadd, 1) := by decide +kernel
theorem dd_Mo_answered_168 : decode bb_Mo_answered 168 = .ok (.iload 4, 2) := by decide +kernel
theorem dd_Mo_answered_170 : decode bb_Mo_answered 170 = .ok (.iadd, 1) := by decide +kernel
theorem dd_Mo_answered_171 : decode bb_Mo_answered 171 = .ok (.aload_n 0, 1) := by decide +kernel
theorem dd_Mo_answered_172 : decode bb_Mo_answered 172 = .ok (.getfield 204, 3) := by decide +kernel
theorem dd_Mo_answered_175 : decode bb_Mo_answered 175 = .ok (.bipush 8, 2) := by decide +kernel
theorem dd_Mo_answered_177 : decode bb_Mo_answered 177 = .ok (.aload_n 0, 1) := by decide +kernel
theorem dd_Mo_answered_178 : decode bb_Mo_answered 178 = .ok (.getfield 207, 3) := by decide +kernel
theorem dd_Mo_answered_181 : decode bb_Mo_answered 181 = .ok (.iload_n 3, 1) := by decide +kernel
theorem dd_Mo_answered_182 : decode bb_Mo_answered 182 = .ok (.iaload, 1) := by decide +kernel
theorem dd_Mo_answered_183 : decode bb_Mo_answered 183 = .ok (.imul, 1) := by decide +kernel
theorem dd_Mo_answered_184 : decode bb_Mo_answered 184 = .ok (.iload 4, 2) := by decide +kernel
theorem dd_Mo_answered_186 : decode bb_Mo_answered 186 = .ok (.iadd, 1) := by decide +kernel
theorem dd_Mo_answered_187 : decode bb_Mo_answered 187 = .ok (.iaload, 1) := by decide +kernel
theorem dd_Mo_answered_188 : decode bb_Mo_answered 188 = .ok (.iastore, 1) := by decide +kernel
theorem dd_Mo_answered_189 : decode bb_Mo_answered 189 = .ok (.iinc 4 1, 3) := by decide +kernel
theorem dd_Mo_answered_192 : decode bb_Mo_answered 192 = .ok (.goto (-51), 3) := by decide +kernel
theorem dd_Mo_answered_195 : decode bb_Mo_answered 195 = .ok (.iinc 3 1, 3) := by decide +kernel
theorem dd_Mo_answered_198 : decode bb_Mo_answered 198 = .ok (.goto (-65), 3) := by decide +kernel
theorem dd_Mo_answered_201 : decode bb_Mo_answered 201 = .ok (.aload_n 0, 1) := by decide +kernel
theorem dd_Mo_answered_202 : decode bb_Mo_answered 202 = .ok (.getfield 217, 3) := by decide +kernel
theorem dd_Mo_answered_205 : decode bb_Mo_answered 205 = .ok (.iload_n 1, 1) := by decide +kernel
theorem dd_Mo_answered_206 : decode bb_Mo_answered 206 = .ok (.iload_n 2, 1) := by decide +kernel
theorem dd_Mo_answered_207 : decode bb_Mo_answered 207 = .ok (.iastore, 1) := by decide +kernel
theorem dd_Mo_answered_208 : decode bb_Mo_answered 208 = .ok (.aload_n 0, 1) := by decide +kernel
theorem dd_Mo_answered_209 : decode bb_Mo_answered 209 = .ok (.getfield 220, 3) := by decide +kernel
theorem dd_Mo_answered_212 : decode bb_Mo_answered 212 = .ok (.iload_n 1, 1) := by decide +kernel
theorem dd_Mo_answered_213 : decode bb_Mo_answered 213 = .ok (.aload_n 0, 1) := by decide +kernel
theorem dd_Mo_answered_214 : decode bb_Mo_answered 214 = .ok (.getfield 116, 3) := by decide +kernel
theorem dd_Mo_answered_217 : decode bb_Mo_answered 217 = .ok (.aload_n 0, 1) := by decide +kernel
theorem dd_Mo_answered_218 : decode bb_Mo_answered 218 = .ok (.getfield 331, 3) := by decide +kernel
theorem dd_Mo_answered_221 : decode bb_Mo_answered 221 = .ok (.iaload, 1) := by decide +kernel
theorem dd_Mo_answered_222 : decode bb_Mo_answered 222 = .ok (.iastore, 1) := by decide +kernel
theorem dd_Mo_answered_223 : decode bb_Mo_answered 223 = .ok (.aload_n 0, 1) := by decide +kernel
theorem dd_Mo_answered_224 : decode bb_Mo_answered 224 = .ok (.getfield 223, 3) := by decide +kernel
theorem dd_Mo_answered_227 : decode bb_Mo_answered 227 = .ok (.iload_n 1, 1) := by decide +kernel
theorem dd_Mo_answered_228 : decode bb_Mo_answered 228 = .ok (.iconst 1, 1) := by decide +kernel
theorem dd_Mo_answered_229 : decode bb_Mo_answered 229 = .ok (.bastore, 1) := by decide +kernel
theorem dd_Mo_answered_230 : decode bb_Mo_answered 230 = .ok (.iload_n 2, 1) := by decide +kernel
theorem dd_Mo_answered_231 : decode bb_Mo_answered 231 = .ok (.ireturn, 1) := by decide +kernel
set_option maxRecDepth 100000 in
set_option maxHeartbeats 4000000 in
theorem u_Mo_answered_25  (X : zX p s m args cd D cid B bb_Mo_answered 5 rr_Mo zT) (H : zH s meth B n0 (some (.int)) "answered") {nf : Nat} {x0 : Nat} {x1 : Int32} {x2 : Int32} {x3 : Int32} {c : Zc} {r : (Nat × Int32 × Int32 × Int32 × Zc) ⊕ (Nat × Int32 × Int32 × Zc)} (h : g_Mo_answered_25 nf x0 x1 x2 x3 c = some r) (k0 : ∀ a, r = .inl a → (fun a : Nat × Int32 × Int32 × Int32 × Zc => Zz p l e (zRm 6 137 0 0) s m args below meth cd Q D cid B 5 0 0 a.2.2.2.2 25 [(0, .ref a.1), (1, .int a.2.1), (2, .int a.2.2.1), (3, .int a.2.2.2.1)] []) a) (k1 : ∀ b, r = .inr b → (fun b : Nat × Int32 × Int32 × Zc => Zz p l e (zRm 6 137 0 0) s m args below meth cd Q D cid B 5 0 0 b.2.2.2 51 [(0, .ref b.1), (1, .int b.2.1), (2, .int b.2.2.1)] []) b) : Zz p l e (zRm 6 137 0 0) s m args below meth cd Q D cid B 5 0 0 c 25 [(0, .ref x0), (1, .int x1), (2, .int x2), (3, .int x3)] [] := by
  unfold g_Mo_answered_25 at h
  refine z_iload_n X dd_Mo_answered_25 rfl 3 rfl ?_
  refine z_bipush (v := 8) X dd_Mo_answered_26 (by decide) ?_
  refine z_iload_n X dd_Mo_answered_28 rfl 2 rfl ?_
  refine z_imul X dd_Mo_answered_29 ?_
  refine z_icmp_ge (tgt := 51) X dd_Mo_answered_30 (by decide) (fun q10 => ?_) (fun q10 => ?_)
  · rw [if_pos q10] at h
    refine z_sub [0, 1, 2] rfl ?_
    obtain rfl := Option.some.inj h
    exact k1 _ rfl
  · rw [if_neg q10] at h
    refine z_aload_n X dd_Mo_answered_33 rfl 0 rfl ?_
    obtain ⟨v11, ev11, h⟩ := zb h
    refine z_get (j := 78) X dd_Mo_answered_34 kc_12 ki_12 (by decide) km_1599 (zgr_v ev11) ?_
    refine z_iload_n X dd_Mo_answered_37 rfl 3 rfl ?_
    refine z_aload_n X dd_Mo_answered_38 rfl 0 rfl ?_
    obtain ⟨v12, ev12, h⟩ := zb h
    refine z_get (j := 88) X dd_Mo_answered_39 kc_12 ki_12 (by decide) km_1609 (zgr_v ev12) ?_
    refine z_iload_n X dd_Mo_answered_42 rfl 3 rfl ?_
    obtain ⟨v13, ev13, h⟩ := zb h
    refine z_iaload X dd_Mo_answered_43 rfl ev13 ?_
    obtain ⟨c14, ec14, h⟩ := zb h
    refine z_iastore X dd_Mo_answered_44 rfl ec14 ?_
    refine z_iinc (v := (x3 + 1)) (lv' := [(3, .int (x3 + 1)), (0, .ref x0), (1, .int x1), (2, .int x2)]) X dd_Mo_answered_45 3 rfl rfl (by decide) rfl ?_
    refine z_goto (tgt := 25) X dd_Mo_answered_48 (by decide) ?_
    refine z_sub [1, 2, 3, 0] rfl ?_
    obtain rfl := Option.some.inj h
    exact k0 _ rfl
set_option maxRecDepth 100000 in
set_option maxHeartbeats 4000000 in
theorem u_Mo_answered_71  (X : zX p s m args cd D cid B bb_Mo_answered 5 rr_Mo zT) (H : zH s meth B n0 (some (.int)) "answered") {nf : Nat} {x0 : Nat} {x1 : Int32} {x2 : Int32} {x3 : Int32} {c : Zc} {r : (Nat × Int32 × Int32 × Int32 × Zc) ⊕ (Nat × Int32 × Int32 × Zc)} (h : g_Mo_answered_71 nf x0 x1 x2 x3 c = some r) (k0 : ∀ a, r = .inl a → (fun a : Nat × Int32 × Int32 × Int32 × Zc => Zz p l e (zRm 6 137 0 0) s m args below meth cd Q D cid B 5 0 0 a.2.2.2.2 71 [(0, .ref a.1), (1, .int a.2.1), (2, .int a.2.2.1), (3, .int a.2.2.2.1)] []) a) (k1 : ∀ b, r = .inr b → (fun b : Nat × Int32 × Int32 × Zc => Zz p l e (zRm 6 137 0 0) s m args below meth cd Q D cid B 5 0 0 b.2.2.2 92 [(0, .ref b.1), (1, .int b.2.1), (2, .int b.2.2.1)] []) b) : Zz p l e (zRm 6 137 0 0) s m args below meth cd Q D cid B 5 0 0 c 71 [(0, .ref x0), (1, .int x1), (2, .int x2), (3, .int x3)] [] := by
  unfold g_Mo_answered_71 at h
  refine z_iload_n X dd_Mo_answered_71 rfl 3 rfl ?_
  refine z_aload_n X dd_Mo_answered_72 rfl 0 rfl ?_
  obtain ⟨v20, ev20, h⟩ := zb h
  refine z_get (j := 87) X dd_Mo_answered_73 kc_12 ki_12 (by decide) km_1608 (zgi_v ev20) ?_
  refine z_icmp_ge (tgt := 92) X dd_Mo_answered_76 (by decide) (fun q21 => ?_) (fun q21 => ?_)
  · rw [if_pos q21] at h
    refine z_sub [0, 1, 2] rfl ?_
    obtain rfl := Option.some.inj h
    exact k1 _ rfl
  · rw [if_neg q21] at h
    refine z_aload_n X dd_Mo_answered_79 rfl 0 rfl ?_
    obtain ⟨v22, ev22, h⟩ := zb h
    refine z_get (j := 86) X dd_Mo_answered_80 kc_12 ki_12 (by decide) km_1607 (zgr_v ev22) ?_
    refine z_iload_n X dd_Mo_answered_83 rfl 3 rfl ?_
    refine z_iload_n X dd_Mo_answered_84 rfl 3 rfl ?_
    obtain ⟨c23, ec23, h⟩ := zb h
    refine z_iastore X dd_Mo_answered_85 rfl ec23 ?_
    refine z_iinc (v := (x3 + 1)) (lv' := [(3, .int (x3 + 1)), (0, .ref x0), (1, .int x1), (2, .int x2)]) X dd_Mo_answered_86 3 rfl rfl (by decide) rfl ?_
    refine z_goto (tgt := 71) X dd_Mo_answered_89 (by decide) ?_
    refine z_sub [1, 2, 3, 0] rfl ?_
    obtain rfl := Option.some.inj h
    exact k0 _ rfl
set_option maxRecDepth 100000 in
set_option maxHeartbeats 4000000 in
theorem u_Mo_answered_141  (X : zX p s m args cd D cid B bb_Mo_answered 5 rr_Mo zT) (H : zH s meth B n0 (some (.int)) "answered") {nf : Nat} {x0 : Nat} {x1 : Int32} {x2 : Int32} {x3 : Int32} {x4 : Int32} {c : Zc} {r : (Nat × Int32 × Int32 × Int32 × Int32 × Zc) ⊕ (Nat × Int32 × Int32 × Int32 × Zc)} (h : g_Mo_answered_141 nf x0 x1 x2 x3 x4 c = some r) (k0 : ∀ a, r = .inl a → (fun a : Nat × Int32 × Int32 × Int32 × Int32 × Zc => Zz p l e (zRm 6 137 0 0) s m args below meth cd Q D cid B 5 0 0 a.2.2.2.2.2 141 [(0, .ref a.1), (1, .int a.2.1), (2, .int a.2.2.1), (3, .int a.2.2.2.1), (4, .int a.2.2.2.2.1)] []) a) (k1 : ∀ b, r = .inr b → (fun b : Nat × Int32 × Int32 × Int32 × Zc => Zz p l e (zRm 6 137 0 0) s m args below meth cd Q D cid B 5 0 0 b.2.2.2.2 195 [(0, .ref b.1), (1, .int b.2.1), (2, .int b.2.2.1), (3, .int b.2.2.2.1)] []) b) : Zz p l e (zRm 6 137 0 0) s m args below meth cd Q D cid B 5 0 0 c 141 [(0, .ref x0), (1, .int x1), (2, .int x2), (3, .int x3), (4, .int x4)] [] := by
  unfold g_Mo_answered_141 at h
  refine z_iload X dd_Mo_answered_141 4 rfl ?_
  refine z_aload_n X dd_Mo_answered_143 rfl 0 rfl ?_
  obtain ⟨v31, ev31, h⟩ := zb h
  refine z_get (j := 43) X dd_Mo_answered_144 kc_12 ki_12 (by decide) km_1564 (zgr_v ev31) ?_
  refine z_aload_n X dd_Mo_answered_147 rfl 0 rfl ?_
  obtain ⟨v32, ev32, h⟩ := zb h
  refine z_get (j := 25) X dd_Mo_answered_148 kc_12 ki_12 (by decide) km_1546 (zgi_v ev32) ?_
  obtain ⟨v33, ev33, h⟩ := zb h
  refine z_iaload X dd_Mo_answered_151 rfl ev33 ?_
  refine z_icmp_ge (tgt := 195) X dd_Mo_answered_152 (by decide) (fun q34 => ?_) (fun q34 => ?_)
  · rw [if_pos q34] at h
    refine z_sub [0, 1, 2, 3] rfl ?_
    obtain rfl := Option.some.inj h
    exact k1 _ rfl
  · rw [if_neg q34] at h
    refine z_aload_n X dd_Mo_answered_155 rfl 0 rfl ?_
    obtain ⟨v35, ev35, h⟩ := zb h
    refine z_get (j := 82) X dd_Mo_answered_156 kc_12 ki_12 (by decide) km_1603 (zgr_v ev35) ?_
    refine z_ldc (v := 160000) X dd_Mo_answered_159 km_1519 ?_
    refine z_iload_n X dd_Mo_answered_161 rfl 1 rfl ?_
    refine z_imul X dd_Mo_answered_162 ?_
    refine z_bipush (v := 8) X dd_Mo_answered_163 (by decide) ?_
    refine z_iload_n X dd_Mo_answered_165 rfl 3 rfl ?_
    refine z_imul X dd_Mo_answered_166 ?_
    refine z_iadd X dd_Mo_answered_167 ?_
    refine z_iload X dd_Mo_answered_168 4 rfl ?_
    refine z_iadd X dd_Mo_answered_170 ?_
    refine z_aload_n X dd_Mo_answered_171 rfl 0 rfl ?_
    obtain ⟨v36, ev36, h⟩ := zb h
    refine z_get (j := 78) X dd_Mo_answered_172 kc_12 ki_12 (by decide) km_1599 (zgr_v ev36) ?_
    refine z_bipush (v := 8) X dd_Mo_answered_175 (by decide) ?_
    refine z_aload_n X dd_Mo_answered_177 rfl 0 rfl ?_
    obtain ⟨v37, ev37, h⟩ := zb h
    refine z_get (j := 79) X dd_Mo_answered_178 kc_12 ki_12 (by decide) km_1600 (zgr_v ev37) ?_
    refine z_iload_n X dd_Mo_answered_181 rfl 3 rfl ?_
    obtain ⟨v38, ev38, h⟩ := zb h
    refine z_iaload X dd_Mo_answered_182 rfl ev38 ?_
    refine z_imul X dd_Mo_answered_183 ?_
    refine z_iload X dd_Mo_answered_184 4 rfl ?_
    refine z_iadd X dd_Mo_answered_186 ?_
    obtain ⟨v39, ev39, h⟩ := zb h
    refine z_iaload X dd_Mo_answered_187 rfl ev39 ?_
    obtain ⟨c40, ec40, h⟩ := zb h
    refine z_iastore X dd_Mo_answered_188 rfl ec40 ?_
    refine z_iinc (v := (x4 + 1)) (lv' := [(4, .int (x4 + 1)), (0, .ref x0), (1, .int x1), (2, .int x2), (3, .int x3)]) X dd_Mo_answered_189 4 rfl rfl (by decide) rfl ?_
    refine z_goto (tgt := 141) X dd_Mo_answered_192 (by decide) ?_
    refine z_sub [1, 2, 3, 4, 0] rfl ?_
    obtain rfl := Option.some.inj h
    exact k0 _ rfl
set_option maxRecDepth 100000 in
set_option maxHeartbeats 4000000 in
theorem t_Mo_answered_141  (X : zX p s m args cd D cid B bb_Mo_answered 5 rr_Mo zT) (H : zH s meth B n0 (some (.int)) "answered") {nf : Nat} {x0 : Nat} {x1 : Int32} {x2 : Int32} {x3 : Int32} {x4 : Int32} {c : Zc} {r : (Nat × Int32 × Int32 × Int32 × Zc) ⊕ (Nat × Int32 × Int32 × Zc)} (h : f_Mo_answered_141 nf x0 x1 x2 x3 x4 c = some r) (k0 : ∀ a, r = .inl a → (fun a : Nat × Int32 × Int32 × Int32 × Zc => Zz p l e (zRm 6 137 0 0) s m args below meth cd Q D cid B 5 0 0 a.2.2.2.2 133 [(0, .ref a.1), (1, .int a.2.1), (2, .int a.2.2.1), (3, .int a.2.2.2.1)] []) a) (k1 : ∀ b, r = .inr b → (fun b : Nat × Int32 × Int32 × Zc => Zz p l e (zRm 6 137 0 0) s m args below meth cd Q D cid B 5 0 0 b.2.2.2 201 [(0, .ref b.1), (1, .int b.2.1), (2, .int b.2.2.1)] []) b) : Zz p l e (zRm 6 137 0 0) s m args below meth cd Q D cid B 5 0 0 c 141 [(0, .ref x0), (1, .int x1), (2, .int x2), (3, .int x3), (4, .int x4)] [] := by
  unfold f_Mo_answered_141 at h
  obtain ⟨b, eb, h⟩ := zb h
  refine zlp_ok (P := fun a : Nat × Int32 × Int32 × Int32 × Int32 × Zc => Zz p l e (zRm 6 137 0 0) s m args below meth cd _ D cid B 5 0 0 a.2.2.2.2.2 141 [(0, .ref a.1), (1, .int a.2.1), (2, .int a.2.2.1), (3, .int a.2.2.2.1), (4, .int a.2.2.2.2.1)] []) (G := fun b : Nat × Int32 × Int32 × Int32 × Zc => Zz p l e (zRm 6 137 0 0) s m args below meth cd _ D cid B 5 0 0 b.2.2.2.2 195 [(0, .ref b.1), (1, .int b.2.1), (2, .int b.2.2.1), (3, .int b.2.2.2.1)] []) (fun a r ha k0 k1 => u_Mo_answered_141 X H ha k0 k1) nf _ b eb ?_
  refine z_iinc (v := (b.2.2.2.1 + 1)) (lv' := [(3, .int (b.2.2.2.1 + 1)), (0, .ref b.1), (1, .int b.2.1), (2, .int b.2.2.1)]) X dd_Mo_answered_195 3 rfl rfl (by decide) rfl ?_
  refine z_goto (tgt := 133) X dd_Mo_answered_198 (by decide) ?_
  refine z_sub [1, 2, 3, 0] rfl ?_
  obtain rfl := Option.some.inj h
  exact k0 _ rfl
set_option maxRecDepth 100000 in
set_option maxHeartbeats 4000000 in
theorem u_Mo_answered_133  (X : zX p s m args cd D cid B bb_Mo_answered 5 rr_Mo zT) (H : zH s meth B n0 (some (.int)) "answered") {nf : Nat} {x0 : Nat} {x1 : Int32} {x2 : Int32} {x3 : Int32} {c : Zc} {r : (Nat × Int32 × Int32 × Int32 × Zc) ⊕ (Nat × Int32 × Int32 × Zc)} (h : g_Mo_answered_133 nf x0 x1 x2 x3 c = some r) (k0 : ∀ a, r = .inl a → (fun a : Nat × Int32 × Int32 × Int32 × Zc => Zz p l e (zRm 6 137 0 0) s m args below meth cd Q D cid B 5 0 0 a.2.2.2.2 133 [(0, .ref a.1), (1, .int a.2.1), (2, .int a.2.2.1), (3, .int a.2.2.2.1)] []) a) (k1 : ∀ b, r = .inr b → (fun b : Nat × Int32 × Int32 × Zc => Zz p l e (zRm 6 137 0 0) s m args below meth cd Q D cid B 5 0 0 b.2.2.2 201 [(0, .ref b.1), (1, .int b.2.1), (2, .int b.2.2.1)] []) b) : Zz p l e (zRm 6 137 0 0) s m args below meth cd Q D cid B 5 0 0 c 133 [(0, .ref x0), (1, .int x1), (2, .int x2), (3, .int x3)] [] := by
  unfold g_Mo_answered_133 at h
  refine z_iload_n X dd_Mo_answered_133 rfl 3 rfl ?_
  refine z_iload_n X dd_Mo_answered_134 rfl 2 rfl ?_
  refine z_icmp_ge (tgt := 201) X dd_Mo_answered_135 (by decide) (fun q30 => ?_) (fun q30 => ?_)
  · rw [if_pos q30] at h
    refine z_sub [0, 1, 2] rfl ?_
    obtain rfl := Option.some.inj h
    exact k1 _ rfl
  · rw [if_neg q30] at h
    refine z_iconst (v := 0) X dd_Mo_answered_138 (by decide) ?_
    refine z_istore (lv' := [(4, .int 0), (0, .ref x0), (1, .int x1), (2, .int x2), (3, .int x3)]) X dd_Mo_answered_139 (by decide) rfl ?_
    refine z_sub [1, 2, 3, 4, 0] rfl ?_
    exact t_Mo_answered_141 X H h k0 k1
set_option maxRecDepth 100000 in
set_option maxHeartbeats 4000000 in
theorem t_Mo_answered_133  (X : zX p s m args cd D cid B bb_Mo_answered 5 rr_Mo zT) (H : zH s meth B n0 (some (.int)) "answered") {nf : Nat} {x0 : Nat} {x1 : Int32} {x2 : Int32} {x3 : Int32} {c : Zc} {res : Int32 × Zc} (h : f_Mo_answered_133 nf x0 x1 x2 x3 c = some res) : Zz p l e (zRm 6 137 0 0) s m args below meth cd (MQ below (zQi D cid B res.1 res.2 n0 0) args s 0 0 (fun q => B ≤ q)) D cid B 5 0 0 c 133 [(0, .ref x0), (1, .int x1), (2, .int x2), (3, .int x3)] [] := by
  unfold f_Mo_answered_133 at h
  obtain ⟨b, eb, h⟩ := zb h
  refine zlp_ok (P := fun a : Nat × Int32 × Int32 × Int32 × Zc => Zz p l e (zRm 6 137 0 0) s m args below meth cd _ D cid B 5 0 0 a.2.2.2.2 133 [(0, .ref a.1), (1, .int a.2.1), (2, .int a.2.2.1), (3, .int a.2.2.2.1)] []) (G := fun b : Nat × Int32 × Int32 × Zc => Zz p l e (zRm 6 137 0 0) s m args below meth cd _ D cid B 5 0 0 b.2.2.2 201 [(0, .ref b.1), (1, .int b.2.1), (2, .int b.2.2.1)] []) (fun a r ha k0 k1 => u_Mo_answered_133 X H ha k0 k1) nf _ b eb ?_
  refine z_aload_n X dd_Mo_answered_201 rfl 0 rfl ?_
  obtain ⟨v41, ev41, h⟩ := zb h
  refine z_get (j := 83) X dd_Mo_answered_202 kc_12 ki_12 (by decide) km_1604 (zgr_v ev41) ?_
  refine z_iload_n X dd_Mo_answered_205 rfl 1 rfl ?_
  refine z_iload_n X dd_Mo_answered_206 rfl 2 rfl ?_
  obtain ⟨c42, ec42, h⟩ := zb h
  refine z_iastore X dd_Mo_answered_207 rfl ec42 ?_
  refine z_aload_n X dd_Mo_answered_208 rfl 0 rfl ?_
  obtain ⟨v43, ev43, h⟩ := zb h
  refine z_get (j := 84) X dd_Mo_answered_209 kc_12 ki_12 (by decide) km_1605 (zgr_v ev43) ?_
  refine z_iload_n X dd_Mo_answered_212 rfl 1 rfl ?_
  refine z_aload_n X dd_Mo_answered_213 rfl 0 rfl ?_
  obtain ⟨v44, ev44, h⟩ := zb h
  refine z_get (j := 43) X dd_Mo_answered_214 kc_12 ki_12 (by decide) km_1564 (zgr_v ev44) ?_
  refine z_aload_n X dd_Mo_answered_217 rfl 0 rfl ?_
  obtain ⟨v45, ev45, h⟩ := zb h
  refine z_get (j := 25) X dd_Mo_answered_218 kc_12 ki_12 (by decide) km_1546 (zgi_v ev45) ?_
  obtain ⟨v46, ev46, h⟩ := zb h
  refine z_iaload X dd_Mo_answered_221 rfl ev46 ?_
  obtain ⟨c47, ec47, h⟩ := zb h
  refine z_iastore X dd_Mo_answered_222 rfl ec47 ?_
  refine z_aload_n X dd_Mo_answered_223 rfl 0 rfl ?_
  obtain ⟨v48, ev48, h⟩ := zb h
  refine z_get (j := 85) X dd_Mo_answered_224 kc_12 ki_12 (by decide) km_1606 (zgr_v ev48) ?_
  refine z_iload_n X dd_Mo_answered_227 rfl 1 rfl ?_
  refine z_iconst (v := 1) X dd_Mo_answered_228 (by decide) ?_
  obtain ⟨c49, ec49, h⟩ := zb h
  refine z_zastore X dd_Mo_answered_229 rfl ec49 ?_
  refine z_iload_n X dd_Mo_answered_230 rfl 2 rfl ?_
  obtain rfl := Option.some.inj h
  exact z_iret X H.1 H.2.1 H.2.2.1 dd_Mo_answered_231
set_option maxRecDepth 100000 in
set_option maxHeartbeats 4000000 in
theorem t_Mo_answered_131  (X : zX p s m args cd D cid B bb_Mo_answered 5 rr_Mo zT) (H : zH s meth B n0 (some (.int)) "answered") {nf : Nat} {x0 : Nat} {x1 : Int32} {x2 : Int32} {c : Zc} {res : Int32 × Zc} (h : f_Mo_answered_131 nf x0 x1 x2 c = some res) : Zz p l e (zRm 6 137 0 0) s m args below meth cd (MQ below (zQi D cid B res.1 res.2 n0 0) args s 0 0 (fun q => B ≤ q)) D cid B 5 0 0 c 131 [(0, .ref x0), (1, .int x1), (2, .int x2)] [] := by
  unfold f_Mo_answered_131 at h
  refine z_iconst (v := 0) X dd_Mo_answered_131 (by decide) ?_
  refine z_istore_n (lv' := [(3, .int 0), (0, .ref x0), (1, .int x1), (2, .int x2)]) X dd_Mo_answered_132 rfl (by decide) rfl ?_
  refine z_sub [1, 2, 3, 0] rfl ?_
  exact t_Mo_answered_133 X H h
set_option maxRecDepth 100000 in
set_option maxHeartbeats 4000000 in
theorem t_Mo_answered_71  (X : zX p s m args cd D cid B bb_Mo_answered 5 rr_Mo zT) (H : zH s meth B n0 (some (.int)) "answered") {nf : Nat} {x0 : Nat} {x1 : Int32} {x2 : Int32} {x3 : Int32} {c : Zc} {res : Int32 × Zc} (h : f_Mo_answered_71 nf x0 x1 x2 x3 c = some res) : Zz p l e (zRm 6 137 0 0) s m args below meth cd (MQ below (zQi D cid B res.1 res.2 n0 0) args s 0 0 (fun q => B ≤ q)) D cid B 5 0 0 c 71 [(0, .ref x0), (1, .int x1), (2, .int x2), (3, .int x3)] [] := by
  unfold f_Mo_answered_71 at h
  obtain ⟨b, eb, h⟩ := zb h
  refine zlp_ok (P := fun a : Nat × Int32 × Int32 × Int32 × Zc => Zz p l e (zRm 6 137 0 0) s m args below meth cd _ D cid B 5 0 0 a.2.2.2.2 71 [(0, .ref a.1), (1, .int a.2.1), (2, .int a.2.2.1), (3, .int a.2.2.2.1)] []) (G := fun b : Nat × Int32 × Int32 × Zc => Zz p l e (zRm 6 137 0 0) s m args below meth cd _ D cid B 5 0 0 b.2.2.2 92 [(0, .ref b.1), (1, .int b.2.1), (2, .int b.2.2.1)] []) (fun a r ha k0 k1 => u_Mo_answered_71 X H ha k0 k1) nf _ b eb ?_
  refine z_aload_n X dd_Mo_answered_92 rfl 0 rfl ?_
  obtain ⟨w25, ew25, h⟩ := zb h
  obtain ⟨q24, eq24, h⟩ := zb h
  refine z_callVv X [] rfl dd_Mo_answered_93 (c_Mo_sortRows l eq24) (cwV 0 X.1.2.2.2.2 (zg_V km_2147 km_2149 km_121 km_138 km_2150) rfl rfl rfl (by decide +kernel) ⟨Nat.le_of_ble_eq_true rfl, Nat.le_of_ble_eq_true rfl⟩) (zob_s ew25) kc_12 rfl (Nat.le_of_ble_eq_true rfl) ⟨Nat.le_of_ble_eq_true rfl, Nat.le_of_ble_eq_true rfl⟩ ?_
  refine z_aload_n X dd_Mo_answered_96 rfl 0 rfl ?_
  obtain ⟨v26, ev26, h⟩ := zb h
  refine z_get (j := 47) X dd_Mo_answered_97 kc_12 ki_12 (by decide) km_1568 (zgr_v ev26) ?_
  refine z_aload_n X dd_Mo_answered_100 rfl 0 rfl ?_
  obtain ⟨v27, ev27, h⟩ := zb h
  refine z_get (j := 25) X dd_Mo_answered_101 kc_12 ki_12 (by decide) km_1546 (zgi_v ev27) ?_
  obtain ⟨v28, ev28, h⟩ := zb h
  refine z_iaload X dd_Mo_answered_104 rfl ev28 ?_
  refine z_if_le (tgt := 131) X dd_Mo_answered_105 (by decide) (fun q29 => ?_) (fun q29 => ?_)
  · rw [if_pos q29] at h
    exact t_Mo_answered_131 X H h
  · rw [if_neg q29] at h
    refine z_iload_n X dd_Mo_answered_108 rfl 2 rfl ?_
    refine z_aload_n X dd_Mo_answered_109 rfl 0 rfl ?_
    obtain ⟨v50, ev50, h⟩ := zb h
    refine z_get (j := 47) X dd_Mo_answered_110 kc_12 ki_12 (by decide) km_1568 (zgr_v ev50) ?_
    refine z_aload_n X dd_Mo_answered_113 rfl 0 rfl ?_
    obtain ⟨v51, ev51, h⟩ := zb h
    refine z_get (j := 25) X dd_Mo_answered_114 kc_12 ki_12 (by decide) km_1546 (zgi_v ev51) ?_
    obtain ⟨v52, ev52, h⟩ := zb h
    refine z_iaload X dd_Mo_answered_117 rfl ev52 ?_
    refine z_icmp_le (tgt := 131) X dd_Mo_answered_118 (by decide) (fun q53 => ?_) (fun q53 => ?_)
    · rw [if_pos q53] at h
      exact t_Mo_answered_131 X H h
    · rw [if_neg q53] at h
      refine z_aload_n X dd_Mo_answered_121 rfl 0 rfl ?_
      obtain ⟨v54, ev54, h⟩ := zb h
      refine z_get (j := 47) X dd_Mo_answered_122 kc_12 ki_12 (by decide) km_1568 (zgr_v ev54) ?_
      refine z_aload_n X dd_Mo_answered_125 rfl 0 rfl ?_
      obtain ⟨v55, ev55, h⟩ := zb h
      refine z_get (j := 25) X dd_Mo_answered_126 kc_12 ki_12 (by decide) km_1546 (zgi_v ev55) ?_
      obtain ⟨v56, ev56, h⟩ := zb h
      refine z_iaload X dd_Mo_answered_129 rfl ev56 ?_
      refine z_istore_n (lv' := [(2, .int v56), (0, .ref b.1), (1, .int b.2.1)]) X dd_Mo_answered_130 rfl (by decide) rfl ?_
      refine z_sub [1, 2, 0] rfl ?_
      exact t_Mo_answered_131 X H h
set_option maxRecDepth 100000 in
set_option maxHeartbeats 4000000 in
theorem t_Mo_answered_25  (X : zX p s m args cd D cid B bb_Mo_answered 5 rr_Mo zT) (H : zH s meth B n0 (some (.int)) "answered") {nf : Nat} {x0 : Nat} {x1 : Int32} {x2 : Int32} {x3 : Int32} {c : Zc} {res : Int32 × Zc} (h : f_Mo_answered_25 nf x0 x1 x2 x3 c = some res) : Zz p l e (zRm 6 137 0 0) s m args below meth cd (MQ below (zQi D cid B res.1 res.2 n0 0) args s 0 0 (fun q => B ≤ q)) D cid B 5 0 0 c 25 [(0, .ref x0), (1, .int x1), (2, .int x2), (3, .int x3)] [] := by
  unfold f_Mo_answered_25 at h
  obtain ⟨b, eb, h⟩ := zb h
  refine zlp_ok (P := fun a : Nat × Int32 × Int32 × Int32 × Zc => Zz p l e (zRm 6 137 0 0) s m args below meth cd _ D cid B 5 0 0 a.2.2.2.2 25 [(0, .ref a.1), (1, .int a.2.1), (2, .int a.2.2.1), (3, .int a.2.2.2.1)] []) (G := fun b : Nat × Int32 × Int32 × Zc => Zz p l e (zRm 6 137 0 0) s m args below meth cd _ D cid B 5 0 0 b.2.2.2 51 [(0, .ref b.1), (1, .int b.2.1), (2, .int b.2.2.1)] []) (fun a r ha k0 k1 => u_Mo_answered_25 X H ha k0 k1) nf _ b eb ?_
  refine z_aload_n X dd_Mo_answered_51 rfl 0 rfl ?_
  refine z_iload_n X dd_Mo_answered_52 rfl 2 rfl ?_
  obtain ⟨c15, ec15, h⟩ := zb h
  refine z_put (j := 81) X dd_Mo_answered_53 kc_12 ki_12 tt_Mo tk_Mo nn_Mo (by decide) km_1602 rfl (tk_Mo 81 (by decide)) rfl rfl ec15 ?_
  refine z_aload_n X dd_Mo_answered_56 rfl 0 rfl ?_
  refine z_aload_n X dd_Mo_answered_57 rfl 0 rfl ?_
  obtain ⟨v16, ev16, h⟩ := zb h
  refine z_get (j := 43) X dd_Mo_answered_58 kc_12 ki_12 (by decide) km_1564 (zgr_v ev16) ?_
  refine z_aload_n X dd_Mo_answered_61 rfl 0 rfl ?_
  obtain ⟨v17, ev17, h⟩ := zb h
  refine z_get (j := 25) X dd_Mo_answered_62 kc_12 ki_12 (by decide) km_1546 (zgi_v ev17) ?_
  obtain ⟨v18, ev18, h⟩ := zb h
  refine z_iaload X dd_Mo_answered_65 rfl ev18 ?_
  obtain ⟨c19, ec19, h⟩ := zb h
  refine z_put (j := 87) X dd_Mo_answered_66 kc_12 ki_12 tt_Mo tk_Mo nn_Mo (by decide) km_1608 rfl (tk_Mo 87 (by decide)) rfl rfl ec19 ?_
  refine z_iconst (v := 0) X dd_Mo_answered_69 (by decide) ?_
  refine z_istore_n (lv' := [(3, .int 0), (0, .ref b.1), (1, .int b.2.1), (2, .int b.2.2.1)]) X dd_Mo_answered_70 rfl (by decide) rfl ?_
  refine z_sub [1, 2, 3, 0] rfl ?_
  exact t_Mo_answered_71 X H h
set_option maxRecDepth 100000 in
set_option maxHeartbeats 4000000 in
theorem c_Mo_answered (l : Launch) {nf : Nat} {a0 : Nat} {a1 : Int32} {c : Zc} {res : Int32 × Zc} (h : f_Mo_answered nf a0 a1 c = some res) : zM l yy_Mo_answered ww_Mo_answered 6 137 0 0 [.ref a0, .int a1] c (fun D cid B => zQi D cid B res.1 res.2 c.length 0) := by
  refine z_met (cc := bb_Mo_answered) (maxL := 5) (ret := (some (.int))) (by decide +kernel) rfl (Nat.le_of_ble_eq_true rfl) ?_
  intro p e s m args below meth cd D cid B X h1 h2 h3 h4
  have X : zX p s m args cd D cid B bb_Mo_answered 5 rr_Mo zT := X
  have H : zH s meth B c.length (some (.int)) "answered" := ⟨h1, h2, h4, h3⟩
  unfold f_Mo_answered at h
  show Zz p l e (zRm 6 137 0 0) s m args below meth cd _ D cid B 5 0 0 c 0 [(0, .ref a0), (1, .int a1)] []
  refine z_aload_n X dd_Mo_answered_0 rfl 0 rfl ?_
  refine z_aload_n X dd_Mo_answered_1 rfl 0 rfl ?_
  obtain ⟨v1, ev1, h⟩ := zb h
  refine z_get (j := 22) X dd_Mo_answered_2 kc_12 ki_12 (by decide) km_1543 (zgr_v ev1) ?_
  refine z_iload_n X dd_Mo_answered_5 rfl 1 rfl ?_
  obtain ⟨v2, ev2, h⟩ := zb h
  refine z_iaload X dd_Mo_answered_6 rfl ev2 ?_
  obtain ⟨c3, ec3, h⟩ := zb h
  refine z_put (j := 25) X dd_Mo_answered_7 kc_12 ki_12 tt_Mo tk_Mo nn_Mo (by decide) km_1546 rfl (tk_Mo 25 (by decide)) rfl rfl ec3 ?_
  refine z_aload_n X dd_Mo_answered_10 rfl 0 rfl ?_
  obtain ⟨w5, ew5, h⟩ := zb h
  obtain ⟨q4, eq4, h⟩ := zb h
  refine z_callVv X [] rfl dd_Mo_answered_11 (c_Mo_measureAll l eq4) (cwV 0 X.1.2.2.2.2 (zg_V km_2085 km_2087 km_108 km_138 km_2088) rfl rfl rfl (by decide +kernel) ⟨Nat.le_of_ble_eq_true rfl, Nat.le_of_ble_eq_true rfl⟩) (zob_s ew5) kc_12 rfl (Nat.le_of_ble_eq_true rfl) ⟨Nat.le_of_ble_eq_true rfl, Nat.le_of_ble_eq_true rfl⟩ ?_
  refine z_aload_n X dd_Mo_answered_14 rfl 0 rfl ?_
  obtain ⟨w7, ew7, h⟩ := zb h
  obtain ⟨q6, eq6, h⟩ := zb h
  refine z_callVv X [] rfl dd_Mo_answered_15 (c_Mo_collect l eq6) (cwV 0 X.1.2.2.2.2 (zg_V km_2139 km_2141 km_119 km_138 km_2142) rfl rfl rfl (by decide +kernel) ⟨Nat.le_of_ble_eq_true rfl, Nat.le_of_ble_eq_true rfl⟩) (zob_s ew7) kc_12 rfl (Nat.le_of_ble_eq_true rfl) ⟨Nat.le_of_ble_eq_true rfl, Nat.le_of_ble_eq_true rfl⟩ ?_
  refine z_aload_n X dd_Mo_answered_18 rfl 0 rfl ?_
  obtain ⟨w9, ew9, h⟩ := zb h
  obtain ⟨q8, eq8, h⟩ := zb h
  refine z_callVi X [] rfl dd_Mo_answered_19 (c_Mo_groupRows l eq8) (cwV 0 X.1.2.2.2.2 (zg_V km_2143 km_2145 km_120 km_138 km_2146) rfl rfl rfl (by decide +kernel) ⟨Nat.le_of_ble_eq_true rfl, Nat.le_of_ble_eq_true rfl⟩) (zob_s ew9) kc_12 rfl (Nat.le_of_ble_eq_true rfl) ⟨Nat.le_of_ble_eq_true rfl, Nat.le_of_ble_eq_true rfl⟩ ?_
  refine z_istore_n (lv' := [(2, .int q8.1), (0, .ref a0), (1, .int a1)]) X dd_Mo_answered_22 rfl (by decide) rfl ?_
  refine z_iconst (v := 0) X dd_Mo_answered_23 (by decide) ?_
  refine z_istore_n (lv' := [(3, .int 0), (2, .int q8.1), (0, .ref a0), (1, .int a1)]) X dd_Mo_answered_24 rfl (by decide) rfl ?_
  refine z_sub [2, 3, 1, 0] rfl ?_
  exact t_Mo_answered_25 X H h
theorem dd_Mo_isIn_0 : decode bb_Mo_isIn 0 = .ok (.iload_n 0, 1) := by decide +kernel
theorem dd_Mo_isIn_1 : decode bb_Mo_isIn 1 = .ok (.ifCond .lt 12, 3) := by decide +kernel
theorem dd_Mo_isIn_4 : decode bb_Mo_isIn 4 = .ok (.iload_n 0, 1) := by decide +kernel
theorem dd_Mo_isIn_5 : decode bb_Mo_isIn 5 = .ok (.iload_n 1, 1) := by decide +kernel
theorem dd_Mo_isIn_6 : decode bb_Mo_isIn 6 = .ok (.if_icmp .ge 7, 3) := by decide +kernel
theorem dd_Mo_isIn_9 : decode bb_Mo_isIn 9 = .ok (.iconst 1, 1) := by decide +kernel
theorem dd_Mo_isIn_10 : decode bb_Mo_isIn 10 = .ok (.goto 4, 3) := by decide +kernel
theorem dd_Mo_isIn_13 : decode bb_Mo_isIn 13 = .ok (.iconst 0, 1) := by decide +kernel
theorem dd_Mo_isIn_14 : decode bb_Mo_isIn 14 = .ok (.ireturn, 1) := by decide +kernel
set_option maxRecDepth 100000 in
set_option maxHeartbeats 4000000 in
theorem t_Mo_isIn_14  (X : zX p s m args cd D cid B bb_Mo_isIn 2 rr_Mo zT) (H : zH s meth B n0 (some (.boolean)) "isIn") {nf : Nat} {s0 : Int32} {c : Zc} {res : Int32 × Zc} (h : f_Mo_isIn_14 nf s0 c = some res) : Zz p l e (zRm 0 0 0 0) s m args below meth cd (MQ below (zQi D cid B res.1 res.2 n0 0) args s 0 0 (fun q => B ≤ q)) D cid B 2 0 0 c 14 [] [.int s0] := by
  unfold f_Mo_isIn_14 at h
  obtain ⟨hz, h⟩ := zrz_s h
  obtain rfl := h
  exact z_zret X H.1 (zn_z hz) H.2.1 H.2.2.1 dd_Mo_isIn_14
set_option maxRecDepth 100000 in
set_option maxHeartbeats 4000000 in
theorem t_Mo_isIn_13  (X : zX p s m args cd D cid B bb_Mo_isIn 2 rr_Mo zT) (H : zH s meth B n0 (some (.boolean)) "isIn") {nf : Nat}  {c : Zc} {res : Int32 × Zc} (h : f_Mo_isIn_13 nf  c = some res) : Zz p l e (zRm 0 0 0 0) s m args below meth cd (MQ below (zQi D cid B res.1 res.2 n0 0) args s 0 0 (fun q => B ≤ q)) D cid B 2 0 0 c 13 [] [] := by
  unfold f_Mo_isIn_13 at h
  refine z_iconst (v := 0) X dd_Mo_isIn_13 (by decide) ?_
  exact t_Mo_isIn_14 X H h
set_option maxRecDepth 100000 in
set_option maxHeartbeats 4000000 in
theorem c_Mo_isIn (l : Launch) {nf : Nat} {a0 : Int32} {a1 : Int32} {c : Zc} {res : Int32 × Zc} (h : f_Mo_isIn nf a0 a1 c = some res) : zM l yy_Mo_isIn ww_Mo_isIn 0 0 0 0 [.int a0, .int a1] c (fun D cid B => zQi D cid B res.1 res.2 c.length 0) := by
  refine z_met (cc := bb_Mo_isIn) (maxL := 2) (ret := (some (.boolean))) (by decide +kernel) rfl (Nat.le_of_ble_eq_true rfl) ?_
  intro p e s m args below meth cd D cid B X h1 h2 h3 h4
  have X : zX p s m args cd D cid B bb_Mo_isIn 2 rr_Mo zT := X
  have H : zH s meth B c.length (some (.boolean)) "isIn" := ⟨h1, h2, h4, h3⟩
  unfold f_Mo_isIn at h
  show Zz p l e (zRm 0 0 0 0) s m args below meth cd _ D cid B 2 0 0 c 0 [(0, .int a0), (1, .int a1)] []
  refine z_iload_n X dd_Mo_isIn_0 rfl 0 rfl ?_
  refine z_if_lt (tgt := 13) X dd_Mo_isIn_1 (by decide) (fun q1 => ?_) (fun q1 => ?_)
  · rw [if_pos q1] at h
    refine z_sub [] rfl ?_
    exact t_Mo_isIn_13 X H h
  · rw [if_neg q1] at h
    refine z_iload_n X dd_Mo_isIn_4 rfl 0 rfl ?_
    refine z_iload_n X dd_Mo_isIn_5 rfl 1 rfl ?_
    refine z_icmp_ge (tgt := 13) X dd_Mo_isIn_6 (by decide) (fun q2 => ?_) (fun q2 => ?_)
    · rw [if_pos q2] at h
      refine z_sub [] rfl ?_
      exact t_Mo_isIn_13 X H h
    · rw [if_neg q2] at h
      refine z_iconst (v := 1) X dd_Mo_isIn_9 (by decide) ?_
      refine z_goto (tgt := 14) X dd_Mo_isIn_10 (by decide) ?_
      refine z_sub [] rfl ?_
      exact t_Mo_isIn_14 X H h
theorem dd_Mo_changed_0 : decode bb_Mo_changed 0 = .ok (.aload_n 0, 1) := by decide +kernel
theorem dd_Mo_changed_1 : decode bb_Mo_changed 1 = .ok (.iconst 1, 1) := by decide +kernel
theorem dd_Mo_changed_2 : decode bb_Mo_changed 2 = .ok (.putfield 35, 3) := by decide +kernel
theorem dd_Mo_changed_5 : decode bb_Mo_changed 5 = .ok (.iconst 0, 1) := by decide +kernel
theorem dd_Mo_changed_6 : decode bb_Mo_changed 6 = .ok (.istore_n 1, 1) := by decide +kernel
theorem dd_Mo_changed_7 : decode bb_Mo_changed 7 = .ok (.iload_n 1, 1) := by decide +kernel
theorem dd_Mo_changed_8 : decode bb_Mo_changed 8 = .ok (.iconst 4, 1) := by decide +kernel
theorem dd_Mo_changed_9 : decode bb_Mo_changed 9 = .ok (.if_icmp .ge 16, 3) := by decide +kernel
theorem dd_Mo_changed_12 : decode bb_Mo_changed 12 = .ok (.aload_n 0, 1) := by decide +kernel
theorem dd_Mo_changed_13 : decode bb_Mo_changed 13 = .ok (.getfield 223, 3) := by decide +kernel
theorem dd_Mo_changed_16 : decode bb_Mo_changed 16 = .ok (.iload_n 1, 1) := by decide +kernel
theorem dd_Mo_changed_17 : decode bb_Mo_changed 17 = .ok (.iconst 0, 1) := by decide +kernel
theorem dd_Mo_changed_18 : decode bb_Mo_changed 18 = .ok (.bastore, 1) := by decide +kernel
theorem dd_Mo_changed_19 : decode bb_Mo_changed 19 = .ok (.iinc 1 1, 3) := by decide +kernel
theorem dd_Mo_changed_22 : decode bb_Mo_changed 22 = .ok (.goto (-15), 3) := by decide +kernel
theorem dd_Mo_changed_25 : decode bb_Mo_changed 25 = .ok (.return_, 1) := by decide +kernel
set_option maxRecDepth 100000 in
set_option maxHeartbeats 4000000 in
theorem u_Mo_changed_7  (X : zX p s m args cd D cid B bb_Mo_changed 2 rr_Mo zT) (H : zH s meth B n0 none "changed") {nf : Nat} {x0 : Nat} {x1 : Int32} {c : Zc} {r : (Nat × Int32 × Zc) ⊕ (Zc)} (h : g_Mo_changed_7 nf x0 x1 c = some r) (k0 : ∀ a, r = .inl a → (fun a : Nat × Int32 × Zc => Zz p l e (zRm 0 0 0 0) s m args below meth cd Q D cid B 2 0 0 a.2.2 7 [(0, .ref a.1), (1, .int a.2.1)] []) a) (k1 : ∀ b, r = .inr b → (fun b : Zc => Zz p l e (zRm 0 0 0 0) s m args below meth cd Q D cid B 2 0 0 b 25 [] []) b) : Zz p l e (zRm 0 0 0 0) s m args below meth cd Q D cid B 2 0 0 c 7 [(0, .ref x0), (1, .int x1)] [] := by
  unfold g_Mo_changed_7 at h
  refine z_iload_n X dd_Mo_changed_7 rfl 1 rfl ?_
  refine z_iconst (v := 4) X dd_Mo_changed_8 (by decide) ?_
  refine z_icmp_ge (tgt := 25) X dd_Mo_changed_9 (by decide) (fun q2 => ?_) (fun q2 => ?_)
  · rw [if_pos q2] at h
    refine z_sub [] rfl ?_
    obtain rfl := Option.some.inj h
    exact k1 _ rfl
  · rw [if_neg q2] at h
    refine z_aload_n X dd_Mo_changed_12 rfl 0 rfl ?_
    obtain ⟨v3, ev3, h⟩ := zb h
    refine z_get (j := 85) X dd_Mo_changed_13 kc_12 ki_12 (by decide) km_1606 (zgr_v ev3) ?_
    refine z_iload_n X dd_Mo_changed_16 rfl 1 rfl ?_
    refine z_iconst (v := 0) X dd_Mo_changed_17 (by decide) ?_
    obtain ⟨c4, ec4, h⟩ := zb h
    refine z_zastore X dd_Mo_changed_18 rfl ec4 ?_
    refine z_iinc (v := (x1 + 1)) (lv' := [(1, .int (x1 + 1)), (0, .ref x0)]) X dd_Mo_changed_19 1 rfl rfl (by decide) rfl ?_
    refine z_goto (tgt := 7) X dd_Mo_changed_22 (by decide) ?_
    refine z_sub [1, 0] rfl ?_
    obtain rfl := Option.some.inj h
    exact k0 _ rfl
set_option maxRecDepth 100000 in
set_option maxHeartbeats 4000000 in
theorem t_Mo_changed_7  (X : zX p s m args cd D cid B bb_Mo_changed 2 rr_Mo zT) (H : zH s meth B n0 none "changed") {nf : Nat} {x0 : Nat} {x1 : Int32} {c : Zc} {res : Zc} (h : f_Mo_changed_7 nf x0 x1 c = some res) : Zz p l e (zRm 0 0 0 0) s m args below meth cd (MQ below (zQv D cid B res n0 0) args s 0 0 (fun q => B ≤ q)) D cid B 2 0 0 c 7 [(0, .ref x0), (1, .int x1)] [] := by
  unfold f_Mo_changed_7 at h
  obtain ⟨b, eb, h⟩ := zb h
  refine zlp_ok (P := fun a : Nat × Int32 × Zc => Zz p l e (zRm 0 0 0 0) s m args below meth cd _ D cid B 2 0 0 a.2.2 7 [(0, .ref a.1), (1, .int a.2.1)] []) (G := fun b : Zc => Zz p l e (zRm 0 0 0 0) s m args below meth cd _ D cid B 2 0 0 b 25 [] []) (fun a r ha k0 k1 => u_Mo_changed_7 X H ha k0 k1) nf _ b eb ?_
  obtain rfl := Option.some.inj h
  exact z_vret X H.1 H.2.1 H.2.2.1 dd_Mo_changed_25
set_option maxRecDepth 100000 in
set_option maxHeartbeats 4000000 in
theorem c_Mo_changed (l : Launch) {nf : Nat} {a0 : Nat} {c : Zc} {res : Zc} (h : f_Mo_changed nf a0 c = some res) : zM l yy_Mo_changed ww_Mo_changed 0 0 0 0 [.ref a0] c (fun D cid B => zQv D cid B res c.length 0) := by
  refine z_met (cc := bb_Mo_changed) (maxL := 2) (ret := none) (by decide +kernel) rfl (Nat.le_of_ble_eq_true rfl) ?_
  intro p e s m args below meth cd D cid B X h1 h2 h3 h4
  have X : zX p s m args cd D cid B bb_Mo_changed 2 rr_Mo zT := X
  have H : zH s meth B c.length none "changed" := ⟨h1, h2, h4, h3⟩
  unfold f_Mo_changed at h
  show Zz p l e (zRm 0 0 0 0) s m args below meth cd _ D cid B 2 0 0 c 0 [(0, .ref a0)] []
  refine z_aload_n X dd_Mo_changed_0 rfl 0 rfl ?_
  refine z_iconst (v := 1) X dd_Mo_changed_1 (by decide) ?_
  obtain ⟨c1, ec1, h⟩ := zb h
  refine z_put (j := 10) X dd_Mo_changed_2 kc_12 ki_12 tt_Mo tk_Mo nn_Mo (by decide) km_1531 rfl (tk_Mo 10 (by decide)) rfl rfl ec1 ?_
  refine z_iconst (v := 0) X dd_Mo_changed_5 (by decide) ?_
  refine z_istore_n (lv' := [(1, .int 0), (0, .ref a0)]) X dd_Mo_changed_6 rfl (by decide) rfl ?_
  refine z_sub [1, 0] rfl ?_
  exact t_Mo_changed_7 X H h
theorem dd_Mo_feedOne_0 : decode bb_Mo_feedOne 0 = .ok (.bipush 24, 2) := by decide +kernel
theorem dd_Mo_feedOne_2 : decode bb_Mo_feedOne 2 = .ok (.istore_n 2, 1) := by decide +kernel
theorem dd_Mo_feedOne_3 : decode bb_Mo_feedOne 3 = .ok (.iload_n 2, 1) := by decide +kernel
theorem dd_Mo_feedOne_4 : decode bb_Mo_feedOne 4 = .ok (.ifCond .lt 32, 3) := by decide +kernel
theorem dd_Mo_feedOne_7 : decode bb_Mo_feedOne 7 = .ok (.aload_n 0, 1) := by decide +kernel
theorem dd_Mo_feedOne_8 : decode bb_Mo_feedOne 8 = .ok (.getfield 39, 3) := by decide +kernel
theorem dd_Mo_feedOne_11 : decode bb_Mo_feedOne 11 = .ok (.aload_n 0, 1) := by decide +kernel
theorem dd_Mo_feedOne_12 : decode bb_Mo_feedOne 12 = .ok (.getfield 426, 3) := by decide +kernel
theorem dd_Mo_feedOne_15 : decode bb_Mo_feedOne 15 = .ok (.iload_n 1, 1) := by decide +kernel
theorem dd_Mo_feedOne_16 : decode bb_Mo_feedOne 16 = .ok (.iload_n 2, 1) := by decide +kernel
theorem dd_Mo_feedOne_17 : decode bb_Mo_feedOne 17 = .ok (.iushr, 1) := by decide +kernel
theorem dd_Mo_feedOne_18 : decode bb_Mo_feedOne 18 = .ok (.i2b, 1) := by decide +kernel
theorem dd_Mo_feedOne_19 : decode bb_Mo_feedOne 19 = .ok (.bastore, 1) := by decide +kernel
theorem dd_Mo_feedOne_20 : decode bb_Mo_feedOne 20 = .ok (.aload_n 0, 1) := by decide +kernel
theorem dd_Mo_feedOne_21 : decode bb_Mo_feedOne 21 = .ok (.dup, 1) := by decide +kernel
theorem dd_Mo_feedOne_22 : decode bb_Mo_feedOne 22 = .ok (.getfield 426, 3) := by decide +kernel
theorem dd_Mo_feedOne_25 : decode bb_Mo_feedOne 25 = .ok (.iconst 1, 1) := by decide +kernel
theorem dd_Mo_feedOne_26 : decode bb_Mo_feedOne 26 = .ok (.iadd, 1) := by decide +kernel
theorem dd_Mo_feedOne_27 : decode bb_Mo_feedOne 27 = .ok (.putfield 426, 3) := by decide +kernel
theorem dd_Mo_feedOne_30 : decode bb_Mo_feedOne 30 = .ok (.iinc 2 (-8), 3) := by decide +kernel
theorem dd_Mo_feedOne_33 : decode bb_Mo_feedOne 33 = .ok (.goto (-30), 3) := by decide +kernel
theorem dd_Mo_feedOne_36 : decode bb_Mo_feedOne 36 = .ok (.return_, 1) := by decide +kernel
set_option maxRecDepth 100000 in
set_option maxHeartbeats 4000000 in
theorem u_Mo_feedOne_3  (X : zX p s m args cd D cid B bb_Mo_feedOne 3 rr_Mo zT) (H : zH s meth B n0 none "feedOne") {nf : Nat} {x0 : Nat} {x1 : Int32} {x2 : Int32} {c : Zc} {r : (Nat × Int32 × Int32 × Zc) ⊕ (Zc)} (h : g_Mo_feedOne_3 nf x0 x1 x2 c = some r) (k0 : ∀ a, r = .inl a → (fun a : Nat × Int32 × Int32 × Zc => Zz p l e (zRm 0 0 0 0) s m args below meth cd Q D cid B 3 0 0 a.2.2.2 3 [(0, .ref a.1), (1, .int a.2.1), (2, .int a.2.2.1)] []) a) (k1 : ∀ b, r = .inr b → (fun b : Zc => Zz p l e (zRm 0 0 0 0) s m args below meth cd Q D cid B 3 0 0 b 36 [] []) b) : Zz p l e (zRm 0 0 0 0) s m args below meth cd Q D cid B 3 0 0 c 3 [(0, .ref x0), (1, .int x1), (2, .int x2)] [] := by
  unfold g_Mo_feedOne_3 at h
  refine z_iload_n X dd_Mo_feedOne_3 rfl 2 rfl ?_
  refine z_if_lt (tgt := 36) X dd_Mo_feedOne_4 (by decide) (fun q1 => ?_) (fun q1 => ?_)
  · rw [if_pos q1] at h
    refine z_sub [] rfl ?_
    obtain rfl := Option.some.inj h
    exact k1 _ rfl
  · rw [if_neg q1] at h
    refine z_aload_n X dd_Mo_feedOne_7 rfl 0 rfl ?_
    obtain ⟨v2, ev2, h⟩ := zb h
    refine z_get (j := 12) X dd_Mo_feedOne_8 kc_12 ki_12 (by decide) km_1533 (zgr_v ev2) ?_
    refine z_aload_n X dd_Mo_feedOne_11 rfl 0 rfl ?_
    obtain ⟨v3, ev3, h⟩ := zb h
    refine z_get (j := 13) X dd_Mo_feedOne_12 kc_12 ki_12 (by decide) km_1534 (zgi_v ev3) ?_
    refine z_iload_n X dd_Mo_feedOne_15 rfl 1 rfl ?_
    refine z_iload_n X dd_Mo_feedOne_16 rfl 2 rfl ?_
    refine z_iushr X dd_Mo_feedOne_17 ?_
    refine z_i2b X dd_Mo_feedOne_18 ?_
    obtain ⟨c4, ec4, h⟩ := zb h
    refine z_bastore X dd_Mo_feedOne_19 rfl ec4 ?_
    refine z_aload_n X dd_Mo_feedOne_20 rfl 0 rfl ?_
    refine z_dup X dd_Mo_feedOne_21 rfl ?_
    obtain ⟨v5, ev5, h⟩ := zb h
    refine z_get (j := 13) X dd_Mo_feedOne_22 kc_12 ki_12 (by decide) km_1534 (zgi_v ev5) ?_
    refine z_iconst (v := 1) X dd_Mo_feedOne_25 (by decide) ?_
    refine z_iadd X dd_Mo_feedOne_26 ?_
    obtain ⟨c6, ec6, h⟩ := zb h
    refine z_put (j := 13) X dd_Mo_feedOne_27 kc_12 ki_12 tt_Mo tk_Mo nn_Mo (by decide) km_1534 rfl (tk_Mo 13 (by decide)) rfl rfl ec6 ?_
    refine z_iinc (v := (x2 + (-8))) (lv' := [(2, .int (x2 + (-8))), (0, .ref x0), (1, .int x1)]) X dd_Mo_feedOne_30 2 rfl rfl (by decide) rfl ?_
    refine z_goto (tgt := 3) X dd_Mo_feedOne_33 (by decide) ?_
    refine z_sub [1, 2, 0] rfl ?_
    obtain rfl := Option.some.inj h
    exact k0 _ rfl
set_option maxRecDepth 100000 in
set_option maxHeartbeats 4000000 in
theorem t_Mo_feedOne_3  (X : zX p s m args cd D cid B bb_Mo_feedOne 3 rr_Mo zT) (H : zH s meth B n0 none "feedOne") {nf : Nat} {x0 : Nat} {x1 : Int32} {x2 : Int32} {c : Zc} {res : Zc} (h : f_Mo_feedOne_3 nf x0 x1 x2 c = some res) : Zz p l e (zRm 0 0 0 0) s m args below meth cd (MQ below (zQv D cid B res n0 0) args s 0 0 (fun q => B ≤ q)) D cid B 3 0 0 c 3 [(0, .ref x0), (1, .int x1), (2, .int x2)] [] := by
  unfold f_Mo_feedOne_3 at h
  obtain ⟨b, eb, h⟩ := zb h
  refine zlp_ok (P := fun a : Nat × Int32 × Int32 × Zc => Zz p l e (zRm 0 0 0 0) s m args below meth cd _ D cid B 3 0 0 a.2.2.2 3 [(0, .ref a.1), (1, .int a.2.1), (2, .int a.2.2.1)] []) (G := fun b : Zc => Zz p l e (zRm 0 0 0 0) s m args below meth cd _ D cid B 3 0 0 b 36 [] []) (fun a r ha k0 k1 => u_Mo_feedOne_3 X H ha k0 k1) nf _ b eb ?_
  obtain rfl := Option.some.inj h
  exact z_vret X H.1 H.2.1 H.2.2.1 dd_Mo_feedOne_36
set_option maxRecDepth 100000 in
set_option maxHeartbeats 4000000 in
theorem c_Mo_feedOne (l : Launch) {nf : Nat} {a0 : Nat} {a1 : Int32} {c : Zc} {res : Zc} (h : f_Mo_feedOne nf a0 a1 c = some res) : zM l yy_Mo_feedOne ww_Mo_feedOne 0 0 0 0 [.ref a0, .int a1] c (fun D cid B => zQv D cid B res c.length 0) := by
  refine z_met (cc := bb_Mo_feedOne) (maxL := 3) (ret := none) (by decide +kernel) rfl (Nat.le_of_ble_eq_true rfl) ?_
  intro p e s m args below meth cd D cid B X h1 h2 h3 h4
  have X : zX p s m args cd D cid B bb_Mo_feedOne 3 rr_Mo zT := X
  have H : zH s meth B c.length none "feedOne" := ⟨h1, h2, h4, h3⟩
  unfold f_Mo_feedOne at h
  show Zz p l e (zRm 0 0 0 0) s m args below meth cd _ D cid B 3 0 0 c 0 [(0, .ref a0), (1, .int a1)] []
  refine z_bipush (v := 24) X dd_Mo_feedOne_0 (by decide) ?_
  refine z_istore_n (lv' := [(2, .int 24), (0, .ref a0), (1, .int a1)]) X dd_Mo_feedOne_2 rfl (by decide) rfl ?_
  refine z_sub [1, 2, 0] rfl ?_
  exact t_Mo_feedOne_3 X H h
theorem dd_Mo_feed_0 : decode bb_Mo_feed 0 = .ok (.aload_n 0, 1) := by decide +kernel
theorem dd_Mo_feed_1 : decode bb_Mo_feed 1 = .ok (.getfield 426, 3) := by decide +kernel
theorem dd_Mo_feed_4 : decode bb_Mo_feed 4 = .ok (.bipush 20, 2) := by decide +kernel
theorem dd_Mo_feed_6 : decode bb_Mo_feed 6 = .ok (.iadd, 1) := by decide +kernel
theorem dd_Mo_feed_7 : decode bb_Mo_feed 7 = .ok (.sipush 1500, 3) := by decide +kernel
theorem dd_Mo_feed_10 : decode bb_Mo_feed 10 = .ok (.if_icmp .le 6, 3) := by decide +kernel
theorem dd_Mo_feed_13 : decode bb_Mo_feed 13 = .ok (.bipush (-3), 2) := by decide +kernel
theorem dd_Mo_feed_15 : decode bb_Mo_feed 15 = .ok (.ireturn, 1) := by decide +kernel
theorem dd_Mo_feed_16 : decode bb_Mo_feed 16 = .ok (.aload_n 0, 1) := by decide +kernel
theorem dd_Mo_feed_17 : decode bb_Mo_feed 17 = .ok (.iload_n 1, 1) := by decide +kernel
theorem dd_Mo_feed_18 : decode bb_Mo_feed 18 = .ok (.invokevirtual 533, 3) := by decide +kernel
theorem dd_Mo_feed_21 : decode bb_Mo_feed 21 = .ok (.aload_n 0, 1) := by decide +kernel
theorem dd_Mo_feed_22 : decode bb_Mo_feed 22 = .ok (.iload_n 2, 1) := by decide +kernel
theorem dd_Mo_feed_23 : decode bb_Mo_feed 23 = .ok (.invokevirtual 533, 3) := by decide +kernel
theorem dd_Mo_feed_26 : decode bb_Mo_feed 26 = .ok (.aload_n 0, 1) := by decide +kernel
theorem dd_Mo_feed_27 : decode bb_Mo_feed 27 = .ok (.iload_n 3, 1) := by decide +kernel
theorem dd_Mo_feed_28 : decode bb_Mo_feed 28 = .ok (.invokevirtual 533, 3) := by decide +kernel
theorem dd_Mo_feed_31 : decode bb_Mo_feed 31 = .ok (.aload_n 0, 1) := by decide +kernel
theorem dd_Mo_feed_32 : decode bb_Mo_feed 32 = .ok (.iload 4, 2) := by decide +kernel
theorem dd_Mo_feed_34 : decode bb_Mo_feed 34 = .ok (.invokevirtual 533, 3) := by decide +kernel
theorem dd_Mo_feed_37 : decode bb_Mo_feed 37 = .ok (.aload_n 0, 1) := by decide +kernel
theorem dd_Mo_feed_38 : decode bb_Mo_feed 38 = .ok (.iload 5, 2) := by decide +kernel
theorem dd_Mo_feed_40 : decode bb_Mo_feed 40 = .ok (.invokevirtual 533, 3) := by decide +kernel
theorem dd_Mo_feed_43 : decode bb_Mo_feed 43 = .ok (.aload_n 0, 1) := by decide +kernel
theorem dd_Mo_feed_44 : decode bb_Mo_feed 44 = .ok (.getfield 426, 3) := by decide +kernel
theorem dd_Mo_feed_47 : decode bb_Mo_feed 47 = .ok (.ireturn, 1) := by decide +kernel
set_option maxRecDepth 100000 in
set_option maxHeartbeats 4000000 in
theorem c_Mo_feed (l : Launch) {nf : Nat} {a0 : Nat} {a1 : Int32} {a2 : Int32} {a3 : Int32} {a4 : Int32} {a5 : Int32} {c : Zc} {res : Int32 × Zc} (h : f_Mo_feed nf a0 a1 a2 a3 a4 a5 c = some res) : zM l yy_Mo_feed ww_Mo_feed 1 22 0 0 [.ref a0, .int a1, .int a2, .int a3, .int a4, .int a5] c (fun D cid B => zQi D cid B res.1 res.2 c.length 0) := by
  refine z_met (cc := bb_Mo_feed) (maxL := 6) (ret := (some (.int))) (by decide +kernel) rfl (Nat.le_of_ble_eq_true rfl) ?_
  intro p e s m args below meth cd D cid B X h1 h2 h3 h4
  have X : zX p s m args cd D cid B bb_Mo_feed 6 rr_Mo zT := X
  have H : zH s meth B c.length (some (.int)) "feed" := ⟨h1, h2, h4, h3⟩
  unfold f_Mo_feed at h
  show Zz p l e (zRm 1 22 0 0) s m args below meth cd _ D cid B 6 0 0 c 0 [(0, .ref a0), (1, .int a1), (2, .int a2), (3, .int a3), (4, .int a4), (5, .int a5)] []
  refine z_aload_n X dd_Mo_feed_0 rfl 0 rfl ?_
  obtain ⟨v1, ev1, h⟩ := zb h
  refine z_get (j := 13) X dd_Mo_feed_1 kc_12 ki_12 (by decide) km_1534 (zgi_v ev1) ?_
  refine z_bipush (v := 20) X dd_Mo_feed_4 (by decide) ?_
  refine z_iadd X dd_Mo_feed_6 ?_
  refine z_sipush (v := 1500) X dd_Mo_feed_7 (by decide) ?_
  refine z_icmp_le (tgt := 16) X dd_Mo_feed_10 (by decide) (fun q2 => ?_) (fun q2 => ?_)
  · rw [if_pos q2] at h
    refine z_aload_n X dd_Mo_feed_16 rfl 0 rfl ?_
    refine z_iload_n X dd_Mo_feed_17 rfl 1 rfl ?_
    obtain ⟨w4, ew4, h⟩ := zb h
    obtain ⟨q3, eq3, h⟩ := zb h
    refine z_callVv X [.int a1] rfl dd_Mo_feed_18 (c_Mo_feedOne l eq3) (cwV 1 X.1.2.2.2.2 (zg_V km_1797 km_1799 km_59 km_138 km_1800) rfl rfl rfl (by decide +kernel) ⟨Nat.le_of_ble_eq_true rfl, Nat.le_of_ble_eq_true rfl⟩) (zob_s ew4) kc_12 rfl (Nat.le_of_ble_eq_true rfl) ⟨Nat.le_of_ble_eq_true rfl, Nat.le_of_ble_eq_true rfl⟩ ?_
    refine z_aload_n X dd_Mo_feed_21 rfl 0 rfl ?_
    refine z_iload_n X dd_Mo_feed_22 rfl 2 rfl ?_
    obtain ⟨w6, ew6, h⟩ := zb h
    obtain ⟨q5, eq5, h⟩ := zb h
    refine z_callVv X [.int a2] rfl dd_Mo_feed_23 (c_Mo_feedOne l eq5) (cwV 1 X.1.2.2.2.2 (zg_V km_1797 km_1799 km_59 km_138 km_1800) rfl rfl rfl (by decide +kernel) ⟨Nat.le_of_ble_eq_true rfl, Nat.le_of_ble_eq_true rfl⟩) (zob_s ew6) kc_12 rfl (Nat.le_of_ble_eq_true rfl) ⟨Nat.le_of_ble_eq_true rfl, Nat.le_of_ble_eq_true rfl⟩ ?_
    refine z_aload_n X dd_Mo_feed_26 rfl 0 rfl ?_
    refine z_iload_n X dd_Mo_feed_27 rfl 3 rfl ?_
    obtain ⟨w8, ew8, h⟩ := zb h
    obtain ⟨q7, eq7, h⟩ := zb h
    refine z_callVv X [.int a3] rfl dd_Mo_feed_28 (c_Mo_feedOne l eq7) (cwV 1 X.1.2.2.2.2 (zg_V km_1797 km_1799 km_59 km_138 km_1800) rfl rfl rfl (by decide +kernel) ⟨Nat.le_of_ble_eq_true rfl, Nat.le_of_ble_eq_true rfl⟩) (zob_s ew8) kc_12 rfl (Nat.le_of_ble_eq_true rfl) ⟨Nat.le_of_ble_eq_true rfl, Nat.le_of_ble_eq_true rfl⟩ ?_
    refine z_aload_n X dd_Mo_feed_31 rfl 0 rfl ?_
    refine z_iload X dd_Mo_feed_32 4 rfl ?_
    obtain ⟨w10, ew10, h⟩ := zb h
    obtain ⟨q9, eq9, h⟩ := zb h
    refine z_callVv X [.int a4] rfl dd_Mo_feed_34 (c_Mo_feedOne l eq9) (cwV 1 X.1.2.2.2.2 (zg_V km_1797 km_1799 km_59 km_138 km_1800) rfl rfl rfl (by decide +kernel) ⟨Nat.le_of_ble_eq_true rfl, Nat.le_of_ble_eq_true rfl⟩) (zob_s ew10) kc_12 rfl (Nat.le_of_ble_eq_true rfl) ⟨Nat.le_of_ble_eq_true rfl, Nat.le_of_ble_eq_true rfl⟩ ?_
    refine z_aload_n X dd_Mo_feed_37 rfl 0 rfl ?_
    refine z_iload X dd_Mo_feed_38 5 rfl ?_
    obtain ⟨w12, ew12, h⟩ := zb h
    obtain ⟨q11, eq11, h⟩ := zb h
    refine z_callVv X [.int a5] rfl dd_Mo_feed_40 (c_Mo_feedOne l eq11) (cwV 1 X.1.2.2.2.2 (zg_V km_1797 km_1799 km_59 km_138 km_1800) rfl rfl rfl (by decide +kernel) ⟨Nat.le_of_ble_eq_true rfl, Nat.le_of_ble_eq_true rfl⟩) (zob_s ew12) kc_12 rfl (Nat.le_of_ble_eq_true rfl) ⟨Nat.le_of_ble_eq_true rfl, Nat.le_of_ble_eq_true rfl⟩ ?_
    refine z_aload_n X dd_Mo_feed_43 rfl 0 rfl ?_
    obtain ⟨v13, ev13, h⟩ := zb h
    refine z_get (j := 13) X dd_Mo_feed_44 kc_12 ki_12 (by decide) km_1534 (zgi_v ev13) ?_
    obtain rfl := Option.some.inj h
    exact z_iret X H.1 H.2.1 H.2.2.1 dd_Mo_feed_47
  · rw [if_neg q2] at h
    refine z_bipush (v := (-3)) X dd_Mo_feed_13 (by decide) ?_
    obtain rfl := Option.some.inj h
    exact z_iret X H.1 H.2.1 H.2.2.1 dd_Mo_feed_15
theorem dd_Mo_cut_0 : decode bb_Mo_cut 0 = .ok (.iload_n 1, 1) := by decide +kernel
theorem dd_Mo_cut_1 : decode bb_Mo_cut 1 = .ok (.ifCond .lt 11, 3) := by decide +kernel
theorem dd_Mo_cut_4 : decode bb_Mo_cut 4 = .ok (.iload_n 1, 1) := by decide +kernel
theorem dd_Mo_cut_5 : decode bb_Mo_cut 5 = .ok (.aload_n 0, 1) := by decide +kernel
theorem dd_Mo_cut_6 : decode bb_Mo_cut 6 = .ok (.getfield 426, 3) := by decide +kernel
theorem dd_Mo_cut_9 : decode bb_Mo_cut 9 = .ok (.if_icmp .le 5, 3) := by decide +kernel
theorem dd_Mo_cut_12 : decode bb_Mo_cut 12 = .ok (.iconst (-1), 1) := by decide +kernel
theorem dd_Mo_cut_13 : decode bb_Mo_cut 13 = .ok (.ireturn, 1) := by decide +kernel
theorem dd_Mo_cut_14 : decode bb_Mo_cut 14 = .ok (.aload_n 0, 1) := by decide +kernel
theorem dd_Mo_cut_15 : decode bb_Mo_cut 15 = .ok (.dup, 1) := by decide +kernel
theorem dd_Mo_cut_16 : decode bb_Mo_cut 16 = .ok (.getfield 426, 3) := by decide +kernel
theorem dd_Mo_cut_19 : decode bb_Mo_cut 19 = .ok (.iload_n 1, 1) := by decide +kernel
theorem dd_Mo_cut_20 : decode bb_Mo_cut 20 = .ok (.isub, 1) := by decide +kernel
theorem dd_Mo_cut_21 : decode bb_Mo_cut 21 = .ok (.putfield 426, 3) := by decide +kernel
theorem dd_Mo_cut_24 : decode bb_Mo_cut 24 = .ok (.aload_n 0, 1) := by decide +kernel
theorem dd_Mo_cut_25 : decode bb_Mo_cut 25 = .ok (.getfield 426, 3) := by decide +kernel
theorem dd_Mo_cut_28 : decode bb_Mo_cut 28 = .ok (.ireturn, 1) := by decide +kernel
set_option maxRecDepth 100000 in
set_option maxHeartbeats 4000000 in
theorem t_Mo_cut_12  (X : zX p s m args cd D cid B bb_Mo_cut 2 rr_Mo zT) (H : zH s meth B n0 (some (.int)) "cut") {nf : Nat}  {c : Zc} {res : Int32 × Zc} (h : f_Mo_cut_12 nf  c = some res) : Zz p l e (zRm 0 0 0 0) s m args below meth cd (MQ below (zQi D cid B res.1 res.2 n0 0) args s 0 0 (fun q => B ≤ q)) D cid B 2 0 0 c 12 [] [] := by
  unfold f_Mo_cut_12 at h
  refine z_iconst (v := (-1)) X dd_Mo_cut_12 (by decide) ?_
  obtain rfl := Option.some.inj h
  exact z_iret X H.1 H.2.1 H.2.2.1 dd_Mo_cut_13
set_option maxRecDepth 100000 in
set_option maxHeartbeats 4000000 in
theorem c_Mo_cut (l : Launch) {nf : Nat} {a0 : Nat} {a1 : Int32} {c : Zc} {res : Int32 × Zc} (h : f_Mo_cut nf a0 a1 c = some res) : zM l yy_Mo_cut ww_Mo_cut 0 0 0 0 [.ref a0, .int a1] c (fun D cid B => zQi D cid B res.1 res.2 c.length 0) := by
  refine z_met (cc := bb_Mo_cut) (maxL := 2) (ret := (some (.int))) (by decide +kernel) rfl (Nat.le_of_ble_eq_true rfl) ?_
  intro p e s m args below meth cd D cid B X h1 h2 h3 h4
  have X : zX p s m args cd D cid B bb_Mo_cut 2 rr_Mo zT := X
  have H : zH s meth B c.length (some (.int)) "cut" := ⟨h1, h2, h4, h3⟩
  unfold f_Mo_cut at h
  show Zz p l e (zRm 0 0 0 0) s m args below meth cd _ D cid B 2 0 0 c 0 [(0, .ref a0), (1, .int a1)] []
  refine z_iload_n X dd_Mo_cut_0 rfl 1 rfl ?_
  refine z_if_lt (tgt := 12) X dd_Mo_cut_1 (by decide) (fun q1 => ?_) (fun q1 => ?_)
  · rw [if_pos q1] at h
    refine z_sub [] rfl ?_
    exact t_Mo_cut_12 X H h
  · rw [if_neg q1] at h
    refine z_iload_n X dd_Mo_cut_4 rfl 1 rfl ?_
    refine z_aload_n X dd_Mo_cut_5 rfl 0 rfl ?_
    obtain ⟨v2, ev2, h⟩ := zb h
    refine z_get (j := 13) X dd_Mo_cut_6 kc_12 ki_12 (by decide) km_1534 (zgi_v ev2) ?_
    refine z_icmp_le (tgt := 14) X dd_Mo_cut_9 (by decide) (fun q3 => ?_) (fun q3 => ?_)
    · rw [if_pos q3] at h
      refine z_aload_n X dd_Mo_cut_14 rfl 0 rfl ?_
      refine z_dup X dd_Mo_cut_15 rfl ?_
      obtain ⟨v4, ev4, h⟩ := zb h
      refine z_get (j := 13) X dd_Mo_cut_16 kc_12 ki_12 (by decide) km_1534 (zgi_v ev4) ?_
      refine z_iload_n X dd_Mo_cut_19 rfl 1 rfl ?_
      refine z_isub X dd_Mo_cut_20 ?_
      obtain ⟨c5, ec5, h⟩ := zb h
      refine z_put (j := 13) X dd_Mo_cut_21 kc_12 ki_12 tt_Mo tk_Mo nn_Mo (by decide) km_1534 rfl (tk_Mo 13 (by decide)) rfl rfl ec5 ?_
      refine z_aload_n X dd_Mo_cut_24 rfl 0 rfl ?_
      obtain ⟨v6, ev6, h⟩ := zb h
      refine z_get (j := 13) X dd_Mo_cut_25 kc_12 ki_12 (by decide) km_1534 (zgi_v ev6) ?_
      obtain rfl := Option.some.inj h
      exact z_iret X H.1 H.2.1 H.2.2.1 dd_Mo_cut_28
    · rw [if_neg q3] at h
      refine z_sub [] rfl ?_
      exact t_Mo_cut_12 X H h
theorem dd_Mo_node_0 : decode bb_Mo_node 0 = .ok (.iload_n 1, 1) := by decide +kernel
theorem dd_Mo_node_1 : decode bb_Mo_node 1 = .ok (.sipush 256, 3) := by decide +kernel
theorem dd_Mo_node_4 : decode bb_Mo_node 4 = .ok (.invokestatic 536, 3) := by decide +kernel
theorem dd_Mo_node_7 : decode bb_Mo_node 7 = .ok (.ifCond .ne 5, 3) := by decide +kernel
theorem dd_Mo_node_10 : decode bb_Mo_node 10 = .ok (.iconst (-1), 1) := by decide +kernel
theorem dd_Mo_node_11 : decode bb_Mo_node 11 = .ok (.ireturn, 1) := by decide +kernel
theorem dd_Mo_node_12 : decode bb_Mo_node 12 = .ok (.aload_n 0, 1) := by decide +kernel
theorem dd_Mo_node_13 : decode bb_Mo_node 13 = .ok (.getfield 450, 3) := by decide +kernel
theorem dd_Mo_node_16 : decode bb_Mo_node 16 = .ok (.bipush 16, 2) := by decide +kernel
theorem dd_Mo_node_18 : decode bb_Mo_node 18 = .ok (.if_icmp .ne 6, 3) := by decide +kernel
theorem dd_Mo_node_21 : decode bb_Mo_node 21 = .ok (.bipush (-3), 2) := by decide +kernel
theorem dd_Mo_node_23 : decode bb_Mo_node 23 = .ok (.ireturn, 1) := by decide +kernel
theorem dd_Mo_node_24 : decode bb_Mo_node 24 = .ok (.aload_n 0, 1) := by decide +kernel
theorem dd_Mo_node_25 : decode bb_Mo_node 25 = .ok (.getfield 7, 3) := by decide +kernel
theorem dd_Mo_node_28 : decode bb_Mo_node 28 = .ok (.aload_n 0, 1) := by decide +kernel
theorem dd_Mo_node_29 : decode bb_Mo_node 29 = .ok (.getfield 450, 3) := by decide +kernel
theorem dd_Mo_node_32 : decode bb_Mo_node 32 = .ok (.iload_n 1, 1) := by decide +kernel
theorem dd_Mo_node_33 : decode bb_Mo_node 33 = .ok (.iastore, 1) := by decide +kernel
theorem dd_Mo_node_34 : decode bb_Mo_node 34 = .ok (.iconst 0, 1) := by decide +kernel
theorem dd_Mo_node_35 : decode bb_Mo_node 35 = .ok (.istore_n 2, 1) := by decide +kernel
theorem dd_Mo_node_36 : decode bb_Mo_node 36 = .ok (.iload_n 2, 1) := by decide +kernel
theorem dd_Mo_node_37 : decode bb_Mo_node 37 = .ok (.iconst 4, 1) := by decide +kernel
theorem dd_Mo_node_38 : decode bb_Mo_node 38 = .ok (.if_icmp .ge 23, 3) := by decide +kernel
theorem dd_Mo_node_41 : decode bb_Mo_node 41 = .ok (.aload_n 0, 1) := by decide +kernel
theorem dd_Mo_node_42 : decode bb_Mo_node 42 = .ok (.getfield 13, 3) := by decide +kernel
theorem dd_Mo_node_45 : decode bb_Mo_node 45 = .ok (.iconst 4, 1) := by decide +kernel
theorem dd_Mo_node_46 : decode bb_Mo_node 46 = .ok (.aload_n 0, 1) := by decide +kernel
theorem dd_Mo_node_47 : decode bb_Mo_node 47 = .ok (.getfield 450, 3) := by decide +kernel
theorem dd_Mo_node_50 : decode bb_Mo_node 50 = .ok (.imul, 1) := by decide +kernel
theorem dd_Mo_node_51 : decode bb_Mo_node 51 = .ok (.iload_n 2, 1) := by decide +kernel
theorem dd_Mo_node_52 : decode bb_Mo_node 52 = .ok (.iadd, 1) := by decide +kernel
theorem dd_Mo_node_53 : decode bb_Mo_node 53 = .ok (.iconst 0, 1) := by decide +kernel
theorem dd_Mo_node_54 : decode bb_Mo_node 54 = .ok (.iastore, 1) := by decide +kernel
theorem dd_Mo_node_55 : decode bb_Mo_node 55 = .ok (.iinc 2 1, 3) := by decide +kernel
theorem dd_Mo_node_58 : decode bb_Mo_node 58 = .ok (.goto (-22), 3) := by decide +kernel
theorem dd_Mo_node_61 : decode bb_Mo_node 61 = .ok (.aload_n 0, 1) := by decide +kernel
theorem dd_Mo_node_62 : decode bb_Mo_node 62 = .ok (.dup, 1) := by decide +kernel
theorem dd_Mo_node_63 : decode bb_Mo_node 63 = .ok (.getfield 450, 3) := by decide +kernel
theorem dd_Mo_node_66 : decode bb_Mo_node 66 = .ok (.iconst 1, 1) := by decide +kernel
theorem dd_Mo_node_67 : decode bb_Mo_node 67 = .ok (.iadd, 1) := by decide +kernel
theorem dd_Mo_node_68 : decode bb_Mo_node 68 = .ok (.putfield 450, 3) := by decide +kernel
theorem dd_Mo_node_71 : decode bb_Mo_node 71 = .ok (.aload_n 0, 1) := by decide +kernel
theorem dd_Mo_node_72 : decode bb_Mo_node 72 = .ok (.invokevirtual 540, 3) := by decide +kernel
theorem dd_Mo_node_75 : decode bb_Mo_node 75 = .ok (.aload_n 0, 1) := by decide +kernel
theorem dd_Mo_node_76 : decode bb_Mo_node 76 = .ok (.getfield 450, 3) := by decide +kernel
theorem dd_Mo_node_79 : decode bb_Mo_node 79 = .ok (.iconst 1, 1) := by decide +kernel
theorem dd_Mo_node_80 : decode bb_Mo_node 80 = .ok (.isub, 1) := by decide +kernel
theorem dd_Mo_node_81 : decode bb_Mo_node 81 = .ok (.ireturn, 1) := by decide +kernel
set_option maxRecDepth 100000 in
set_option maxHeartbeats 4000000 in
theorem u_Mo_node_36  (X : zX p s m args cd D cid B bb_Mo_node 3 rr_Mo zT) (H : zH s meth B n0 (some (.int)) "node") {nf : Nat} {x0 : Nat} {x2 : Int32} {c : Zc} {r : (Nat × Int32 × Zc) ⊕ (Nat × Zc)} (h : g_Mo_node_36 nf x0 x2 c = some r) (k0 : ∀ a, r = .inl a → (fun a : Nat × Int32 × Zc => Zz p l e (zRm 1 21 0 0) s m args below meth cd Q D cid B 3 0 0 a.2.2 36 [(0, .ref a.1), (2, .int a.2.1)] []) a) (k1 : ∀ b, r = .inr b → (fun b : Nat × Zc => Zz p l e (zRm 1 21 0 0) s m args below meth cd Q D cid B 3 0 0 b.2 61 [(0, .ref b.1)] []) b) : Zz p l e (zRm 1 21 0 0) s m args below meth cd Q D cid B 3 0 0 c 36 [(0, .ref x0), (2, .int x2)] [] := by
  unfold g_Mo_node_36 at h
  refine z_iload_n X dd_Mo_node_36 rfl 1 rfl ?_
  refine z_iconst (v := 4) X dd_Mo_node_37 (by decide) ?_
  refine z_icmp_ge (tgt := 61) X dd_Mo_node_38 (by decide) (fun q8 => ?_) (fun q8 => ?_)
  · rw [if_pos q8] at h
    refine z_sub [0] rfl ?_
    obtain rfl := Option.some.inj h
    exact k1 _ rfl
  · rw [if_neg q8] at h
    refine z_aload_n X dd_Mo_node_41 rfl 0 rfl ?_
    obtain ⟨v9, ev9, h⟩ := zb h
    refine z_get (j := 2) X dd_Mo_node_42 kc_12 ki_12 (by decide) km_1523 (zgr_v ev9) ?_
    refine z_iconst (v := 4) X dd_Mo_node_45 (by decide) ?_
    refine z_aload_n X dd_Mo_node_46 rfl 0 rfl ?_
    obtain ⟨v10, ev10, h⟩ := zb h
    refine z_get (j := 0) X dd_Mo_node_47 kc_12 ki_12 (by decide) km_1521 (zgi_v ev10) ?_
    refine z_imul X dd_Mo_node_50 ?_
    refine z_iload_n X dd_Mo_node_51 rfl 1 rfl ?_
    refine z_iadd X dd_Mo_node_52 ?_
    refine z_iconst (v := 0) X dd_Mo_node_53 (by decide) ?_
    obtain ⟨c11, ec11, h⟩ := zb h
    refine z_iastore X dd_Mo_node_54 rfl ec11 ?_
    refine z_iinc (v := (x2 + 1)) (lv' := [(2, .int (x2 + 1)), (0, .ref x0)]) X dd_Mo_node_55 1 rfl rfl (by decide) rfl ?_
    refine z_goto (tgt := 36) X dd_Mo_node_58 (by decide) ?_
    refine z_sub [1, 0] rfl ?_
    obtain rfl := Option.some.inj h
    exact k0 _ rfl
set_option maxRecDepth 100000 in
set_option maxHeartbeats 4000000 in
theorem t_Mo_node_36  (X : zX p s m args cd D cid B bb_Mo_node 3 rr_Mo zT) (H : zH s meth B n0 (some (.int)) "node") {nf : Nat} {x0 : Nat} {x2 : Int32} {c : Zc} {res : Int32 × Zc} (h : f_Mo_node_36 nf x0 x2 c = some res) : Zz p l e (zRm 1 21 0 0) s m args below meth cd (MQ below (zQi D cid B res.1 res.2 n0 0) args s 0 0 (fun q => B ≤ q)) D cid B 3 0 0 c 36 [(0, .ref x0), (2, .int x2)] [] := by
  unfold f_Mo_node_36 at h
  obtain ⟨b, eb, h⟩ := zb h
  refine zlp_ok (P := fun a : Nat × Int32 × Zc => Zz p l e (zRm 1 21 0 0) s m args below meth cd _ D cid B 3 0 0 a.2.2 36 [(0, .ref a.1), (2, .int a.2.1)] []) (G := fun b : Nat × Zc => Zz p l e (zRm 1 21 0 0) s m args below meth cd _ D cid B 3 0 0 b.2 61 [(0, .ref b.1)] []) (fun a r ha k0 k1 => u_Mo_node_36 X H ha k0 k1) nf _ b eb ?_
  refine z_aload_n X dd_Mo_node_61 rfl 0 rfl ?_
  refine z_dup X dd_Mo_node_62 rfl ?_
  obtain ⟨v12, ev12, h⟩ := zb h
  refine z_get (j := 0) X dd_Mo_node_63 kc_12 ki_12 (by decide) km_1521 (zgi_v ev12) ?_
  refine z_iconst (v := 1) X dd_Mo_node_66 (by decide) ?_
  refine z_iadd X dd_Mo_node_67 ?_
  obtain ⟨c13, ec13, h⟩ := zb h
  refine z_put (j := 0) X dd_Mo_node_68 kc_12 ki_12 tt_Mo tk_Mo nn_Mo (by decide) km_1521 rfl (tk_Mo 0 (by decide)) rfl rfl ec13 ?_
  refine z_aload_n X dd_Mo_node_71 rfl 0 rfl ?_
  obtain ⟨w15, ew15, h⟩ := zb h
  obtain ⟨q14, eq14, h⟩ := zb h
  refine z_callVv X [] rfl dd_Mo_node_72 (c_Mo_changed l eq14) (cwV 0 X.1.2.2.2.2 (zg_V km_1812 km_1814 km_60 km_138 km_1815) rfl rfl rfl (by decide +kernel) ⟨Nat.le_of_ble_eq_true rfl, Nat.le_of_ble_eq_true rfl⟩) (zob_s ew15) kc_12 rfl (Nat.le_of_ble_eq_true rfl) ⟨Nat.le_of_ble_eq_true rfl, Nat.le_of_ble_eq_true rfl⟩ ?_
  refine z_aload_n X dd_Mo_node_75 rfl 0 rfl ?_
  obtain ⟨v16, ev16, h⟩ := zb h
  refine z_get (j := 0) X dd_Mo_node_76 kc_12 ki_12 (by decide) km_1521 (zgi_v ev16) ?_
  refine z_iconst (v := 1) X dd_Mo_node_79 (by decide) ?_
  refine z_isub X dd_Mo_node_80 ?_
  obtain rfl := Option.some.inj h
  exact z_iret X H.1 H.2.1 H.2.2.1 dd_Mo_node_81
set_option maxRecDepth 100000 in
set_option maxHeartbeats 4000000 in
theorem c_Mo_node (l : Launch) {nf : Nat} {a0 : Nat} {a1 : Int32} {c : Zc} {res : Int32 × Zc} (h : f_Mo_node nf a0 a1 c = some res) : zM l yy_Mo_node ww_Mo_node 1 21 0 0 [.ref a0, .int a1] c (fun D cid B => zQi D cid B res.1 res.2 c.length 0) := by
  refine z_met (cc := bb_Mo_node) (maxL := 3) (ret := (some (.int))) (by decide +kernel) rfl (Nat.le_of_ble_eq_true rfl) ?_
  intro p e s m args below meth cd D cid B X h1 h2 h3 h4
  have X : zX p s m args cd D cid B bb_Mo_node 3 rr_Mo zT := X
  have H : zH s meth B c.length (some (.int)) "node" := ⟨h1, h2, h4, h3⟩
  unfold f_Mo_node at h
  show Zz p l e (zRm 1 21 0 0) s m args below meth cd _ D cid B 3 0 0 c 0 [(0, .ref a0), (1, .int a1)] []
  refine z_iload_n X dd_Mo_node_0 rfl 1 rfl ?_
  refine z_sipush (v := 256) X dd_Mo_node_1 (by decide) ?_
  obtain ⟨q1, eq1, h⟩ := zb h
  refine z_callSi X [.int a1, .int 256] rfl dd_Mo_node_4 (c_Mo_isIn l eq1) (va_cwS 2 X.1.2.2.2.2 (zg_S km_1809 km_1810 km_138 km_1811) rfl rfl rfl (by decide +kernel) ⟨Nat.le_of_ble_eq_true rfl, Nat.le_of_ble_eq_true rfl⟩) rfl (Nat.le_of_ble_eq_true rfl) ⟨Nat.le_of_ble_eq_true rfl, Nat.le_of_ble_eq_true rfl⟩ ?_
  refine z_if_ne (tgt := 12) X dd_Mo_node_7 (by decide) (fun q2 => ?_) (fun q2 => ?_)
  · rw [if_neg q2] at h
    refine z_aload_n X dd_Mo_node_12 rfl 0 rfl ?_
    obtain ⟨v3, ev3, h⟩ := zb h
    refine z_get (j := 0) X dd_Mo_node_13 kc_12 ki_12 (by decide) km_1521 (zgi_v ev3) ?_
    refine z_bipush (v := 16) X dd_Mo_node_16 (by decide) ?_
    refine z_icmp_ne (tgt := 24) X dd_Mo_node_18 (by decide) (fun q4 => ?_) (fun q4 => ?_)
    · rw [if_neg q4] at h
      refine z_aload_n X dd_Mo_node_24 rfl 0 rfl ?_
      obtain ⟨v5, ev5, h⟩ := zb h
      refine z_get (j := 1) X dd_Mo_node_25 kc_12 ki_12 (by decide) km_1522 (zgr_v ev5) ?_
      refine z_aload_n X dd_Mo_node_28 rfl 0 rfl ?_
      obtain ⟨v6, ev6, h⟩ := zb h
      refine z_get (j := 0) X dd_Mo_node_29 kc_12 ki_12 (by decide) km_1521 (zgi_v ev6) ?_
      refine z_iload_n X dd_Mo_node_32 rfl 1 rfl ?_
      obtain ⟨c7, ec7, h⟩ := zb h
      refine z_iastore X dd_Mo_node_33 rfl ec7 ?_
      refine z_iconst (v := 0) X dd_Mo_node_34 (by decide) ?_
      refine z_istore_n (lv' := [(2, .int 0), (0, .ref a0), (1, .int a1)]) X dd_Mo_node_35 rfl (by decide) rfl ?_
      refine z_sub [1, 0] rfl ?_
      exact t_Mo_node_36 X H h
    · rw [if_pos q4] at h
      refine z_bipush (v := (-3)) X dd_Mo_node_21 (by decide) ?_
      obtain rfl := Option.some.inj h
      exact z_iret X H.1 H.2.1 H.2.2.1 dd_Mo_node_23
  · rw [if_pos q2] at h
    refine z_iconst (v := (-1)) X dd_Mo_node_10 (by decide) ?_
    obtain rfl := Option.some.inj h
    exact z_iret X H.1 H.2.1 H.2.2.1 dd_Mo_node_11
theorem dd_Mo_mark_0 : decode bb_Mo_mark 0 = .ok (.iload_n 1, 1) := by decide +kernel
theorem dd_Mo_mark_1 : decode bb_Mo_mark 1 = .ok (.aload_n 0, 1) := by decide +kernel
theorem dd_Mo_mark_2 : decode bb_Mo_mark 2 = .ok (.getfield 450, 3) := by decide +kernel
theorem dd_Mo_mark_5 : decode bb_Mo_mark 5 = .ok (.invokestatic 536, 3) := by decide +kernel
theorem dd_Mo_mark_8 : decode bb_Mo_mark 8 = .ok (.ifCond .eq 13, 3) := by decide +kernel
theorem dd_Mo_mark_11 : decode bb_Mo_mark 11 = .ok (.iload_n 2, 1) := by decide +kernel
theorem dd_Mo_mark_12 : decode bb_Mo_mark 12 = .ok (.sipush 256, 3) := by decide +kernel
theorem dd_Mo_mark_15 : decode bb_Mo_mark 15 = .ok (.invokestatic 536, 3) := by decide +kernel
theorem dd_Mo_mark_18 : decode bb_Mo_mark 18 = .ok (.ifCond .ne 5, 3) := by decide +kernel
theorem dd_Mo_mark_21 : decode bb_Mo_mark 21 = .ok (.iconst (-1), 1) := by decide +kernel
theorem dd_Mo_mark_22 : decode bb_Mo_mark 22 = .ok (.ireturn, 1) := by decide +kernel
theorem dd_Mo_mark_23 : decode bb_Mo_mark 23 = .ok (.aload_n 0, 1) := by decide +kernel
theorem dd_Mo_mark_24 : decode bb_Mo_mark 24 = .ok (.getfield 7, 3) := by decide +kernel
theorem dd_Mo_mark_27 : decode bb_Mo_mark 27 = .ok (.iload_n 1, 1) := by decide +kernel
theorem dd_Mo_mark_28 : decode bb_Mo_mark 28 = .ok (.iaload, 1) := by decide +kernel
theorem dd_Mo_mark_29 : decode bb_Mo_mark 29 = .ok (.istore_n 3, 1) := by decide +kernel
theorem dd_Mo_mark_30 : decode bb_Mo_mark 30 = .ok (.aload_n 0, 1) := by decide +kernel
theorem dd_Mo_mark_31 : decode bb_Mo_mark 31 = .ok (.getfield 7, 3) := by decide +kernel
theorem dd_Mo_mark_34 : decode bb_Mo_mark 34 = .ok (.iload_n 1, 1) := by decide +kernel
theorem dd_Mo_mark_35 : decode bb_Mo_mark 35 = .ok (.iload_n 2, 1) := by decide +kernel
theorem dd_Mo_mark_36 : decode bb_Mo_mark 36 = .ok (.iastore, 1) := by decide +kernel
theorem dd_Mo_mark_37 : decode bb_Mo_mark 37 = .ok (.aload_n 0, 1) := by decide +kernel
theorem dd_Mo_mark_38 : decode bb_Mo_mark 38 = .ok (.invokevirtual 540, 3) := by decide +kernel
theorem dd_Mo_mark_41 : decode bb_Mo_mark 41 = .ok (.iload_n 3, 1) := by decide +kernel
theorem dd_Mo_mark_42 : decode bb_Mo_mark 42 = .ok (.ireturn, 1) := by decide +kernel
set_option maxRecDepth 100000 in
set_option maxHeartbeats 4000000 in
theorem t_Mo_mark_21  (X : zX p s m args cd D cid B bb_Mo_mark 4 rr_Mo zT) (H : zH s meth B n0 (some (.int)) "mark") {nf : Nat}  {c : Zc} {res : Int32 × Zc} (h : f_Mo_mark_21 nf  c = some res) : Zz p l e (zRm 1 21 0 0) s m args below meth cd (MQ below (zQi D cid B res.1 res.2 n0 0) args s 0 0 (fun q => B ≤ q)) D cid B 4 0 0 c 21 [] [] := by
  unfold f_Mo_mark_21 at h
  refine z_iconst (v := (-1)) X dd_Mo_mark_21 (by decide) ?_
  obtain rfl := Option.some.inj h
  exact z_iret X H.1 H.2.1 H.2.2.1 dd_Mo_mark_22
set_option maxRecDepth 100000 in
set_option maxHeartbeats 4000000 in
theorem c_Mo_mark (l : Launch) {nf : Nat} {a0 : Nat} {a1 : Int32} {a2 : Int32} {c : Zc} {res : Int32 × Zc} (h : f_Mo_mark nf a0 a1 a2 c = some res) : zM l yy_Mo_mark ww_Mo_mark 1 21 0 0 [.ref a0, .int a1, .int a2] c (fun D cid B => zQi D cid B res.1 res.2 c.length 0) := by
  refine z_met (cc := bb_Mo_mark) (maxL := 4) (ret := (some (.int))) (by decide +kernel) rfl (Nat.le_of_ble_eq_true rfl) ?_
  intro p e s m args below meth cd D cid B X h1 h2 h3 h4
  have X : zX p s m args cd D cid B bb_Mo_mark 4 rr_Mo zT := X
  have H : zH s meth B c.length (some (.int)) "mark" := ⟨h1, h2, h4, h3⟩
  unfold f_Mo_mark at h
  show Zz p l e (zRm 1 21 0 0) s m args below meth cd _ D cid B 4 0 0 c 0 [(0, .ref a0), (1, .int a1), (2, .int a2)] []
  refine z_iload_n X dd_Mo_mark_0 rfl 1 rfl ?_
  refine z_aload_n X dd_Mo_mark_1 rfl 0 rfl ?_
  obtain ⟨v1, ev1, h⟩ := zb h
  refine z_get (j := 0) X dd_Mo_mark_2 kc_12 ki_12 (by decide) km_1521 (zgi_v ev1) ?_
  obtain ⟨q2, eq2, h⟩ := zb h
  refine z_callSi X [.int a1, .int v1] rfl dd_Mo_mark_5 (c_Mo_isIn l eq2) (va_cwS 2 X.1.2.2.2.2 (zg_S km_1809 km_1810 km_138 km_1811) rfl rfl rfl (by decide +kernel) ⟨Nat.le_of_ble_eq_true rfl, Nat.le_of_ble_eq_true rfl⟩) rfl (Nat.le_of_ble_eq_true rfl) ⟨Nat.le_of_ble_eq_true rfl, Nat.le_of_ble_eq_true rfl⟩ ?_
  refine z_if_eq (tgt := 21) X dd_Mo_mark_8 (by decide) (fun q3 => ?_) (fun q3 => ?_)
  · rw [if_pos q3] at h
    refine z_sub [] rfl ?_
    exact t_Mo_mark_21 X H h
  · rw [if_neg q3] at h
    refine z_iload_n X dd_Mo_mark_11 rfl 2 rfl ?_
    refine z_sipush (v := 256) X dd_Mo_mark_12 (by decide) ?_
    obtain ⟨q4, eq4, h⟩ := zb h
    refine z_callSi X [.int a2, .int 256] rfl dd_Mo_mark_15 (c_Mo_isIn l eq4) (va_cwS 2 X.1.2.2.2.2 (zg_S km_1809 km_1810 km_138 km_1811) rfl rfl rfl (by decide +kernel) ⟨Nat.le_of_ble_eq_true rfl, Nat.le_of_ble_eq_true rfl⟩) rfl (Nat.le_of_ble_eq_true rfl) ⟨Nat.le_of_ble_eq_true rfl, Nat.le_of_ble_eq_true rfl⟩ ?_
    refine z_if_ne (tgt := 23) X dd_Mo_mark_18 (by decide) (fun q5 => ?_) (fun q5 => ?_)
    · rw [if_neg q5] at h
      refine z_aload_n X dd_Mo_mark_23 rfl 0 rfl ?_
      obtain ⟨v6, ev6, h⟩ := zb h
      refine z_get (j := 1) X dd_Mo_mark_24 kc_12 ki_12 (by decide) km_1522 (zgr_v ev6) ?_
      refine z_iload_n X dd_Mo_mark_27 rfl 1 rfl ?_
      obtain ⟨v7, ev7, h⟩ := zb h
      refine z_iaload X dd_Mo_mark_28 rfl ev7 ?_
      refine z_istore_n (lv' := [(3, .int v7), (0, .ref a0), (1, .int a1), (2, .int a2)]) X dd_Mo_mark_29 rfl (by decide) rfl ?_
      refine z_aload_n X dd_Mo_mark_30 rfl 1 rfl ?_
      obtain ⟨v8, ev8, h⟩ := zb h
      refine z_get (j := 1) X dd_Mo_mark_31 kc_12 ki_12 (by decide) km_1522 (zgr_v ev8) ?_
      refine z_iload_n X dd_Mo_mark_34 rfl 2 rfl ?_
      refine z_iload_n X dd_Mo_mark_35 rfl 3 rfl ?_
      obtain ⟨c9, ec9, h⟩ := zb h
      refine z_iastore X dd_Mo_mark_36 rfl ec9 ?_
      refine z_aload_n X dd_Mo_mark_37 rfl 1 rfl ?_
      obtain ⟨w11, ew11, h⟩ := zb h
      obtain ⟨q10, eq10, h⟩ := zb h
      refine z_callVv X [] rfl dd_Mo_mark_38 (c_Mo_changed l eq10) (cwV 0 X.1.2.2.2.2 (zg_V km_1812 km_1814 km_60 km_138 km_1815) rfl rfl rfl (by decide +kernel) ⟨Nat.le_of_ble_eq_true rfl, Nat.le_of_ble_eq_true rfl⟩) (zob_s ew11) kc_12 rfl (Nat.le_of_ble_eq_true rfl) ⟨Nat.le_of_ble_eq_true rfl, Nat.le_of_ble_eq_true rfl⟩ ?_
      refine z_iload_n X dd_Mo_mark_41 rfl 0 rfl ?_
      obtain rfl := Option.some.inj h
      exact z_iret X H.1 H.2.1 H.2.2.1 dd_Mo_mark_42
    · rw [if_pos q5] at h
      refine z_sub [] rfl ?_
      exact t_Mo_mark_21 X H h
theorem dd_Mo_put_0 : decode bb_Mo_put 0 = .ok (.iload_n 1, 1) := by decide +kernel
theorem dd_Mo_put_1 : decode bb_Mo_put 1 = .ok (.aload_n 0, 1) := by decide +kernel
theorem dd_Mo_put_2 : decode bb_Mo_put 2 = .ok (.getfield 450, 3) := by decide +kernel
theorem dd_Mo_put_5 : decode bb_Mo_put 5 = .ok (.invokestatic 536, 3) := by decide +kernel
theorem dd_Mo_put_8 : decode bb_Mo_put 8 = .ok (.ifCond .eq 25, 3) := by decide +kernel
theorem dd_Mo_put_11 : decode bb_Mo_put 11 = .ok (.iload_n 2, 1) := by decide +kernel
theorem dd_Mo_put_12 : decode bb_Mo_put 12 = .ok (.iconst 4, 1) := by decide +kernel
theorem dd_Mo_put_13 : decode bb_Mo_put 13 = .ok (.invokestatic 536, 3) := by decide +kernel
theorem dd_Mo_put_16 : decode bb_Mo_put 16 = .ok (.ifCond .eq 17, 3) := by decide +kernel
theorem dd_Mo_put_19 : decode bb_Mo_put 19 = .ok (.iload_n 3, 1) := by decide +kernel
theorem dd_Mo_put_20 : decode bb_Mo_put 20 = .ok (.sipush (-9999), 3) := by decide +kernel
theorem dd_Mo_put_23 : decode bb_Mo_put 23 = .ok (.if_icmp .lt 10, 3) := by decide +kernel
theorem dd_Mo_put_26 : decode bb_Mo_put 26 = .ok (.iload_n 3, 1) := by decide +kernel
theorem dd_Mo_put_27 : decode bb_Mo_put 27 = .ok (.sipush 9999, 3) := by decide +kernel
theorem dd_Mo_put_30 : decode bb_Mo_put 30 = .ok (.if_icmp .le 7, 3) := by decide +kernel
theorem dd_Mo_put_33 : decode bb_Mo_put 33 = .ok (.sipush 10000, 3) := by decide +kernel
theorem dd_Mo_put_36 : decode bb_Mo_put 36 = .ok (.ireturn, 1) := by decide +kernel
theorem dd_Mo_put_37 : decode bb_Mo_put 37 = .ok (.aload_n 0, 1) := by decide +kernel
theorem dd_Mo_put_38 : decode bb_Mo_put 38 = .ok (.getfield 13, 3) := by decide +kernel
theorem dd_Mo_put_41 : decode bb_Mo_put 41 = .ok (.iconst 4, 1) := by decide +kernel
theorem dd_Mo_put_42 : decode bb_Mo_put 42 = .ok (.iload_n 1, 1) := by decide +kernel
theorem dd_Mo_put_43 : decode bb_Mo_put 43 = .ok (.imul, 1) := by decide +kernel
theorem dd_Mo_put_44 : decode bb_Mo_put 44 = .ok (.iload_n 2, 1) := by decide +kernel
theorem dd_Mo_put_45 : decode bb_Mo_put 45 = .ok (.iadd, 1) := by decide +kernel
theorem dd_Mo_put_46 : decode bb_Mo_put 46 = .ok (.iaload, 1) := by decide +kernel
theorem dd_Mo_put_47 : decode bb_Mo_put 47 = .ok (.istore 4, 2) := by decide +kernel
theorem dd_Mo_put_49 : decode bb_Mo_put 49 = .ok (.aload_n 0, 1) := by decide +kernel
theorem dd_Mo_put_50 : decode bb_Mo_put 50 = .ok (.getfield 13, 3) := by decide +kernel
theorem dd_Mo_put_53 : decode bb_Mo_put 53 = .ok (.iconst 4, 1) := by decide +kernel
theorem dd_Mo_put_54 : decode bb_Mo_put 54 = .ok (.iload_n 1, 1) := by decide +kernel
theorem dd_Mo_put_55 : decode bb_Mo_put 55 = .ok (.imul, 1) := by decide +kernel
theorem dd_Mo_put_56 : decode bb_Mo_put 56 = .ok (.iload_n 2, 1) := by decide +kernel
theorem dd_Mo_put_57 : decode bb_Mo_put 57 = .ok (.iadd, 1) := by decide +kernel
theorem dd_Mo_put_58 : decode bb_Mo_put 58 = .ok (.iload_n 3, 1) := by decide +kernel
theorem dd_Mo_put_59 : decode bb_Mo_put 59 = .ok (.iastore, 1) := by decide +kernel
theorem dd_Mo_put_60 : decode bb_Mo_put 60 = .ok (.aload_n 0, 1) := by decide +kernel
theorem dd_Mo_put_61 : decode bb_Mo_put 61 = .ok (.invokevirtual 540, 3) := by decide +kernel
theorem dd_Mo_put_64 : decode bb_Mo_put 64 = .ok (.iload 4, 2) := by decide +kernel
theorem dd_Mo_put_66 : decode bb_Mo_put 66 = .ok (.ireturn, 1) := by decide +kernel
set_option maxRecDepth 100000 in
set_option maxHeartbeats 4000000 in
theorem t_Mo_put_33  (X : zX p s m args cd D cid B bb_Mo_put 5 rr_Mo zT) (H : zH s meth B n0 (some (.int)) "put") {nf : Nat}  {c : Zc} {res : Int32 × Zc} (h : f_Mo_put_33 nf  c = some res) : Zz p l e (zRm 1 21 0 0) s m args below meth cd (MQ below (zQi D cid B res.1 res.2 n0 0) args s 0 0 (fun q => B ≤ q)) D cid B 5 0 0 c 33 [] [] := by
  unfold f_Mo_put_33 at h
  refine z_sipush (v := 10000) X dd_Mo_put_33 (by decide) ?_
  obtain rfl := Option.some.inj h
  exact z_iret X H.1 H.2.1 H.2.2.1 dd_Mo_put_36
set_option maxRecDepth 100000 in
set_option maxHeartbeats 4000000 in
theorem c_Mo_put (l : Launch) {nf : Nat} {a0 : Nat} {a1 : Int32} {a2 : Int32} {a3 : Int32} {c : Zc} {res : Int32 × Zc} (h : f_Mo_put nf a0 a1 a2 a3 c = some res) : zM l yy_Mo_put ww_Mo_put 1 21 0 0 [.ref a0, .int a1, .int a2, .int a3] c (fun D cid B => zQi D cid B res.1 res.2 c.length 0) := by
  refine z_met (cc := bb_Mo_put) (maxL := 5) (ret := (some (.int))) (by decide +kernel) rfl (Nat.le_of_ble_eq_true rfl) ?_
  intro p e s m args below meth cd D cid B X h1 h2 h3 h4
  have X : zX p s m args cd D cid B bb_Mo_put 5 rr_Mo zT := X
  have H : zH s meth B c.length (some (.int)) "put" := ⟨h1, h2, h4, h3⟩
  unfold f_Mo_put at h
  show Zz p l e (zRm 1 21 0 0) s m args below meth cd _ D cid B 5 0 0 c 0 [(0, .ref a0), (1, .int a1), (2, .int a2), (3, .int a3)] []
  refine z_iload_n X dd_Mo_put_0 rfl 1 rfl ?_
  refine z_aload_n X dd_Mo_put_1 rfl 0 rfl ?_
  obtain ⟨v1, ev1, h⟩ := zb h
  refine z_get (j := 0) X dd_Mo_put_2 kc_12 ki_12 (by decide) km_1521 (zgi_v ev1) ?_
  obtain ⟨q2, eq2, h⟩ := zb h
  refine z_callSi X [.int a1, .int v1] rfl dd_Mo_put_5 (c_Mo_isIn l eq2) (va_cwS 2 X.1.2.2.2.2 (zg_S km_1809 km_1810 km_138 km_1811) rfl rfl rfl (by decide +kernel) ⟨Nat.le_of_ble_eq_true rfl, Nat.le_of_ble_eq_true rfl⟩) rfl (Nat.le_of_ble_eq_true rfl) ⟨Nat.le_of_ble_eq_true rfl, Nat.le_of_ble_eq_true rfl⟩ ?_
  refine z_if_eq (tgt := 33) X dd_Mo_put_8 (by decide) (fun q3 => ?_) (fun q3 => ?_)
  · rw [if_pos q3] at h
    refine z_sub [] rfl ?_
    exact t_Mo_put_33 X H h
  · rw [if_neg q3] at h
    refine z_iload_n X dd_Mo_put_11 rfl 2 rfl ?_
    refine z_iconst (v := 4) X dd_Mo_put_12 (by decide) ?_
    obtain ⟨q4, eq4, h⟩ := zb h
    refine z_callSi X [.int a2, .int 4] rfl dd_Mo_put_13 (c_Mo_isIn l eq4) (va_cwS 2 X.1.2.2.2.2 (zg_S km_1809 km_1810 km_138 km_1811) rfl rfl rfl (by decide +kernel) ⟨Nat.le_of_ble_eq_true rfl, Nat.le_of_ble_eq_true rfl⟩) rfl (Nat.le_of_ble_eq_true rfl) ⟨Nat.le_of_ble_eq_true rfl, Nat.le_of_ble_eq_true rfl⟩ ?_
    refine z_if_eq (tgt := 33) X dd_Mo_put_16 (by decide) (fun q5 => ?_) (fun q5 => ?_)
    · rw [if_pos q5] at h
      refine z_sub [] rfl ?_
      exact t_Mo_put_33 X H h
    · rw [if_neg q5] at h
      refine z_iload_n X dd_Mo_put_19 rfl 3 rfl ?_
      refine z_sipush (v := (-9999)) X dd_Mo_put_20 (by decide) ?_
      refine z_icmp_lt (tgt := 33) X dd_Mo_put_23 (by decide) (fun q6 => ?_) (fun q6 => ?_)
      · rw [if_pos q6] at h
        refine z_sub [] rfl ?_
        exact t_Mo_put_33 X H h
      · rw [if_neg q6] at h
        refine z_iload_n X dd_Mo_put_26 rfl 3 rfl ?_
        refine z_sipush (v := 9999) X dd_Mo_put_27 (by decide) ?_
        refine z_icmp_le (tgt := 37) X dd_Mo_put_30 (by decide) (fun q7 => ?_) (fun q7 => ?_)
        · rw [if_pos q7] at h
          refine z_aload_n X dd_Mo_put_37 rfl 0 rfl ?_
          obtain ⟨v8, ev8, h⟩ := zb h
          refine z_get (j := 2) X dd_Mo_put_38 kc_12 ki_12 (by decide) km_1523 (zgr_v ev8) ?_
          refine z_iconst (v := 4) X dd_Mo_put_41 (by decide) ?_
          refine z_iload_n X dd_Mo_put_42 rfl 1 rfl ?_
          refine z_imul X dd_Mo_put_43 ?_
          refine z_iload_n X dd_Mo_put_44 rfl 2 rfl ?_
          refine z_iadd X dd_Mo_put_45 ?_
          obtain ⟨v9, ev9, h⟩ := zb h
          refine z_iaload X dd_Mo_put_46 rfl ev9 ?_
          refine z_istore (lv' := [(4, .int v9), (0, .ref a0), (1, .int a1), (2, .int a2), (3, .int a3)]) X dd_Mo_put_47 (by decide) rfl ?_
          refine z_aload_n X dd_Mo_put_49 rfl 1 rfl ?_
          obtain ⟨v10, ev10, h⟩ := zb h
          refine z_get (j := 2) X dd_Mo_put_50 kc_12 ki_12 (by decide) km_1523 (zgr_v ev10) ?_
          refine z_iconst (v := 4) X dd_Mo_put_53 (by decide) ?_
          refine z_iload_n X dd_Mo_put_54 rfl 2 rfl ?_
          refine z_imul X dd_Mo_put_55 ?_
          refine z_iload_n X dd_Mo_put_56 rfl 3 rfl ?_
          refine z_iadd X dd_Mo_put_57 ?_
          refine z_iload_n X dd_Mo_put_58 rfl 4 rfl ?_
          obtain ⟨c11, ec11, h⟩ := zb h
          refine z_iastore X dd_Mo_put_59 rfl ec11 ?_
          refine z_aload_n X dd_Mo_put_60 rfl 1 rfl ?_
          obtain ⟨w13, ew13, h⟩ := zb h
          obtain ⟨q12, eq12, h⟩ := zb h
          refine z_callVv X [] rfl dd_Mo_put_61 (c_Mo_changed l eq12) (cwV 0 X.1.2.2.2.2 (zg_V km_1812 km_1814 km_60 km_138 km_1815) rfl rfl rfl (by decide +kernel) ⟨Nat.le_of_ble_eq_true rfl, Nat.le_of_ble_eq_true rfl⟩) (zob_s ew13) kc_12 rfl (Nat.le_of_ble_eq_true rfl) ⟨Nat.le_of_ble_eq_true rfl, Nat.le_of_ble_eq_true rfl⟩ ?_
          refine z_iload X dd_Mo_put_64 0 rfl ?_
          obtain rfl := Option.some.inj h
          exact z_iret X H.1 H.2.1 H.2.2.1 dd_Mo_put_66
        · rw [if_neg q7] at h
          refine z_sub [] rfl ?_
          exact t_Mo_put_33 X H h
theorem dd_Mo_arc_0 : decode bb_Mo_arc 0 = .ok (.iload_n 1, 1) := by decide +kernel
theorem dd_Mo_arc_1 : decode bb_Mo_arc 1 = .ok (.aload_n 0, 1) := by decide +kernel
theorem dd_Mo_arc_2 : decode bb_Mo_arc 2 = .ok (.getfield 450, 3) := by decide +kernel
theorem dd_Mo_arc_5 : decode bb_Mo_arc 5 = .ok (.invokestatic 536, 3) := by decide +kernel
theorem dd_Mo_arc_8 : decode bb_Mo_arc 8 = .ok (.ifCond .eq 33, 3) := by decide +kernel
theorem dd_Mo_arc_11 : decode bb_Mo_arc 11 = .ok (.iload_n 2, 1) := by decide +kernel
theorem dd_Mo_arc_12 : decode bb_Mo_arc 12 = .ok (.aload_n 0, 1) := by decide +kernel
theorem dd_Mo_arc_13 : decode bb_Mo_arc 13 = .ok (.getfield 450, 3) := by decide +kernel
theorem dd_Mo_arc_16 : decode bb_Mo_arc 16 = .ok (.invokestatic 536, 3) := by decide +kernel
theorem dd_Mo_arc_19 : decode bb_Mo_arc 19 = .ok (.ifCond .eq 22, 3) := by decide +kernel
theorem dd_Mo_arc_22 : decode bb_Mo_arc 22 = .ok (.iload_n 3, 1) := by decide +kernel
theorem dd_Mo_arc_23 : decode bb_Mo_arc 23 = .ok (.bipush 8, 2) := by decide +kernel
theorem dd_Mo_arc_25 : decode bb_Mo_arc 25 = .ok (.invokestatic 536, 3) := by decide +kernel
theorem dd_Mo_arc_28 : decode bb_Mo_arc 28 = .ok (.ifCond .eq 13, 3) := by decide +kernel
theorem dd_Mo_arc_31 : decode bb_Mo_arc 31 = .ok (.iload 4, 2) := by decide +kernel
theorem dd_Mo_arc_33 : decode bb_Mo_arc 33 = .ok (.bipush 100, 2) := by decide +kernel
theorem dd_Mo_arc_35 : decode bb_Mo_arc 35 = .ok (.invokestatic 536, 3) := by decide +kernel
theorem dd_Mo_arc_38 : decode bb_Mo_arc 38 = .ok (.ifCond .ne 5, 3) := by decide +kernel
theorem dd_Mo_arc_41 : decode bb_Mo_arc 41 = .ok (.iconst (-1), 1) := by decide +kernel
theorem dd_Mo_arc_42 : decode bb_Mo_arc 42 = .ok (.ireturn, 1) := by decide +kernel
theorem dd_Mo_arc_43 : decode bb_Mo_arc 43 = .ok (.aload_n 0, 1) := by decide +kernel
theorem dd_Mo_arc_44 : decode bb_Mo_arc 44 = .ok (.getfield 543, 3) := by decide +kernel
theorem dd_Mo_arc_47 : decode bb_Mo_arc 47 = .ok (.bipush 100, 2) := by decide +kernel
theorem dd_Mo_arc_49 : decode bb_Mo_arc 49 = .ok (.if_icmp .ne 6, 3) := by decide +kernel
theorem dd_Mo_arc_52 : decode bb_Mo_arc 52 = .ok (.bipush (-3), 2) := by decide +kernel
theorem dd_Mo_arc_54 : decode bb_Mo_arc 54 = .ok (.ireturn, 1) := by decide +kernel
theorem dd_Mo_arc_55 : decode bb_Mo_arc 55 = .ok (.iconst 0, 1) := by decide +kernel
theorem dd_Mo_arc_56 : decode bb_Mo_arc 56 = .ok (.istore 5, 2) := by decide +kernel
theorem dd_Mo_arc_58 : decode bb_Mo_arc 58 = .ok (.aload_n 0, 1) := by decide +kernel
theorem dd_Mo_arc_59 : decode bb_Mo_arc 59 = .ok (.getfield 16, 3) := by decide +kernel
theorem dd_Mo_arc_62 : decode bb_Mo_arc 62 = .ok (.iload 5, 2) := by decide +kernel
theorem dd_Mo_arc_64 : decode bb_Mo_arc 64 = .ok (.baload, 1) := by decide +kernel
theorem dd_Mo_arc_65 : decode bb_Mo_arc 65 = .ok (.ifCond .eq 9, 3) := by decide +kernel
theorem dd_Mo_arc_68 : decode bb_Mo_arc 68 = .ok (.iinc 5 1, 3) := by decide +kernel
theorem dd_Mo_arc_71 : decode bb_Mo_arc 71 = .ok (.goto (-13), 3) := by decide +kernel
theorem dd_Mo_arc_74 : decode bb_Mo_arc 74 = .ok (.aload_n 0, 1) := by decide +kernel
theorem dd_Mo_arc_75 : decode bb_Mo_arc 75 = .ok (.getfield 16, 3) := by decide +kernel
theorem dd_Mo_arc_78 : decode bb_Mo_arc 78 = .ok (.iload 5, 2) := by decide +kernel
theorem dd_Mo_arc_80 : decode bb_Mo_arc 80 = .ok (.iconst 1, 1) := by decide +kernel
theorem dd_Mo_arc_81 : decode bb_Mo_arc 81 = .ok (.bastore, 1) := by decide +kernel
theorem dd_Mo_arc_82 : decode bb_Mo_arc 82 = .ok (.aload_n 0, 1) := by decide +kernel
theorem dd_Mo_arc_83 : decode bb_Mo_arc 83 = .ok (.getfield 20, 3) := by decide +kernel
theorem dd_Mo_arc_86 : decode bb_Mo_arc 86 = .ok (.iload 5, 2) := by decide +kernel
theorem dd_Mo_arc_88 : decode bb_Mo_arc 88 = .ok (.iload_n 1, 1) := by decide +kernel
theorem dd_Mo_arc_89 : decode bb_Mo_arc 89 = .ok (.iastore, 1) := by decide +kernel
theorem dd_Mo_arc_90 : decode bb_Mo_arc 90 = .ok (.aload_n 0, 1) := by decide +kernel
theorem dd_Mo_arc_91 : decode bb_Mo_arc 91 = .ok (.getfield 23, 3) := by decide +kernel
theorem dd_Mo_arc_94 : decode bb_Mo_arc 94 = .ok (.iload 5, 2) := by decide +kernel
theorem dd_Mo_arc_96 : decode bb_Mo_arc 96 = .ok (.iload_n 2, 1) := by decide +kernel
theorem dd_Mo_arc_97 : decode bb_Mo_arc 97 = .ok (.iastore, 1) := by decide +kernel
theorem dd_Mo_arc_98 : decode bb_Mo_arc 98 = .ok (.aload_n 0, 1) := by decide +kernel
theorem dd_Mo_arc_99 : decode bb_Mo_arc 99 = .ok (.getfield 26, 3) := by decide +kernel
theorem dd_Mo_arc_102 : decode bb_Mo_arc 102 = .ok (.iload 5, 2) := by decide +kernel
theorem dd_Mo_arc_104 : decode bb_Mo_arc 104 = .ok (.iload_n 3, 1) := by decide +kernel
theorem dd_Mo_arc_105 : decode bb_Mo_arc 105 = .ok (.iastore, 1) := by decide +kernel
theorem dd_Mo_arc_106 : decode bb_Mo_arc 106 = .ok (.aload_n 0, 1) := by decide +kernel
theorem dd_Mo_arc_107 : decode bb_Mo_arc 107 = .ok (.getfield 29, 3) := by decide +kernel
theorem dd_Mo_arc_110 : decode bb_Mo_arc 110 = .ok (.iload 5, 2) := by decide +kernel
theorem dd_Mo_arc_112 : decode bb_Mo_arc 112 = .ok (.iload 4, 2) := by decide +kernel
theorem dd_Mo_arc_114 : decode bb_Mo_arc 114 = .ok (.iastore, 1) := by decide +kernel
theorem dd_Mo_arc_115 : decode bb_Mo_arc 115 = .ok (.aload_n 0, 1) := by decide +kernel
theorem dd_Mo_arc_116 : decode bb_Mo_arc 116 = .ok (.dup, 1) := by decide +kernel
theorem dd_Mo_arc_117 : decode bb_Mo_arc 117 = .ok (.getfield 543, 3) := by decide +kernel
theorem dd_Mo_arc_120 : decode bb_Mo_arc 120 = .ok (.iconst 1, 1) := by decide +kernel
theorem dd_Mo_arc_121 : decode bb_Mo_arc 121 = .ok (.iadd, 1) := by decide +kernel
theorem dd_Mo_arc_122 : decode bb_Mo_arc 122 = .ok (.putfield 543, 3) := by decide +kernel
theorem dd_Mo_arc_125 : decode bb_Mo_arc 125 = .ok (.aload_n 0, 1) := by decide +kernel
theorem dd_Mo_arc_126 : decode bb_Mo_arc 126 = .ok (.invokevirtual 540, 3) := by decide +kernel
theorem dd_Mo_arc_129 : decode bb_Mo_arc 129 = .ok (.iload 5, 2) := by decide +kernel
theorem dd_Mo_arc_131 : decode bb_Mo_arc 131 = .ok (.ireturn, 1) := by decide +kernel
set_option maxRecDepth 100000 in
set_option maxHeartbeats 4000000 in
theorem t_Mo_arc_41  (X : zX p s m args cd D cid B bb_Mo_arc 6 rr_Mo zT) (H : zH s meth B n0 (some (.int)) "arc") {nf : Nat}  {c : Zc} {res : Int32 × Zc} (h : f_Mo_arc_41 nf  c = some res) : Zz p l e (zRm 1 21 0 0) s m args below meth cd (MQ below (zQi D cid B res.1 res.2 n0 0) args s 0 0 (fun q => B ≤ q)) D cid B 6 0 0 c 41 [] [] := by
  unfold f_Mo_arc_41 at h
  refine z_iconst (v := (-1)) X dd_Mo_arc_41 (by decide) ?_
  obtain rfl := Option.some.inj h
  exact z_iret X H.1 H.2.1 H.2.2.1 dd_Mo_arc_42
set_option maxRecDepth 100000 in
set_option maxHeartbeats 4000000 in
theorem u_Mo_arc_58  (X : zX p s m args cd D cid B bb_Mo_arc 6 rr_Mo zT) (H : zH s meth B n0 (some (.int)) "arc") {nf : Nat} {x0 : Nat} {x1 : Int32} {x2 : Int32} {x3 : Int32} {x4 : Int32} {x5 : Int32} {c : Zc} {r : (Nat × Int32 × Int32 × Int32 × Int32 × Int32 × Zc) ⊕ (Nat × Int32 × Int32 × Int32 × Int32 × Int32 × Zc)} (h : g_Mo_arc_58 nf x0 x1 x2 x3 x4 x5 c = some r) (k0 : ∀ a, r = .inl a → (fun a : Nat × Int32 × Int32 × Int32 × Int32 × Int32 × Zc => Zz p l e (zRm 1 21 0 0) s m args below meth cd Q D cid B 6 0 0 a.2.2.2.2.2.2 58 [(0, .ref a.1), (1, .int a.2.1), (2, .int a.2.2.1), (3, .int a.2.2.2.1), (4, .int a.2.2.2.2.1), (5, .int a.2.2.2.2.2.1)] []) a) (k1 : ∀ b, r = .inr b → (fun b : Nat × Int32 × Int32 × Int32 × Int32 × Int32 × Zc => Zz p l e (zRm 1 21 0 0) s m args below meth cd Q D cid B 6 0 0 b.2.2.2.2.2.2 74 [(0, .ref b.1), (1, .int b.2.1), (2, .int b.2.2.1), (3, .int b.2.2.2.1), (4, .int b.2.2.2.2.1), (5, .int b.2.2.2.2.2.1)] []) b) : Zz p l e (zRm 1 21 0 0) s m args below meth cd Q D cid B 6 0 0 c 58 [(0, .ref x0), (1, .int x1), (2, .int x2), (3, .int x3), (4, .int x4), (5, .int x5)] [] := by
  unfold g_Mo_arc_58 at h
  refine z_aload_n X dd_Mo_arc_58 rfl 0 rfl ?_
  obtain ⟨v13, ev13, h⟩ := zb h
  refine z_get (j := 3) X dd_Mo_arc_59 kc_12 ki_12 (by decide) km_1524 (zgr_v ev13) ?_
  refine z_iload X dd_Mo_arc_62 5 rfl ?_
  obtain ⟨v14, ev14, h⟩ := zb h
  refine z_zaload X dd_Mo_arc_64 rfl ev14 ?_
  refine z_if_eq (tgt := 74) X dd_Mo_arc_65 (by decide) (fun q15 => ?_) (fun q15 => ?_)
  · rw [if_pos q15] at h
    obtain rfl := Option.some.inj h
    exact k1 _ rfl
  · rw [if_neg q15] at h
    refine z_iinc (v := (x5 + 1)) (lv' := [(5, .int (x5 + 1)), (0, .ref x0), (1, .int x1), (2, .int x2), (3, .int x3), (4, .int x4)]) X dd_Mo_arc_68 5 rfl rfl (by decide) rfl ?_
    refine z_goto (tgt := 58) X dd_Mo_arc_71 (by decide) ?_
    refine z_sub [1, 2, 3, 4, 5, 0] rfl ?_
    obtain rfl := Option.some.inj h
    exact k0 _ rfl
set_option maxRecDepth 100000 in
set_option maxHeartbeats 4000000 in
theorem t_Mo_arc_58  (X : zX p s m args cd D cid B bb_Mo_arc 6 rr_Mo zT) (H : zH s meth B n0 (some (.int)) "arc") {nf : Nat} {x0 : Nat} {x1 : Int32} {x2 : Int32} {x3 : Int32} {x4 : Int32} {x5 : Int32} {c : Zc} {res : Int32 × Zc} (h : f_Mo_arc_58 nf x0 x1 x2 x3 x4 x5 c = some res) : Zz p l e (zRm 1 21 0 0) s m args below meth cd (MQ below (zQi D cid B res.1 res.2 n0 0) args s 0 0 (fun q => B ≤ q)) D cid B 6 0 0 c 58 [(0, .ref x0), (1, .int x1), (2, .int x2), (3, .int x3), (4, .int x4), (5, .int x5)] [] := by
  unfold f_Mo_arc_58 at h
  obtain ⟨b, eb, h⟩ := zb h
  refine zlp_ok (P := fun a : Nat × Int32 × Int32 × Int32 × Int32 × Int32 × Zc => Zz p l e (zRm 1 21 0 0) s m args below meth cd _ D cid B 6 0 0 a.2.2.2.2.2.2 58 [(0, .ref a.1), (1, .int a.2.1), (2, .int a.2.2.1), (3, .int a.2.2.2.1), (4, .int a.2.2.2.2.1), (5, .int a.2.2.2.2.2.1)] []) (G := fun b : Nat × Int32 × Int32 × Int32 × Int32 × Int32 × Zc => Zz p l e (zRm 1 21 0 0) s m args below meth cd _ D cid B 6 0 0 b.2.2.2.2.2.2 74 [(0, .ref b.1), (1, .int b.2.1), (2, .int b.2.2.1), (3, .int b.2.2.2.1), (4, .int b.2.2.2.2.1), (5, .int b.2.2.2.2.2.1)] []) (fun a r ha k0 k1 => u_Mo_arc_58 X H ha k0 k1) nf _ b eb ?_
  refine z_aload_n X dd_Mo_arc_74 rfl 0 rfl ?_
  obtain ⟨v16, ev16, h⟩ := zb h
  refine z_get (j := 3) X dd_Mo_arc_75 kc_12 ki_12 (by decide) km_1524 (zgr_v ev16) ?_
  refine z_iload X dd_Mo_arc_78 5 rfl ?_
  refine z_iconst (v := 1) X dd_Mo_arc_80 (by decide) ?_
  obtain ⟨c17, ec17, h⟩ := zb h
  refine z_zastore X dd_Mo_arc_81 rfl ec17 ?_
  refine z_aload_n X dd_Mo_arc_82 rfl 0 rfl ?_
  obtain ⟨v18, ev18, h⟩ := zb h
  refine z_get (j := 4) X dd_Mo_arc_83 kc_12 ki_12 (by decide) km_1525 (zgr_v ev18) ?_
  refine z_iload X dd_Mo_arc_86 5 rfl ?_
  refine z_iload_n X dd_Mo_arc_88 rfl 1 rfl ?_
  obtain ⟨c19, ec19, h⟩ := zb h
  refine z_iastore X dd_Mo_arc_89 rfl ec19 ?_
  refine z_aload_n X dd_Mo_arc_90 rfl 0 rfl ?_
  obtain ⟨v20, ev20, h⟩ := zb h
  refine z_get (j := 5) X dd_Mo_arc_91 kc_12 ki_12 (by decide) km_1526 (zgr_v ev20) ?_
  refine z_iload X dd_Mo_arc_94 5 rfl ?_
  refine z_iload_n X dd_Mo_arc_96 rfl 2 rfl ?_
  obtain ⟨c21, ec21, h⟩ := zb h
  refine z_iastore X dd_Mo_arc_97 rfl ec21 ?_
  refine z_aload_n X dd_Mo_arc_98 rfl 0 rfl ?_
  obtain ⟨v22, ev22, h⟩ := zb h
  refine z_get (j := 6) X dd_Mo_arc_99 kc_12 ki_12 (by decide) km_1527 (zgr_v ev22) ?_
  refine z_iload X dd_Mo_arc_102 5 rfl ?_
  refine z_iload_n X dd_Mo_arc_104 rfl 3 rfl ?_
  obtain ⟨c23, ec23, h⟩ := zb h
  refine z_iastore X dd_Mo_arc_105 rfl ec23 ?_
  refine z_aload_n X dd_Mo_arc_106 rfl 0 rfl ?_
  obtain ⟨v24, ev24, h⟩ := zb h
  refine z_get (j := 7) X dd_Mo_arc_107 kc_12 ki_12 (by decide) km_1528 (zgr_v ev24) ?_
  refine z_iload X dd_Mo_arc_110 5 rfl ?_
  refine z_iload X dd_Mo_arc_112 4 rfl ?_
  obtain ⟨c25, ec25, h⟩ := zb h
  refine z_iastore X dd_Mo_arc_114 rfl ec25 ?_
  refine z_aload_n X dd_Mo_arc_115 rfl 0 rfl ?_
  refine z_dup X dd_Mo_arc_116 rfl ?_
  obtain ⟨v26, ev26, h⟩ := zb h
  refine z_get (j := 8) X dd_Mo_arc_117 kc_12 ki_12 (by decide) km_1529 (zgi_v ev26) ?_
  refine z_iconst (v := 1) X dd_Mo_arc_120 (by decide) ?_
  refine z_iadd X dd_Mo_arc_121 ?_
  obtain ⟨c27, ec27, h⟩ := zb h
  refine z_put (j := 8) X dd_Mo_arc_122 kc_12 ki_12 tt_Mo tk_Mo nn_Mo (by decide) km_1529 rfl (tk_Mo 8 (by decide)) rfl rfl ec27 ?_
  refine z_aload_n X dd_Mo_arc_125 rfl 0 rfl ?_
  obtain ⟨w29, ew29, h⟩ := zb h
  obtain ⟨q28, eq28, h⟩ := zb h
  refine z_callVv X [] rfl dd_Mo_arc_126 (c_Mo_changed l eq28) (cwV 0 X.1.2.2.2.2 (zg_V km_1812 km_1814 km_60 km_138 km_1815) rfl rfl rfl (by decide +kernel) ⟨Nat.le_of_ble_eq_true rfl, Nat.le_of_ble_eq_true rfl⟩) (zob_s ew29) kc_12 rfl (Nat.le_of_ble_eq_true rfl) ⟨Nat.le_of_ble_eq_true rfl, Nat.le_of_ble_eq_true rfl⟩ ?_
  refine z_iload X dd_Mo_arc_129 5 rfl ?_
  obtain rfl := Option.some.inj h
  exact z_iret X H.1 H.2.1 H.2.2.1 dd_Mo_arc_131
set_option maxRecDepth 100000 in
set_option maxHeartbeats 4000000 in
theorem c_Mo_arc (l : Launch) {nf : Nat} {a0 : Nat} {a1 : Int32} {a2 : Int32} {a3 : Int32} {a4 : Int32} {c : Zc} {res : Int32 × Zc} (h : f_Mo_arc nf a0 a1 a2 a3 a4 c = some res) : zM l yy_Mo_arc ww_Mo_arc 1 21 0 0 [.ref a0, .int a1, .int a2, .int a3, .int a4] c (fun D cid B => zQi D cid B res.1 res.2 c.length 0) := by
  refine z_met (cc := bb_Mo_arc) (maxL := 6) (ret := (some (.int))) (by decide +kernel) rfl (Nat.le_of_ble_eq_true rfl) ?_
  intro p e s m args below meth cd D cid B X h1 h2 h3 h4
  have X : zX p s m args cd D cid B bb_Mo_arc 6 rr_Mo zT := X
  have H : zH s meth B c.length (some (.int)) "arc" := ⟨h1, h2, h4, h3⟩
  unfold f_Mo_arc at h
  show Zz p l e (zRm 1 21 0 0) s m args below meth cd _ D cid B 6 0 0 c 0 [(0, .ref a0), (1, .int a1), (2, .int a2), (3, .int a3), (4, .int a4)] []
  refine z_iload_n X dd_Mo_arc_0 rfl 1 rfl ?_
  refine z_aload_n X dd_Mo_arc_1 rfl 0 rfl ?_
  obtain ⟨v1, ev1, h⟩ := zb h
  refine z_get (j := 0) X dd_Mo_arc_2 kc_12 ki_12 (by decide) km_1521 (zgi_v ev1) ?_
  obtain ⟨q2, eq2, h⟩ := zb h
  refine z_callSi X [.int a1, .int v1] rfl dd_Mo_arc_5 (c_Mo_isIn l eq2) (va_cwS 2 X.1.2.2.2.2 (zg_S km_1809 km_1810 km_138 km_1811) rfl rfl rfl (by decide +kernel) ⟨Nat.le_of_ble_eq_true rfl, Nat.le_of_ble_eq_true rfl⟩) rfl (Nat.le_of_ble_eq_true rfl) ⟨Nat.le_of_ble_eq_true rfl, Nat.le_of_ble_eq_true rfl⟩ ?_
  refine z_if_eq (tgt := 41) X dd_Mo_arc_8 (by decide) (fun q3 => ?_) (fun q3 => ?_)
  · rw [if_pos q3] at h
    refine z_sub [] rfl ?_
    exact t_Mo_arc_41 X H h
  · rw [if_neg q3] at h
    refine z_iload_n X dd_Mo_arc_11 rfl 2 rfl ?_
    refine z_aload_n X dd_Mo_arc_12 rfl 0 rfl ?_
    obtain ⟨v4, ev4, h⟩ := zb h
    refine z_get (j := 0) X dd_Mo_arc_13 kc_12 ki_12 (by decide) km_1521 (zgi_v ev4) ?_
    obtain ⟨q5, eq5, h⟩ := zb h
    refine z_callSi X [.int a2, .int v4] rfl dd_Mo_arc_16 (c_Mo_isIn l eq5) (va_cwS 2 X.1.2.2.2.2 (zg_S km_1809 km_1810 km_138 km_1811) rfl rfl rfl (by decide +kernel) ⟨Nat.le_of_ble_eq_true rfl, Nat.le_of_ble_eq_true rfl⟩) rfl (Nat.le_of_ble_eq_true rfl) ⟨Nat.le_of_ble_eq_true rfl, Nat.le_of_ble_eq_true rfl⟩ ?_
    refine z_if_eq (tgt := 41) X dd_Mo_arc_19 (by decide) (fun q6 => ?_) (fun q6 => ?_)
    · rw [if_pos q6] at h
      refine z_sub [] rfl ?_
      exact t_Mo_arc_41 X H h
    · rw [if_neg q6] at h
      refine z_iload_n X dd_Mo_arc_22 rfl 3 rfl ?_
      refine z_bipush (v := 8) X dd_Mo_arc_23 (by decide) ?_
      obtain ⟨q7, eq7, h⟩ := zb h
      refine z_callSi X [.int a3, .int 8] rfl dd_Mo_arc_25 (c_Mo_isIn l eq7) (va_cwS 2 X.1.2.2.2.2 (zg_S km_1809 km_1810 km_138 km_1811) rfl rfl rfl (by decide +kernel) ⟨Nat.le_of_ble_eq_true rfl, Nat.le_of_ble_eq_true rfl⟩) rfl (Nat.le_of_ble_eq_true rfl) ⟨Nat.le_of_ble_eq_true rfl, Nat.le_of_ble_eq_true rfl⟩ ?_
      refine z_if_eq (tgt := 41) X dd_Mo_arc_28 (by decide) (fun q8 => ?_) (fun q8 => ?_)
      · rw [if_pos q8] at h
        refine z_sub [] rfl ?_
        exact t_Mo_arc_41 X H h
      · rw [if_neg q8] at h
        refine z_iload X dd_Mo_arc_31 4 rfl ?_
        refine z_bipush (v := 100) X dd_Mo_arc_33 (by decide) ?_
        obtain ⟨q9, eq9, h⟩ := zb h
        refine z_callSi X [.int a4, .int 100] rfl dd_Mo_arc_35 (c_Mo_isIn l eq9) (va_cwS 2 X.1.2.2.2.2 (zg_S km_1809 km_1810 km_138 km_1811) rfl rfl rfl (by decide +kernel) ⟨Nat.le_of_ble_eq_true rfl, Nat.le_of_ble_eq_true rfl⟩) rfl (Nat.le_of_ble_eq_true rfl) ⟨Nat.le_of_ble_eq_true rfl, Nat.le_of_ble_eq_true rfl⟩ ?_
        refine z_if_ne (tgt := 43) X dd_Mo_arc_38 (by decide) (fun q10 => ?_) (fun q10 => ?_)
        · rw [if_neg q10] at h
          refine z_aload_n X dd_Mo_arc_43 rfl 0 rfl ?_
          obtain ⟨v11, ev11, h⟩ := zb h
          refine z_get (j := 8) X dd_Mo_arc_44 kc_12 ki_12 (by decide) km_1529 (zgi_v ev11) ?_
          refine z_bipush (v := 100) X dd_Mo_arc_47 (by decide) ?_
          refine z_icmp_ne (tgt := 55) X dd_Mo_arc_49 (by decide) (fun q12 => ?_) (fun q12 => ?_)
          · rw [if_neg q12] at h
            refine z_iconst (v := 0) X dd_Mo_arc_55 (by decide) ?_
            refine z_istore (lv' := [(5, .int 0), (0, .ref a0), (1, .int a1), (2, .int a2), (3, .int a3), (4, .int a4)]) X dd_Mo_arc_56 (by decide) rfl ?_
            refine z_sub [1, 2, 3, 4, 5, 0] rfl ?_
            exact t_Mo_arc_58 X H h
          · rw [if_pos q12] at h
            refine z_bipush (v := (-3)) X dd_Mo_arc_52 (by decide) ?_
            obtain rfl := Option.some.inj h
            exact z_iret X H.1 H.2.1 H.2.2.1 dd_Mo_arc_54
        · rw [if_pos q10] at h
          refine z_sub [] rfl ?_
          exact t_Mo_arc_41 X H h
theorem dd_Mo_drop_0 : decode bb_Mo_drop 0 = .ok (.iload_n 1, 1) := by decide +kernel
theorem dd_Mo_drop_1 : decode bb_Mo_drop 1 = .ok (.bipush 100, 2) := by decide +kernel
theorem dd_Mo_drop_3 : decode bb_Mo_drop 3 = .ok (.invokestatic 536, 3) := by decide +kernel
theorem dd_Mo_drop_6 : decode bb_Mo_drop 6 = .ok (.ifCond .eq 12, 3) := by decide +kernel
theorem dd_Mo_drop_9 : decode bb_Mo_drop 9 = .ok (.aload_n 0, 1) := by decide +kernel
theorem dd_Mo_drop_10 : decode bb_Mo_drop 10 = .ok (.getfield 16, 3) := by decide +kernel
theorem dd_Mo_drop_13 : decode bb_Mo_drop 13 = .ok (.iload_n 1, 1) := by decide +kernel
theorem dd_Mo_drop_14 : decode bb_Mo_drop 14 = .ok (.baload, 1) := by decide +kernel
theorem dd_Mo_drop_15 : decode bb_Mo_drop 15 = .ok (.ifCond .ne 5, 3) := by decide +kernel
theorem dd_Mo_drop_18 : decode bb_Mo_drop 18 = .ok (.iconst (-1), 1) := by decide +kernel
theorem dd_Mo_drop_19 : decode bb_Mo_drop 19 = .ok (.ireturn, 1) := by decide +kernel
theorem dd_Mo_drop_20 : decode bb_Mo_drop 20 = .ok (.aload_n 0, 1) := by decide +kernel
theorem dd_Mo_drop_21 : decode bb_Mo_drop 21 = .ok (.getfield 16, 3) := by decide +kernel
theorem dd_Mo_drop_24 : decode bb_Mo_drop 24 = .ok (.iload_n 1, 1) := by decide +kernel
theorem dd_Mo_drop_25 : decode bb_Mo_drop 25 = .ok (.iconst 0, 1) := by decide +kernel
theorem dd_Mo_drop_26 : decode bb_Mo_drop 26 = .ok (.bastore, 1) := by decide +kernel
theorem dd_Mo_drop_27 : decode bb_Mo_drop 27 = .ok (.aload_n 0, 1) := by decide +kernel
theorem dd_Mo_drop_28 : decode bb_Mo_drop 28 = .ok (.dup, 1) := by decide +kernel
theorem dd_Mo_drop_29 : decode bb_Mo_drop 29 = .ok (.getfield 543, 3) := by decide +kernel
theorem dd_Mo_drop_32 : decode bb_Mo_drop 32 = .ok (.iconst 1, 1) := by decide +kernel
theorem dd_Mo_drop_33 : decode bb_Mo_drop 33 = .ok (.isub, 1) := by decide +kernel
theorem dd_Mo_drop_34 : decode bb_Mo_drop 34 = .ok (.putfield 543, 3) := by decide +kernel
theorem dd_Mo_drop_37 : decode bb_Mo_drop 37 = .ok (.aload_n 0, 1) := by decide +kernel
theorem dd_Mo_drop_38 : decode bb_Mo_drop 38 = .ok (.invokevirtual 540, 3) := by decide +kernel
theorem dd_Mo_drop_41 : decode bb_Mo_drop 41 = .ok (.aload_n 0, 1) := by decide +kernel
theorem dd_Mo_drop_42 : decode bb_Mo_drop 42 = .ok (.getfield 543, 3) := by decide +kernel
theorem dd_Mo_drop_45 : decode bb_Mo_drop 45 = .ok (.ireturn, 1) := by decide +kernel
set_option maxRecDepth 100000 in
set_option maxHeartbeats 4000000 in
theorem t_Mo_drop_18  (X : zX p s m args cd D cid B bb_Mo_drop 2 rr_Mo zT) (H : zH s meth B n0 (some (.int)) "drop") {nf : Nat}  {c : Zc} {res : Int32 × Zc} (h : f_Mo_drop_18 nf  c = some res) : Zz p l e (zRm 1 21 0 0) s m args below meth cd (MQ below (zQi D cid B res.1 res.2 n0 0) args s 0 0 (fun q => B ≤ q)) D cid B 2 0 0 c 18 [] [] := by
  unfold f_Mo_drop_18 at h
  refine z_iconst (v := (-1)) X dd_Mo_drop_18 (by decide) ?_
  obtain rfl := Option.some.inj h
  exact z_iret X H.1 H.2.1 H.2.2.1 dd_Mo_drop_19
set_option maxRecDepth 100000 in
set_option maxHeartbeats 4000000 in
theorem c_Mo_drop (l : Launch) {nf : Nat} {a0 : Nat} {a1 : Int32} {c : Zc} {res : Int32 × Zc} (h : f_Mo_drop nf a0 a1 c = some res) : zM l yy_Mo_drop ww_Mo_drop 1 21 0 0 [.ref a0, .int a1] c (fun D cid B => zQi D cid B res.1 res.2 c.length 0) := by
  refine z_met (cc := bb_Mo_drop) (maxL := 2) (ret := (some (.int))) (by decide +kernel) rfl (Nat.le_of_ble_eq_true rfl) ?_
  intro p e s m args below meth cd D cid B X h1 h2 h3 h4
  have X : zX p s m args cd D cid B bb_Mo_drop 2 rr_Mo zT := X
  have H : zH s meth B c.length (some (.int)) "drop" := ⟨h1, h2, h4, h3⟩
  unfold f_Mo_drop at h
  show Zz p l e (zRm 1 21 0 0) s m args below meth cd _ D cid B 2 0 0 c 0 [(0, .ref a0), (1, .int a1)] []
  refine z_iload_n X dd_Mo_drop_0 rfl 1 rfl ?_
  refine z_bipush (v := 100) X dd_Mo_drop_1 (by decide) ?_
  obtain ⟨q1, eq1, h⟩ := zb h
  refine z_callSi X [.int a1, .int 100] rfl dd_Mo_drop_3 (c_Mo_isIn l eq1) (va_cwS 2 X.1.2.2.2.2 (zg_S km_1809 km_1810 km_138 km_1811) rfl rfl rfl (by decide +kernel) ⟨Nat.le_of_ble_eq_true rfl, Nat.le_of_ble_eq_true rfl⟩) rfl (Nat.le_of_ble_eq_true rfl) ⟨Nat.le_of_ble_eq_true rfl, Nat.le_of_ble_eq_true rfl⟩ ?_
  refine z_if_eq (tgt := 18) X dd_Mo_drop_6 (by decide) (fun q2 => ?_) (fun q2 => ?_)
  · rw [if_pos q2] at h
    refine z_sub [] rfl ?_
    exact t_Mo_drop_18 X H h
  · rw [if_neg q2] at h
    refine z_aload_n X dd_Mo_drop_9 rfl 0 rfl ?_
    obtain ⟨v3, ev3, h⟩ := zb h
    refine z_get (j := 3) X dd_Mo_drop_10 kc_12 ki_12 (by decide) km_1524 (zgr_v ev3) ?_
    refine z_iload_n X dd_Mo_drop_13 rfl 1 rfl ?_
    obtain ⟨v4, ev4, h⟩ := zb h
    refine z_zaload X dd_Mo_drop_14 rfl ev4 ?_
    refine z_if_ne (tgt := 20) X dd_Mo_drop_15 (by decide) (fun q5 => ?_) (fun q5 => ?_)
    · rw [if_neg q5] at h
      refine z_aload_n X dd_Mo_drop_20 rfl 0 rfl ?_
      obtain ⟨v6, ev6, h⟩ := zb h
      refine z_get (j := 3) X dd_Mo_drop_21 kc_12 ki_12 (by decide) km_1524 (zgr_v ev6) ?_
      refine z_iload_n X dd_Mo_drop_24 rfl 1 rfl ?_
      refine z_iconst (v := 0) X dd_Mo_drop_25 (by decide) ?_
      obtain ⟨c7, ec7, h⟩ := zb h
      refine z_zastore X dd_Mo_drop_26 rfl ec7 ?_
      refine z_aload_n X dd_Mo_drop_27 rfl 0 rfl ?_
      refine z_dup X dd_Mo_drop_28 rfl ?_
      obtain ⟨v8, ev8, h⟩ := zb h
      refine z_get (j := 8) X dd_Mo_drop_29 kc_12 ki_12 (by decide) km_1529 (zgi_v ev8) ?_
      refine z_iconst (v := 1) X dd_Mo_drop_32 (by decide) ?_
      refine z_isub X dd_Mo_drop_33 ?_
      obtain ⟨c9, ec9, h⟩ := zb h
      refine z_put (j := 8) X dd_Mo_drop_34 kc_12 ki_12 tt_Mo tk_Mo nn_Mo (by decide) km_1529 rfl (tk_Mo 8 (by decide)) rfl rfl ec9 ?_
      refine z_aload_n X dd_Mo_drop_37 rfl 0 rfl ?_
      obtain ⟨w11, ew11, h⟩ := zb h
      obtain ⟨q10, eq10, h⟩ := zb h
      refine z_callVv X [] rfl dd_Mo_drop_38 (c_Mo_changed l eq10) (cwV 0 X.1.2.2.2.2 (zg_V km_1812 km_1814 km_60 km_138 km_1815) rfl rfl rfl (by decide +kernel) ⟨Nat.le_of_ble_eq_true rfl, Nat.le_of_ble_eq_true rfl⟩) (zob_s ew11) kc_12 rfl (Nat.le_of_ble_eq_true rfl) ⟨Nat.le_of_ble_eq_true rfl, Nat.le_of_ble_eq_true rfl⟩ ?_
      refine z_aload_n X dd_Mo_drop_41 rfl 0 rfl ?_
      obtain ⟨v12, ev12, h⟩ := zb h
      refine z_get (j := 8) X dd_Mo_drop_42 kc_12 ki_12 (by decide) km_1529 (zgi_v ev12) ?_
      obtain rfl := Option.some.inj h
      exact z_iret X H.1 H.2.1 H.2.2.1 dd_Mo_drop_45
    · rw [if_pos q5] at h
      refine z_sub [] rfl ?_
      exact t_Mo_drop_18 X H h
theorem dd_Mo_ruleCount_0 : decode bb_Mo_ruleCount 0 = .ok (.iconst 0, 1) := by decide +kernel
theorem dd_Mo_ruleCount_1 : decode bb_Mo_ruleCount 1 = .ok (.istore_n 1, 1) := by decide +kernel
theorem dd_Mo_ruleCount_2 : decode bb_Mo_ruleCount 2 = .ok (.iconst 4, 1) := by decide +kernel
theorem dd_Mo_ruleCount_3 : decode bb_Mo_ruleCount 3 = .ok (.istore_n 2, 1) := by decide +kernel
theorem dd_Mo_ruleCount_4 : decode bb_Mo_ruleCount 4 = .ok (.iload_n 2, 1) := by decide +kernel
theorem dd_Mo_ruleCount_5 : decode bb_Mo_ruleCount 5 = .ok (.bipush 8, 2) := by decide +kernel
theorem dd_Mo_ruleCount_7 : decode bb_Mo_ruleCount 7 = .ok (.if_icmp .ge 26, 3) := by decide +kernel
theorem dd_Mo_ruleCount_10 : decode bb_Mo_ruleCount 10 = .ok (.iload_n 1, 1) := by decide +kernel
theorem dd_Mo_ruleCount_11 : decode bb_Mo_ruleCount 11 = .ok (.aload_n 0, 1) := by decide +kernel
theorem dd_Mo_ruleCount_12 : decode bb_Mo_ruleCount 12 = .ok (.getfield 59, 3) := by decide +kernel
theorem dd_Mo_ruleCount_15 : decode bb_Mo_ruleCount 15 = .ok (.iload_n 2, 1) := by decide +kernel
theorem dd_Mo_ruleCount_16 : decode bb_Mo_ruleCount 16 = .ok (.baload, 1) := by decide +kernel
theorem dd_Mo_ruleCount_17 : decode bb_Mo_ruleCount 17 = .ok (.ifCond .eq 7, 3) := by decide +kernel
theorem dd_Mo_ruleCount_20 : decode bb_Mo_ruleCount 20 = .ok (.iconst 1, 1) := by decide +kernel
theorem dd_Mo_ruleCount_21 : decode bb_Mo_ruleCount 21 = .ok (.goto 4, 3) := by decide +kernel
theorem dd_Mo_ruleCount_24 : decode bb_Mo_ruleCount 24 = .ok (.iconst 0, 1) := by decide +kernel
theorem dd_Mo_ruleCount_25 : decode bb_Mo_ruleCount 25 = .ok (.iadd, 1) := by decide +kernel
theorem dd_Mo_ruleCount_26 : decode bb_Mo_ruleCount 26 = .ok (.istore_n 1, 1) := by decide +kernel
theorem dd_Mo_ruleCount_27 : decode bb_Mo_ruleCount 27 = .ok (.iinc 2 1, 3) := by decide +kernel
theorem dd_Mo_ruleCount_30 : decode bb_Mo_ruleCount 30 = .ok (.goto (-26), 3) := by decide +kernel
theorem dd_Mo_ruleCount_33 : decode bb_Mo_ruleCount 33 = .ok (.iload_n 1, 1) := by decide +kernel
theorem dd_Mo_ruleCount_34 : decode bb_Mo_ruleCount 34 = .ok (.ireturn, 1) := by decide +kernel
set_option maxRecDepth 100000 in
set_option maxHeartbeats 4000000 in
theorem t_Mo_ruleCount_25  (X : zX p s m args cd D cid B bb_Mo_ruleCount 3 rr_Mo zT) (H : zH s meth B n0 (some (.int)) "ruleCount") {nf : Nat} {x0 : Nat} {x2 : Int32} {s0 : Int32} {s1 : Int32} {c : Zc} {r : (Nat × Int32 × Int32 × Zc) ⊕ (Int32 × Zc)} (h : f_Mo_ruleCount_25 nf x0 x2 s0 s1 c = some r) (k0 : ∀ a, r = .inl a → (fun a : Nat × Int32 × Int32 × Zc => Zz p l e (zRm 0 0 0 0) s m args below meth cd Q D cid B 3 0 0 a.2.2.2 4 [(0, .ref a.1), (1, .int a.2.1), (2, .int a.2.2.1)] []) a) (k1 : ∀ b, r = .inr b → (fun b : Int32 × Zc => Zz p l e (zRm 0 0 0 0) s m args below meth cd Q D cid B 3 0 0 b.2 33 [(1, .int b.1)] []) b) : Zz p l e (zRm 0 0 0 0) s m args below meth cd Q D cid B 3 0 0 c 25 [(0, .ref x0), (2, .int x2)] [.int s1, .int s0] := by
  unfold f_Mo_ruleCount_25 at h
  refine z_iadd X dd_Mo_ruleCount_25 ?_
  refine z_istore_n (lv' := [(1, .int (s0 + s1)), (0, .ref x0), (2, .int x2)]) X dd_Mo_ruleCount_26 rfl (by decide) rfl ?_
  refine z_iinc (v := (x2 + 1)) (lv' := [(2, .int (x2 + 1)), (1, .int (s0 + s1)), (0, .ref x0)]) X dd_Mo_ruleCount_27 2 rfl rfl (by decide) rfl ?_
  refine z_goto (tgt := 4) X dd_Mo_ruleCount_30 (by decide) ?_
  refine z_sub [2, 1, 0] rfl ?_
  obtain rfl := Option.some.inj h
  exact k0 _ rfl
set_option maxRecDepth 100000 in
set_option maxHeartbeats 4000000 in
theorem u_Mo_ruleCount_4  (X : zX p s m args cd D cid B bb_Mo_ruleCount 3 rr_Mo zT) (H : zH s meth B n0 (some (.int)) "ruleCount") {nf : Nat} {x0 : Nat} {x1 : Int32} {x2 : Int32} {c : Zc} {r : (Nat × Int32 × Int32 × Zc) ⊕ (Int32 × Zc)} (h : g_Mo_ruleCount_4 nf x0 x1 x2 c = some r) (k0 : ∀ a, r = .inl a → (fun a : Nat × Int32 × Int32 × Zc => Zz p l e (zRm 0 0 0 0) s m args below meth cd Q D cid B 3 0 0 a.2.2.2 4 [(0, .ref a.1), (1, .int a.2.1), (2, .int a.2.2.1)] []) a) (k1 : ∀ b, r = .inr b → (fun b : Int32 × Zc => Zz p l e (zRm 0 0 0 0) s m args below meth cd Q D cid B 3 0 0 b.2 33 [(1, .int b.1)] []) b) : Zz p l e (zRm 0 0 0 0) s m args below meth cd Q D cid B 3 0 0 c 4 [(0, .ref x0), (1, .int x1), (2, .int x2)] [] := by
  unfold g_Mo_ruleCount_4 at h
  refine z_iload_n X dd_Mo_ruleCount_4 rfl 2 rfl ?_
  refine z_bipush (v := 8) X dd_Mo_ruleCount_5 (by decide) ?_
  refine z_icmp_ge (tgt := 33) X dd_Mo_ruleCount_7 (by decide) (fun q1 => ?_) (fun q1 => ?_)
  · rw [if_pos q1] at h
    refine z_sub [1] rfl ?_
    obtain rfl := Option.some.inj h
    exact k1 _ rfl
  · rw [if_neg q1] at h
    refine z_iload_n X dd_Mo_ruleCount_10 rfl 1 rfl ?_
    refine z_aload_n X dd_Mo_ruleCount_11 rfl 0 rfl ?_
    obtain ⟨v2, ev2, h⟩ := zb h
    refine z_get (j := 23) X dd_Mo_ruleCount_12 kc_12 ki_12 (by decide) km_1544 (zgr_v ev2) ?_
    refine z_iload_n X dd_Mo_ruleCount_15 rfl 2 rfl ?_
    obtain ⟨v3, ev3, h⟩ := zb h
    refine z_zaload X dd_Mo_ruleCount_16 rfl ev3 ?_
    refine z_if_eq (tgt := 24) X dd_Mo_ruleCount_17 (by decide) (fun q4 => ?_) (fun q4 => ?_)
    · rw [if_pos q4] at h
      refine z_iconst (v := 0) X dd_Mo_ruleCount_24 (by decide) ?_
      refine z_sub [0, 2] rfl ?_
      exact t_Mo_ruleCount_25 X H h k0 k1
    · rw [if_neg q4] at h
      refine z_iconst (v := 1) X dd_Mo_ruleCount_20 (by decide) ?_
      refine z_goto (tgt := 25) X dd_Mo_ruleCount_21 (by decide) ?_
      refine z_sub [0, 2] rfl ?_
      exact t_Mo_ruleCount_25 X H h k0 k1
set_option maxRecDepth 100000 in
set_option maxHeartbeats 4000000 in
theorem t_Mo_ruleCount_4  (X : zX p s m args cd D cid B bb_Mo_ruleCount 3 rr_Mo zT) (H : zH s meth B n0 (some (.int)) "ruleCount") {nf : Nat} {x0 : Nat} {x1 : Int32} {x2 : Int32} {c : Zc} {res : Int32 × Zc} (h : f_Mo_ruleCount_4 nf x0 x1 x2 c = some res) : Zz p l e (zRm 0 0 0 0) s m args below meth cd (MQ below (zQi D cid B res.1 res.2 n0 0) args s 0 0 (fun q => B ≤ q)) D cid B 3 0 0 c 4 [(0, .ref x0), (1, .int x1), (2, .int x2)] [] := by
  unfold f_Mo_ruleCount_4 at h
  obtain ⟨b, eb, h⟩ := zb h
  refine zlp_ok (P := fun a : Nat × Int32 × Int32 × Zc => Zz p l e (zRm 0 0 0 0) s m args below meth cd _ D cid B 3 0 0 a.2.2.2 4 [(0, .ref a.1), (1, .int a.2.1), (2, .int a.2.2.1)] []) (G := fun b : Int32 × Zc => Zz p l e (zRm 0 0 0 0) s m args below meth cd _ D cid B 3 0 0 b.2 33 [(1, .int b.1)] []) (fun a r ha k0 k1 => u_Mo_ruleCount_4 X H ha k0 k1) nf _ b eb ?_
  refine z_iload_n X dd_Mo_ruleCount_33 rfl 0 rfl ?_
  obtain rfl := Option.some.inj h
  exact z_iret X H.1 H.2.1 H.2.2.1 dd_Mo_ruleCount_34
set_option maxRecDepth 100000 in
set_option maxHeartbeats 4000000 in
theorem c_Mo_ruleCount (l : Launch) {nf : Nat} {a0 : Nat} {c : Zc} {res : Int32 × Zc} (h : f_Mo_ruleCount nf a0 c = some res) : zM l yy_Mo_ruleCount ww_Mo_ruleCount 0 0 0 0 [.ref a0] c (fun D cid B => zQi D cid B res.1 res.2 c.length 0) := by
  refine z_met (cc := bb_Mo_ruleCount) (maxL := 3) (ret := (some (.int))) (by decide +kernel) rfl (Nat.le_of_ble_eq_true rfl) ?_
  intro p e s m args below meth cd D cid B X h1 h2 h3 h4
  have X : zX p s m args cd D cid B bb_Mo_ruleCount 3 rr_Mo zT := X
  have H : zH s meth B c.length (some (.int)) "ruleCount" := ⟨h1, h2, h4, h3⟩
  unfold f_Mo_ruleCount at h
  show Zz p l e (zRm 0 0 0 0) s m args below meth cd _ D cid B 3 0 0 c 0 [(0, .ref a0)] []
  refine z_iconst (v := 0) X dd_Mo_ruleCount_0 (by decide) ?_
  refine z_istore_n (lv' := [(1, .int 0), (0, .ref a0)]) X dd_Mo_ruleCount_1 rfl (by decide) rfl ?_
  refine z_iconst (v := 4) X dd_Mo_ruleCount_2 (by decide) ?_
  refine z_istore_n (lv' := [(2, .int 4), (1, .int 0), (0, .ref a0)]) X dd_Mo_ruleCount_3 rfl (by decide) rfl ?_
  refine z_sub [2, 1, 0] rfl ?_
  exact t_Mo_ruleCount_4 X H h
end ZzM
