section ZzM
variable {p : Program} {l : Launch} {e : Env} {s : State} {m : MethodId} {args : Array Value} {below : List Frame} {meth : Method} {cd : Code} {Q : State → Prop} {D : va_G} {cid : Nat → ClassId} {B n0 : Nat}
theorem dd_Mo_cutTokens_0 : decode bb_Mo_cutTokens 0 = .ok (.aload_n 0, 1) := by decide +kernel
theorem dd_Mo_cutTokens_1 : decode bb_Mo_cutTokens 1 = .ok (.iconst 0, 1) := by decide +kernel
theorem dd_Mo_cutTokens_2 : decode bb_Mo_cutTokens 2 = .ok (.putfield 242, 3) := by decide +kernel
theorem dd_Mo_cutTokens_5 : decode bb_Mo_cutTokens 5 = .ok (.iconst 0, 1) := by decide +kernel
theorem dd_Mo_cutTokens_6 : decode bb_Mo_cutTokens 6 = .ok (.istore_n 2, 1) := by decide +kernel
theorem dd_Mo_cutTokens_7 : decode bb_Mo_cutTokens 7 = .ok (.iload_n 2, 1) := by decide +kernel
theorem dd_Mo_cutTokens_8 : decode bb_Mo_cutTokens 8 = .ok (.iload_n 1, 1) := by decide +kernel
theorem dd_Mo_cutTokens_9 : decode bb_Mo_cutTokens 9 = .ok (.if_icmp .ge 164, 3) := by decide +kernel
theorem dd_Mo_cutTokens_12 : decode bb_Mo_cutTokens 12 = .ok (.aload_n 0, 1) := by decide +kernel
theorem dd_Mo_cutTokens_13 : decode bb_Mo_cutTokens 13 = .ok (.iload_n 2, 1) := by decide +kernel
theorem dd_Mo_cutTokens_14 : decode bb_Mo_cutTokens 14 = .ok (.iload_n 1, 1) := by decide +kernel
theorem dd_Mo_cutTokens_15 : decode bb_Mo_cutTokens 15 = .ok (.invokevirtual 280, 3) := by decide +kernel
theorem dd_Mo_cutTokens_18 : decode bb_Mo_cutTokens 18 = .ok (.istore_n 3, 1) := by decide +kernel
theorem dd_Mo_cutTokens_19 : decode bb_Mo_cutTokens 19 = .ok (.iload_n 3, 1) := by decide +kernel
theorem dd_Mo_cutTokens_20 : decode bb_Mo_cutTokens 20 = .ok (.bipush 9, 2) := by decide +kernel
theorem dd_Mo_cutTokens_22 : decode bb_Mo_cutTokens 22 = .ok (.if_icmp .eq 21, 3) := by decide +kernel
theorem dd_Mo_cutTokens_25 : decode bb_Mo_cutTokens 25 = .ok (.iload_n 3, 1) := by decide +kernel
theorem dd_Mo_cutTokens_26 : decode bb_Mo_cutTokens 26 = .ok (.bipush 10, 2) := by decide +kernel
theorem dd_Mo_cutTokens_28 : decode bb_Mo_cutTokens 28 = .ok (.if_icmp .eq 15, 3) := by decide +kernel
theorem dd_Mo_cutTokens_31 : decode bb_Mo_cutTokens 31 = .ok (.iload_n 3, 1) := by decide +kernel
theorem dd_Mo_cutTokens_32 : decode bb_Mo_cutTokens 32 = .ok (.bipush 13, 2) := by decide +kernel
theorem dd_Mo_cutTokens_34 : decode bb_Mo_cutTokens 34 = .ok (.if_icmp .eq 9, 3) := by decide +kernel
theorem dd_Mo_cutTokens_37 : decode bb_Mo_cutTokens 37 = .ok (.iload_n 3, 1) := by decide +kernel
theorem dd_Mo_cutTokens_38 : decode bb_Mo_cutTokens 38 = .ok (.bipush 32, 2) := by decide +kernel
theorem dd_Mo_cutTokens_40 : decode bb_Mo_cutTokens 40 = .ok (.if_icmp .ne 9, 3) := by decide +kernel
theorem dd_Mo_cutTokens_43 : decode bb_Mo_cutTokens 43 = .ok (.iinc 2 1, 3) := by decide +kernel
theorem dd_Mo_cutTokens_46 : decode bb_Mo_cutTokens 46 = .ok (.goto 124, 3) := by decide +kernel
theorem dd_Mo_cutTokens_49 : decode bb_Mo_cutTokens 49 = .ok (.iload_n 2, 1) := by decide +kernel
theorem dd_Mo_cutTokens_50 : decode bb_Mo_cutTokens 50 = .ok (.iconst 1, 1) := by decide +kernel
theorem dd_Mo_cutTokens_51 : decode bb_Mo_cutTokens 51 = .ok (.iadd, 1) := by decide +kernel
theorem dd_Mo_cutTokens_52 : decode bb_Mo_cutTokens 52 = .ok (.istore 4, 2) := by decide +kernel
theorem dd_Mo_cutTokens_54 : decode bb_Mo_cutTokens 54 = .ok (.aload_n 0, 1) := by decide +kernel
theorem dd_Mo_cutTokens_55 : decode bb_Mo_cutTokens 55 = .ok (.getfield 49, 3) := by decide +kernel
theorem dd_Mo_cutTokens_58 : decode bb_Mo_cutTokens 58 = .ok (.aload_n 0, 1) := by decide +kernel
theorem dd_Mo_cutTokens_59 : decode bb_Mo_cutTokens 59 = .ok (.getfield 242, 3) := by decide +kernel
theorem dd_Mo_cutTokens_62 : decode bb_Mo_cutTokens 62 = .ok (.iload_n 2, 1) := by decide +kernel
theorem dd_Mo_cutTokens_63 : decode bb_Mo_cutTokens 63 = .ok (.iastore, 1) := by decide +kernel
theorem dd_Mo_cutTokens_64 : decode bb_Mo_cutTokens 64 = .ok (.iload_n 3, 1) := by decide +kernel
theorem dd_Mo_cutTokens_65 : decode bb_Mo_cutTokens 65 = .ok (.invokestatic 284, 3) := by decide +kernel
theorem dd_Mo_cutTokens_68 : decode bb_Mo_cutTokens 68 = .ok (.ifCond .eq 34, 3) := by decide +kernel
theorem dd_Mo_cutTokens_71 : decode bb_Mo_cutTokens 71 = .ok (.aload_n 0, 1) := by decide +kernel
theorem dd_Mo_cutTokens_72 : decode bb_Mo_cutTokens 72 = .ok (.iload 4, 2) := by decide +kernel
theorem dd_Mo_cutTokens_74 : decode bb_Mo_cutTokens 74 = .ok (.iload_n 1, 1) := by decide +kernel
theorem dd_Mo_cutTokens_75 : decode bb_Mo_cutTokens 75 = .ok (.invokevirtual 280, 3) := by decide +kernel
theorem dd_Mo_cutTokens_78 : decode bb_Mo_cutTokens 78 = .ok (.invokestatic 284, 3) := by decide +kernel
theorem dd_Mo_cutTokens_81 : decode bb_Mo_cutTokens 81 = .ok (.ifCond .eq 9, 3) := by decide +kernel
theorem dd_Mo_cutTokens_84 : decode bb_Mo_cutTokens 84 = .ok (.iinc 4 1, 3) := by decide +kernel
theorem dd_Mo_cutTokens_87 : decode bb_Mo_cutTokens 87 = .ok (.goto (-16), 3) := by decide +kernel
theorem dd_Mo_cutTokens_90 : decode bb_Mo_cutTokens 90 = .ok (.aload_n 0, 1) := by decide +kernel
theorem dd_Mo_cutTokens_91 : decode bb_Mo_cutTokens 91 = .ok (.iload_n 2, 1) := by decide +kernel
theorem dd_Mo_cutTokens_92 : decode bb_Mo_cutTokens 92 = .ok (.iload 4, 2) := by decide +kernel
theorem dd_Mo_cutTokens_94 : decode bb_Mo_cutTokens 94 = .ok (.iload_n 2, 1) := by decide +kernel
theorem dd_Mo_cutTokens_95 : decode bb_Mo_cutTokens 95 = .ok (.isub, 1) := by decide +kernel
theorem dd_Mo_cutTokens_96 : decode bb_Mo_cutTokens 96 = .ok (.invokevirtual 287, 3) := by decide +kernel
theorem dd_Mo_cutTokens_99 : decode bb_Mo_cutTokens 99 = .ok (.goto 58, 3) := by decide +kernel
theorem dd_Mo_cutTokens_102 : decode bb_Mo_cutTokens 102 = .ok (.aload_n 0, 1) := by decide +kernel
theorem dd_Mo_cutTokens_103 : decode bb_Mo_cutTokens 103 = .ok (.getfield 43, 3) := by decide +kernel
theorem dd_Mo_cutTokens_106 : decode bb_Mo_cutTokens 106 = .ok (.aload_n 0, 1) := by decide +kernel
theorem dd_Mo_cutTokens_107 : decode bb_Mo_cutTokens 107 = .ok (.getfield 242, 3) := by decide +kernel
theorem dd_Mo_cutTokens_110 : decode bb_Mo_cutTokens 110 = .ok (.iload_n 3, 1) := by decide +kernel
theorem dd_Mo_cutTokens_111 : decode bb_Mo_cutTokens 111 = .ok (.aload_n 0, 1) := by decide +kernel
theorem dd_Mo_cutTokens_112 : decode bb_Mo_cutTokens 112 = .ok (.iload 4, 2) := by decide +kernel
theorem dd_Mo_cutTokens_114 : decode bb_Mo_cutTokens 114 = .ok (.iload_n 1, 1) := by decide +kernel
theorem dd_Mo_cutTokens_115 : decode bb_Mo_cutTokens 115 = .ok (.invokevirtual 280, 3) := by decide +kernel
theorem dd_Mo_cutTokens_118 : decode bb_Mo_cutTokens 118 = .ok (.invokestatic 291, 3) := by decide +kernel
theorem dd_Mo_cutTokens_121 : decode bb_Mo_cutTokens 121 = .ok (.iastore, 1) := by decide +kernel
theorem dd_Mo_cutTokens_122 : decode bb_Mo_cutTokens 122 = .ok (.aload_n 0, 1) := by decide +kernel
theorem dd_Mo_cutTokens_123 : decode bb_Mo_cutTokens 123 = .ok (.getfield 46, 3) := by decide +kernel
theorem dd_Mo_cutTokens_126 : decode bb_Mo_cutTokens 126 = .ok (.aload_n 0, 1) := by decide +kernel
theorem dd_Mo_cutTokens_127 : decode bb_Mo_cutTokens 127 = .ok (.getfield 242, 3) := by decide +kernel
theorem dd_Mo_cutTokens_130 : decode bb_Mo_cutTokens 130 = .ok (.iconst 0, 1) := by decide +kernel
theorem dd_Mo_cutTokens_131 : decode bb_Mo_cutTokens 131 = .ok (.iastore, 1) := by decide +kernel
theorem dd_Mo_cutTokens_132 : decode bb_Mo_cutTokens 132 = .ok (.iload 4, 2) := by decide +kernel
theorem dd_Mo_cutTokens_134 : decode bb_Mo_cutTokens 134 = .ok (.aload_n 0, 1) := by decide +kernel
theorem dd_Mo_cutTokens_135 : decode bb_Mo_cutTokens 135 = .ok (.getfield 43, 3) := by decide +kernel
theorem dd_Mo_cutTokens_138 : decode bb_Mo_cutTokens 138 = .ok (.aload_n 0, 1) := by decide +kernel
theorem dd_Mo_cutTokens_139 : decode bb_Mo_cutTokens 139 = .ok (.getfield 242, 3) := by decide +kernel
theorem dd_Mo_cutTokens_142 : decode bb_Mo_cutTokens 142 = .ok (.iaload, 1) := by decide +kernel
theorem dd_Mo_cutTokens_143 : decode bb_Mo_cutTokens 143 = .ok (.sipush 200, 3) := by decide +kernel
theorem dd_Mo_cutTokens_146 : decode bb_Mo_cutTokens 146 = .ok (.if_icmp .le 7, 3) := by decide +kernel
theorem dd_Mo_cutTokens_149 : decode bb_Mo_cutTokens 149 = .ok (.iconst 1, 1) := by decide +kernel
theorem dd_Mo_cutTokens_150 : decode bb_Mo_cutTokens 150 = .ok (.goto 4, 3) := by decide +kernel
theorem dd_Mo_cutTokens_153 : decode bb_Mo_cutTokens 153 = .ok (.iconst 0, 1) := by decide +kernel
theorem dd_Mo_cutTokens_154 : decode bb_Mo_cutTokens 154 = .ok (.iadd, 1) := by decide +kernel
theorem dd_Mo_cutTokens_155 : decode bb_Mo_cutTokens 155 = .ok (.istore 4, 2) := by decide +kernel
theorem dd_Mo_cutTokens_157 : decode bb_Mo_cutTokens 157 = .ok (.aload_n 0, 1) := by decide +kernel
theorem dd_Mo_cutTokens_158 : decode bb_Mo_cutTokens 158 = .ok (.dup, 1) := by decide +kernel
theorem dd_Mo_cutTokens_159 : decode bb_Mo_cutTokens 159 = .ok (.getfield 242, 3) := by decide +kernel
theorem dd_Mo_cutTokens_162 : decode bb_Mo_cutTokens 162 = .ok (.iconst 1, 1) := by decide +kernel
theorem dd_Mo_cutTokens_163 : decode bb_Mo_cutTokens 163 = .ok (.iadd, 1) := by decide +kernel
theorem dd_Mo_cutTokens_164 : decode bb_Mo_cutTokens 164 = .ok (.putfield 242, 3) := by decide +kernel
theorem dd_Mo_cutTokens_167 : decode bb_Mo_cutTokens 167 = .ok (.iload 4, 2) := by decide +kernel
theorem dd_Mo_cutTokens_169 : decode bb_Mo_cutTokens 169 = .ok (.istore_n 2, 1) := by decide +kernel
theorem dd_Mo_cutTokens_170 : decode bb_Mo_cutTokens 170 = .ok (.goto (-163), 3) := by decide +kernel
theorem dd_Mo_cutTokens_173 : decode bb_Mo_cutTokens 173 = .ok (.aload_n 0, 1) := by decide +kernel
theorem dd_Mo_cutTokens_174 : decode bb_Mo_cutTokens 174 = .ok (.getfield 43, 3) := by decide +kernel
theorem dd_Mo_cutTokens_177 : decode bb_Mo_cutTokens 177 = .ok (.aload_n 0, 1) := by decide +kernel
theorem dd_Mo_cutTokens_178 : decode bb_Mo_cutTokens 178 = .ok (.getfield 242, 3) := by decide +kernel
theorem dd_Mo_cutTokens_181 : decode bb_Mo_cutTokens 181 = .ok (.iconst 0, 1) := by decide +kernel
theorem dd_Mo_cutTokens_182 : decode bb_Mo_cutTokens 182 = .ok (.iastore, 1) := by decide +kernel
theorem dd_Mo_cutTokens_183 : decode bb_Mo_cutTokens 183 = .ok (.aload_n 0, 1) := by decide +kernel
theorem dd_Mo_cutTokens_184 : decode bb_Mo_cutTokens 184 = .ok (.getfield 49, 3) := by decide +kernel
theorem dd_Mo_cutTokens_187 : decode bb_Mo_cutTokens 187 = .ok (.aload_n 0, 1) := by decide +kernel
theorem dd_Mo_cutTokens_188 : decode bb_Mo_cutTokens 188 = .ok (.getfield 242, 3) := by decide +kernel
theorem dd_Mo_cutTokens_191 : decode bb_Mo_cutTokens 191 = .ok (.iload_n 1, 1) := by decide +kernel
theorem dd_Mo_cutTokens_192 : decode bb_Mo_cutTokens 192 = .ok (.iastore, 1) := by decide +kernel
theorem dd_Mo_cutTokens_193 : decode bb_Mo_cutTokens 193 = .ok (.return_, 1) := by decide +kernel
def f_Mo_cutTokens_170 (nf : Nat) (x0 : Nat) (x1 : Int32) (x2 : Int32) (c : Zc) : Option ((Nat × Int32 × Int32 × Zc) ⊕ (Nat × Int32 × Zc)) :=
  some (.inl (x0, x1, x2, c))
def f_Mo_cutTokens_43 (nf : Nat) (x0 : Nat) (x1 : Int32) (x2 : Int32) (c : Zc) : Option ((Nat × Int32 × Int32 × Zc) ⊕ (Nat × Int32 × Zc)) :=
  f_Mo_cutTokens_170 nf x0 x1 (x2 + 1) c
def f_Mo_cutTokens_157 (nf : Nat) (x0 : Nat) (x1 : Int32) (x4 : Int32) (c : Zc) : Option ((Nat × Int32 × Int32 × Zc) ⊕ (Nat × Int32 × Zc)) :=
  (zgi c x0 12 17).bind fun v27 => (zpv c x0 12 17 (.int (v27 + 1))).bind fun c28 => f_Mo_cutTokens_170 nf x0 x1 x4 c28
def f_Mo_cutTokens_154 (nf : Nat) (x0 : Nat) (x1 : Int32) (s0 : Int32) (s1 : Int32) (c : Zc) : Option ((Nat × Int32 × Int32 × Zc) ⊕ (Nat × Int32 × Zc)) :=
  f_Mo_cutTokens_157 nf x0 x1 (s0 + s1) c
def g_Mo_cutTokens_71 (nf : Nat) (x0 : Nat) (x1 : Int32) (x2 : Int32) (x4 : Int32) (c : Zc) : Option ((Nat × Int32 × Int32 × Int32 × Zc) ⊕ (Nat × Int32 × Int32 × Int32 × Zc)) :=
  (zob c x0 12).bind fun w30 => (f_Mo_at nf x0 x4 x1 c).bind fun q29 => (f_Mo_isWordByte nf q29.1 q29.2).bind fun q31 => if q31.1 = 0 then (some (.inr (x0, x1, x2, x4, q31.2))) else (some (.inl (x0, x1, x2, (x4 + 1), q31.2)))
def f_Mo_cutTokens_71 (nf : Nat) (x0 : Nat) (x1 : Int32) (x2 : Int32) (x4 : Int32) (c : Zc) : Option ((Nat × Int32 × Int32 × Zc) ⊕ (Nat × Int32 × Zc)) :=
  (zlp (fun a => g_Mo_cutTokens_71 nf a.1 a.2.1 a.2.2.1 a.2.2.2.1 a.2.2.2.2) nf (x0, x1, x2, x4, c)).bind fun b => (zob b.2.2.2.2 b.1 12).bind fun w34 => (f_Mo_wordToken nf b.1 b.2.2.1 (b.2.2.2.1 - b.2.2.1) b.2.2.2.2).bind fun q33 => f_Mo_cutTokens_157 nf b.1 b.2.1 b.2.2.2.1 q33
def g_Mo_cutTokens_7 (nf : Nat) (x0 : Nat) (x1 : Int32) (x2 : Int32) (c : Zc) : Option ((Nat × Int32 × Int32 × Zc) ⊕ (Nat × Int32 × Zc)) :=
  if x1 ≤ x2 then (some (.inr (x0, x1, c))) else ((zob c x0 12).bind fun w4 => (f_Mo_at nf x0 x2 x1 c).bind fun q3 => if q3.1 = 9 then (f_Mo_cutTokens_43 nf x0 x1 x2 q3.2) else (if q3.1 = 10 then (f_Mo_cutTokens_43 nf x0 x1 x2 q3.2) else (if q3.1 = 13 then (f_Mo_cutTokens_43 nf x0 x1 x2 q3.2) else (if q3.1 = 32 then (f_Mo_cutTokens_43 nf x0 x1 x2 q3.2) else ((zgr q3.2 x0 12 16).bind fun v9 => (zgi q3.2 x0 12 17).bind fun v10 => (zsi q3.2 v9 0 v10 x2).bind fun c11 => (f_Mo_isWordByte nf q3.1 c11).bind fun q12 => if q12.1 = 0 then ((zgr q12.2 x0 12 14).bind fun v14 => (zgi q12.2 x0 12 17).bind fun v15 => (zob q12.2 x0 12).bind fun w17 => (f_Mo_at nf x0 (x2 + 1) x1 q12.2).bind fun q16 => (f_Mo_signKind nf q3.1 q16.1 q16.2).bind fun q18 => (zsi q18.2 v14 0 v15 q18.1).bind fun c19 => (zgr c19 x0 12 15).bind fun v20 => (zgi c19 x0 12 17).bind fun v21 => (zsi c19 v20 0 v21 0).bind fun c22 => (zgr c22 x0 12 14).bind fun v23 => (zgi c22 x0 12 17).bind fun v24 => (zai c22 v23 0 v24).bind fun v25 => if v25 ≤ 200 then (f_Mo_cutTokens_154 nf x0 x1 (x2 + 1) 0 c22) else (f_Mo_cutTokens_154 nf x0 x1 (x2 + 1) 1 c22)) else (f_Mo_cutTokens_71 nf x0 x1 x2 (x2 + 1) q12.2))))))
def f_Mo_cutTokens_7 (nf : Nat) (x0 : Nat) (x1 : Int32) (x2 : Int32) (c : Zc) : Option (Zc) :=
  (zlp (fun a => g_Mo_cutTokens_7 nf a.1 a.2.1 a.2.2.1 a.2.2.2) nf (x0, x1, x2, c)).bind fun b => (zgr b.2.2 b.1 12 14).bind fun v35 => (zgi b.2.2 b.1 12 17).bind fun v36 => (zsi b.2.2 v35 0 v36 0).bind fun c37 => (zgr c37 b.1 12 16).bind fun v38 => (zgi c37 b.1 12 17).bind fun v39 => (zsi c37 v38 0 v39 b.2.1).bind fun c40 => some c40
def f_Mo_cutTokens (nf : Nat) (a0 : Nat) (a1 : Int32) (c : Zc) : Option (Zc) :=
  (zpv c a0 12 17 (.int 0)).bind fun c1 => f_Mo_cutTokens_7 nf a0 a1 0 c1
set_option maxRecDepth 100000 in
set_option maxHeartbeats 4000000 in
theorem t_Mo_cutTokens_170  (X : zX p s m args cd D cid B bb_Mo_cutTokens 5 rr_Mo zT) (H : zH s meth B n0 none "cutTokens") {nf : Nat} {x0 : Nat} {x1 : Int32} {x2 : Int32} {c : Zc} {r : (Nat × Int32 × Int32 × Zc) ⊕ (Nat × Int32 × Zc)} (h : f_Mo_cutTokens_170 nf x0 x1 x2 c = some r) (k0 : ∀ a, r = .inl a → (fun a : Nat × Int32 × Int32 × Zc => Zz p l e (zRm 2 48 0 0) s m args below meth cd Q D cid B 5 0 0 a.2.2.2 7 [(0, .ref a.1), (1, .int a.2.1), (2, .int a.2.2.1)] []) a) (k1 : ∀ b, r = .inr b → (fun b : Nat × Int32 × Zc => Zz p l e (zRm 2 48 0 0) s m args below meth cd Q D cid B 5 0 0 b.2.2 173 [(0, .ref b.1), (1, .int b.2.1)] []) b) : Zz p l e (zRm 2 48 0 0) s m args below meth cd Q D cid B 5 0 0 c 170 [(0, .ref x0), (1, .int x1), (2, .int x2)] [] := by
  unfold f_Mo_cutTokens_170 at h
  refine z_goto (tgt := 7) X dd_Mo_cutTokens_170 (by decide) ?_
  obtain rfl := Option.some.inj h
  exact k0 _ rfl
set_option maxRecDepth 100000 in
set_option maxHeartbeats 4000000 in
theorem t_Mo_cutTokens_43  (X : zX p s m args cd D cid B bb_Mo_cutTokens 5 rr_Mo zT) (H : zH s meth B n0 none "cutTokens") {nf : Nat} {x0 : Nat} {x1 : Int32} {x2 : Int32} {c : Zc} {r : (Nat × Int32 × Int32 × Zc) ⊕ (Nat × Int32 × Zc)} (h : f_Mo_cutTokens_43 nf x0 x1 x2 c = some r) (k0 : ∀ a, r = .inl a → (fun a : Nat × Int32 × Int32 × Zc => Zz p l e (zRm 2 48 0 0) s m args below meth cd Q D cid B 5 0 0 a.2.2.2 7 [(0, .ref a.1), (1, .int a.2.1), (2, .int a.2.2.1)] []) a) (k1 : ∀ b, r = .inr b → (fun b : Nat × Int32 × Zc => Zz p l e (zRm 2 48 0 0) s m args below meth cd Q D cid B 5 0 0 b.2.2 173 [(0, .ref b.1), (1, .int b.2.1)] []) b) : Zz p l e (zRm 2 48 0 0) s m args below meth cd Q D cid B 5 0 0 c 43 [(0, .ref x0), (1, .int x1), (2, .int x2)] [] := by
  unfold f_Mo_cutTokens_43 at h
  refine z_iinc (v := (x2 + 1)) (lv' := [(2, .int (x2 + 1)), (0, .ref x0), (1, .int x1)]) X dd_Mo_cutTokens_43 2 rfl rfl (by decide) rfl ?_
  refine z_goto (tgt := 170) X dd_Mo_cutTokens_46 (by decide) ?_
  refine z_sub [1, 2, 0] rfl ?_
  exact t_Mo_cutTokens_170 X H h k0 k1
set_option maxRecDepth 100000 in
set_option maxHeartbeats 4000000 in
theorem t_Mo_cutTokens_157  (X : zX p s m args cd D cid B bb_Mo_cutTokens 5 rr_Mo zT) (H : zH s meth B n0 none "cutTokens") {nf : Nat} {x0 : Nat} {x1 : Int32} {x4 : Int32} {c : Zc} {r : (Nat × Int32 × Int32 × Zc) ⊕ (Nat × Int32 × Zc)} (h : f_Mo_cutTokens_157 nf x0 x1 x4 c = some r) (k0 : ∀ a, r = .inl a → (fun a : Nat × Int32 × Int32 × Zc => Zz p l e (zRm 2 48 0 0) s m args below meth cd Q D cid B 5 0 0 a.2.2.2 7 [(0, .ref a.1), (1, .int a.2.1), (2, .int a.2.2.1)] []) a) (k1 : ∀ b, r = .inr b → (fun b : Nat × Int32 × Zc => Zz p l e (zRm 2 48 0 0) s m args below meth cd Q D cid B 5 0 0 b.2.2 173 [(0, .ref b.1), (1, .int b.2.1)] []) b) : Zz p l e (zRm 2 48 0 0) s m args below meth cd Q D cid B 5 0 0 c 157 [(0, .ref x0), (1, .int x1), (4, .int x4)] [] := by
  unfold f_Mo_cutTokens_157 at h
  refine z_aload_n X dd_Mo_cutTokens_157 rfl 0 rfl ?_
  refine z_dup X dd_Mo_cutTokens_158 rfl ?_
  obtain ⟨v27, ev27, h⟩ := zb h
  refine z_get (j := 17) X dd_Mo_cutTokens_159 kc_12 ki_12 (by decide) km_1538 (zgi_v ev27) ?_
  refine z_iconst (v := 1) X dd_Mo_cutTokens_162 (by decide) ?_
  refine z_iadd X dd_Mo_cutTokens_163 ?_
  obtain ⟨c28, ec28, h⟩ := zb h
  refine z_put (j := 17) X dd_Mo_cutTokens_164 kc_12 ki_12 tt_Mo tk_Mo nn_Mo (by decide) km_1538 rfl (tk_Mo 17 (by decide)) rfl rfl ec28 ?_
  refine z_iload X dd_Mo_cutTokens_167 2 rfl ?_
  refine z_istore_n (lv' := [(2, .int x4), (0, .ref x0), (1, .int x1), (4, .int x4)]) X dd_Mo_cutTokens_169 rfl (by decide) rfl ?_
  refine z_sub [1, 2, 0] rfl ?_
  exact t_Mo_cutTokens_170 X H h k0 k1
set_option maxRecDepth 100000 in
set_option maxHeartbeats 4000000 in
theorem t_Mo_cutTokens_154  (X : zX p s m args cd D cid B bb_Mo_cutTokens 5 rr_Mo zT) (H : zH s meth B n0 none "cutTokens") {nf : Nat} {x0 : Nat} {x1 : Int32} {s0 : Int32} {s1 : Int32} {c : Zc} {r : (Nat × Int32 × Int32 × Zc) ⊕ (Nat × Int32 × Zc)} (h : f_Mo_cutTokens_154 nf x0 x1 s0 s1 c = some r) (k0 : ∀ a, r = .inl a → (fun a : Nat × Int32 × Int32 × Zc => Zz p l e (zRm 2 48 0 0) s m args below meth cd Q D cid B 5 0 0 a.2.2.2 7 [(0, .ref a.1), (1, .int a.2.1), (2, .int a.2.2.1)] []) a) (k1 : ∀ b, r = .inr b → (fun b : Nat × Int32 × Zc => Zz p l e (zRm 2 48 0 0) s m args below meth cd Q D cid B 5 0 0 b.2.2 173 [(0, .ref b.1), (1, .int b.2.1)] []) b) : Zz p l e (zRm 2 48 0 0) s m args below meth cd Q D cid B 5 0 0 c 154 [(0, .ref x0), (1, .int x1)] [.int s1, .int s0] := by
  unfold f_Mo_cutTokens_154 at h
  refine z_iadd X dd_Mo_cutTokens_154 ?_
  refine z_istore (lv' := [(4, .int (s0 + s1)), (0, .ref x0), (1, .int x1)]) X dd_Mo_cutTokens_155 (by decide) rfl ?_
  refine z_sub [1, 2, 0] rfl ?_
  exact t_Mo_cutTokens_157 X H h k0 k1
set_option maxRecDepth 100000 in
set_option maxHeartbeats 4000000 in
theorem u_Mo_cutTokens_71  (X : zX p s m args cd D cid B bb_Mo_cutTokens 5 rr_Mo zT) (H : zH s meth B n0 none "cutTokens") {nf : Nat} {x0 : Nat} {x1 : Int32} {x2 : Int32} {x4 : Int32} {c : Zc} {r : (Nat × Int32 × Int32 × Int32 × Zc) ⊕ (Nat × Int32 × Int32 × Int32 × Zc)} (h : g_Mo_cutTokens_71 nf x0 x1 x2 x4 c = some r) (k0 : ∀ a, r = .inl a → (fun a : Nat × Int32 × Int32 × Int32 × Zc => Zz p l e (zRm 2 48 0 0) s m args below meth cd Q D cid B 5 0 0 a.2.2.2.2 71 [(0, .ref a.1), (1, .int a.2.1), (2, .int a.2.2.1), (4, .int a.2.2.2.1)] []) a) (k1 : ∀ b, r = .inr b → (fun b : Nat × Int32 × Int32 × Int32 × Zc => Zz p l e (zRm 2 48 0 0) s m args below meth cd Q D cid B 5 0 0 b.2.2.2.2 90 [(0, .ref b.1), (1, .int b.2.1), (2, .int b.2.2.1), (4, .int b.2.2.2.1)] []) b) : Zz p l e (zRm 2 48 0 0) s m args below meth cd Q D cid B 5 0 0 c 71 [(0, .ref x0), (1, .int x1), (2, .int x2), (4, .int x4)] [] := by
  unfold g_Mo_cutTokens_71 at h
  refine z_aload_n X dd_Mo_cutTokens_71 rfl 0 rfl ?_
  refine z_iload X dd_Mo_cutTokens_72 3 rfl ?_
  refine z_iload_n X dd_Mo_cutTokens_74 rfl 1 rfl ?_
  obtain ⟨w30, ew30, h⟩ := zb h
  obtain ⟨q29, eq29, h⟩ := zb h
  refine z_callVi X [.int x4, .int x1] rfl dd_Mo_cutTokens_75 (c_Mo_at l eq29) (cwV 2 X.1.2.2.2.2 (zg_V km_1860 km_1862 km_65 km_138 km_1863) rfl rfl rfl (by decide +kernel) ⟨Nat.le_of_ble_eq_true rfl, Nat.le_of_ble_eq_true rfl⟩) (zob_s ew30) kc_12 rfl (Nat.le_of_ble_eq_true rfl) ⟨Nat.le_of_ble_eq_true rfl, Nat.le_of_ble_eq_true rfl⟩ ?_
  obtain ⟨q31, eq31, h⟩ := zb h
  refine z_callSi X [.int q29.1] rfl dd_Mo_cutTokens_78 (c_Mo_isWordByte l eq31) (va_cwS 1 X.1.2.2.2.2 (zg_S km_1864 km_1865 km_138 km_1866) rfl rfl rfl (by decide +kernel) ⟨Nat.le_of_ble_eq_true rfl, Nat.le_of_ble_eq_true rfl⟩) rfl (Nat.le_of_ble_eq_true rfl) ⟨Nat.le_of_ble_eq_true rfl, Nat.le_of_ble_eq_true rfl⟩ ?_
  refine z_if_eq (tgt := 90) X dd_Mo_cutTokens_81 (by decide) (fun q32 => ?_) (fun q32 => ?_)
  · rw [if_pos q32] at h
    obtain rfl := Option.some.inj h
    exact k1 _ rfl
  · rw [if_neg q32] at h
    refine z_iinc (v := (x4 + 1)) (lv' := [(4, .int (x4 + 1)), (0, .ref x0), (1, .int x1), (2, .int x2)]) X dd_Mo_cutTokens_84 3 rfl rfl (by decide) rfl ?_
    refine z_goto (tgt := 71) X dd_Mo_cutTokens_87 (by decide) ?_
    refine z_sub [1, 2, 3, 0] rfl ?_
    obtain rfl := Option.some.inj h
    exact k0 _ rfl
set_option maxRecDepth 100000 in
set_option maxHeartbeats 4000000 in
theorem t_Mo_cutTokens_71  (X : zX p s m args cd D cid B bb_Mo_cutTokens 5 rr_Mo zT) (H : zH s meth B n0 none "cutTokens") {nf : Nat} {x0 : Nat} {x1 : Int32} {x2 : Int32} {x4 : Int32} {c : Zc} {r : (Nat × Int32 × Int32 × Zc) ⊕ (Nat × Int32 × Zc)} (h : f_Mo_cutTokens_71 nf x0 x1 x2 x4 c = some r) (k0 : ∀ a, r = .inl a → (fun a : Nat × Int32 × Int32 × Zc => Zz p l e (zRm 2 48 0 0) s m args below meth cd Q D cid B 5 0 0 a.2.2.2 7 [(0, .ref a.1), (1, .int a.2.1), (2, .int a.2.2.1)] []) a) (k1 : ∀ b, r = .inr b → (fun b : Nat × Int32 × Zc => Zz p l e (zRm 2 48 0 0) s m args below meth cd Q D cid B 5 0 0 b.2.2 173 [(0, .ref b.1), (1, .int b.2.1)] []) b) : Zz p l e (zRm 2 48 0 0) s m args below meth cd Q D cid B 5 0 0 c 71 [(0, .ref x0), (1, .int x1), (2, .int x2), (4, .int x4)] [] := by
  unfold f_Mo_cutTokens_71 at h
  obtain ⟨b, eb, h⟩ := zb h
  refine zlp_ok (P := fun a : Nat × Int32 × Int32 × Int32 × Zc => Zz p l e (zRm 2 48 0 0) s m args below meth cd _ D cid B 5 0 0 a.2.2.2.2 71 [(0, .ref a.1), (1, .int a.2.1), (2, .int a.2.2.1), (4, .int a.2.2.2.1)] []) (G := fun b : Nat × Int32 × Int32 × Int32 × Zc => Zz p l e (zRm 2 48 0 0) s m args below meth cd _ D cid B 5 0 0 b.2.2.2.2 90 [(0, .ref b.1), (1, .int b.2.1), (2, .int b.2.2.1), (4, .int b.2.2.2.1)] []) (fun a r ha k0 k1 => u_Mo_cutTokens_71 X H ha k0 k1) nf _ b eb ?_
  refine z_aload_n X dd_Mo_cutTokens_90 rfl 0 rfl ?_
  refine z_iload_n X dd_Mo_cutTokens_91 rfl 2 rfl ?_
  refine z_iload X dd_Mo_cutTokens_92 3 rfl ?_
  refine z_iload_n X dd_Mo_cutTokens_94 rfl 2 rfl ?_
  refine z_isub X dd_Mo_cutTokens_95 ?_
  obtain ⟨w34, ew34, h⟩ := zb h
  obtain ⟨q33, eq33, h⟩ := zb h
  refine z_callVv X [.int b.2.2.1, .int (b.2.2.2.1 - b.2.2.1)] rfl dd_Mo_cutTokens_96 (c_Mo_wordToken l eq33) (cwV 2 X.1.2.2.2.2 (zg_V km_1873 km_1875 km_66 km_138 km_1876) rfl rfl rfl (by decide +kernel) ⟨Nat.le_of_ble_eq_true rfl, Nat.le_of_ble_eq_true rfl⟩) (zob_s ew34) kc_12 rfl (Nat.le_of_ble_eq_true rfl) ⟨Nat.le_of_ble_eq_true rfl, Nat.le_of_ble_eq_true rfl⟩ ?_
  refine z_goto (tgt := 157) X dd_Mo_cutTokens_99 (by decide) ?_
  refine z_sub [0, 1, 3] rfl ?_
  exact t_Mo_cutTokens_157 X H h k0 k1
set_option maxRecDepth 100000 in
set_option maxHeartbeats 4000000 in
theorem u_Mo_cutTokens_7  (X : zX p s m args cd D cid B bb_Mo_cutTokens 5 rr_Mo zT) (H : zH s meth B n0 none "cutTokens") {nf : Nat} {x0 : Nat} {x1 : Int32} {x2 : Int32} {c : Zc} {r : (Nat × Int32 × Int32 × Zc) ⊕ (Nat × Int32 × Zc)} (h : g_Mo_cutTokens_7 nf x0 x1 x2 c = some r) (k0 : ∀ a, r = .inl a → (fun a : Nat × Int32 × Int32 × Zc => Zz p l e (zRm 2 48 0 0) s m args below meth cd Q D cid B 5 0 0 a.2.2.2 7 [(0, .ref a.1), (1, .int a.2.1), (2, .int a.2.2.1)] []) a) (k1 : ∀ b, r = .inr b → (fun b : Nat × Int32 × Zc => Zz p l e (zRm 2 48 0 0) s m args below meth cd Q D cid B 5 0 0 b.2.2 173 [(0, .ref b.1), (1, .int b.2.1)] []) b) : Zz p l e (zRm 2 48 0 0) s m args below meth cd Q D cid B 5 0 0 c 7 [(0, .ref x0), (1, .int x1), (2, .int x2)] [] := by
  unfold g_Mo_cutTokens_7 at h
  refine z_iload_n X dd_Mo_cutTokens_7 rfl 2 rfl ?_
  refine z_iload_n X dd_Mo_cutTokens_8 rfl 1 rfl ?_
  refine z_icmp_ge (tgt := 173) X dd_Mo_cutTokens_9 (by decide) (fun q2 => ?_) (fun q2 => ?_)
  · rw [if_pos q2] at h
    refine z_sub [0, 1] rfl ?_
    obtain rfl := Option.some.inj h
    exact k1 _ rfl
  · rw [if_neg q2] at h
    refine z_aload_n X dd_Mo_cutTokens_12 rfl 0 rfl ?_
    refine z_iload_n X dd_Mo_cutTokens_13 rfl 2 rfl ?_
    refine z_iload_n X dd_Mo_cutTokens_14 rfl 1 rfl ?_
    obtain ⟨w4, ew4, h⟩ := zb h
    obtain ⟨q3, eq3, h⟩ := zb h
    refine z_callVi X [.int x2, .int x1] rfl dd_Mo_cutTokens_15 (c_Mo_at l eq3) (cwV 2 X.1.2.2.2.2 (zg_V km_1860 km_1862 km_65 km_138 km_1863) rfl rfl rfl (by decide +kernel) ⟨Nat.le_of_ble_eq_true rfl, Nat.le_of_ble_eq_true rfl⟩) (zob_s ew4) kc_12 rfl (Nat.le_of_ble_eq_true rfl) ⟨Nat.le_of_ble_eq_true rfl, Nat.le_of_ble_eq_true rfl⟩ ?_
    refine z_istore_n (lv' := [(3, .int q3.1), (0, .ref x0), (1, .int x1), (2, .int x2)]) X dd_Mo_cutTokens_18 rfl (by decide) rfl ?_
    refine z_iload_n X dd_Mo_cutTokens_19 rfl 0 rfl ?_
    refine z_bipush (v := 9) X dd_Mo_cutTokens_20 (by decide) ?_
    refine z_icmp_eq (tgt := 43) X dd_Mo_cutTokens_22 (by decide) (fun q5 => ?_) (fun q5 => ?_)
    · rw [if_pos q5] at h
      refine z_sub [1, 2, 3] rfl ?_
      exact t_Mo_cutTokens_43 X H h k0 k1
    · rw [if_neg q5] at h
      refine z_iload_n X dd_Mo_cutTokens_25 rfl 0 rfl ?_
      refine z_bipush (v := 10) X dd_Mo_cutTokens_26 (by decide) ?_
      refine z_icmp_eq (tgt := 43) X dd_Mo_cutTokens_28 (by decide) (fun q6 => ?_) (fun q6 => ?_)
      · rw [if_pos q6] at h
        refine z_sub [1, 2, 3] rfl ?_
        exact t_Mo_cutTokens_43 X H h k0 k1
      · rw [if_neg q6] at h
        refine z_iload_n X dd_Mo_cutTokens_31 rfl 0 rfl ?_
        refine z_bipush (v := 13) X dd_Mo_cutTokens_32 (by decide) ?_
        refine z_icmp_eq (tgt := 43) X dd_Mo_cutTokens_34 (by decide) (fun q7 => ?_) (fun q7 => ?_)
        · rw [if_pos q7] at h
          refine z_sub [1, 2, 3] rfl ?_
          exact t_Mo_cutTokens_43 X H h k0 k1
        · rw [if_neg q7] at h
          refine z_iload_n X dd_Mo_cutTokens_37 rfl 0 rfl ?_
          refine z_bipush (v := 32) X dd_Mo_cutTokens_38 (by decide) ?_
          refine z_icmp_ne (tgt := 49) X dd_Mo_cutTokens_40 (by decide) (fun q8 => ?_) (fun q8 => ?_)
          · rw [if_neg q8] at h
            refine z_iload_n X dd_Mo_cutTokens_49 rfl 3 rfl ?_
            refine z_iconst (v := 1) X dd_Mo_cutTokens_50 (by decide) ?_
            refine z_iadd X dd_Mo_cutTokens_51 ?_
            refine z_istore (lv' := [(4, .int (x2 + 1)), (3, .int q3.1), (0, .ref x0), (1, .int x1), (2, .int x2)]) X dd_Mo_cutTokens_52 (by decide) rfl ?_
            refine z_aload_n X dd_Mo_cutTokens_54 rfl 2 rfl ?_
            obtain ⟨v9, ev9, h⟩ := zb h
            refine z_get (j := 16) X dd_Mo_cutTokens_55 kc_12 ki_12 (by decide) km_1537 (zgr_v ev9) ?_
            refine z_aload_n X dd_Mo_cutTokens_58 rfl 2 rfl ?_
            obtain ⟨v10, ev10, h⟩ := zb h
            refine z_get (j := 17) X dd_Mo_cutTokens_59 kc_12 ki_12 (by decide) km_1538 (zgi_v ev10) ?_
            refine z_iload_n X dd_Mo_cutTokens_62 rfl 4 rfl ?_
            obtain ⟨c11, ec11, h⟩ := zb h
            refine z_iastore X dd_Mo_cutTokens_63 rfl ec11 ?_
            refine z_iload_n X dd_Mo_cutTokens_64 rfl 1 rfl ?_
            obtain ⟨q12, eq12, h⟩ := zb h
            refine z_callSi X [.int q3.1] rfl dd_Mo_cutTokens_65 (c_Mo_isWordByte l eq12) (va_cwS 1 X.1.2.2.2.2 (zg_S km_1864 km_1865 km_138 km_1866) rfl rfl rfl (by decide +kernel) ⟨Nat.le_of_ble_eq_true rfl, Nat.le_of_ble_eq_true rfl⟩) rfl (Nat.le_of_ble_eq_true rfl) ⟨Nat.le_of_ble_eq_true rfl, Nat.le_of_ble_eq_true rfl⟩ ?_
            refine z_if_eq (tgt := 102) X dd_Mo_cutTokens_68 (by decide) (fun q13 => ?_) (fun q13 => ?_)
            · rw [if_pos q13] at h
              refine z_aload_n X dd_Mo_cutTokens_102 rfl 2 rfl ?_
              obtain ⟨v14, ev14, h⟩ := zb h
              refine z_get (j := 14) X dd_Mo_cutTokens_103 kc_12 ki_12 (by decide) km_1535 (zgr_v ev14) ?_
              refine z_aload_n X dd_Mo_cutTokens_106 rfl 2 rfl ?_
              obtain ⟨v15, ev15, h⟩ := zb h
              refine z_get (j := 17) X dd_Mo_cutTokens_107 kc_12 ki_12 (by decide) km_1538 (zgi_v ev15) ?_
              refine z_iload_n X dd_Mo_cutTokens_110 rfl 1 rfl ?_
              refine z_aload_n X dd_Mo_cutTokens_111 rfl 2 rfl ?_
              refine z_iload X dd_Mo_cutTokens_112 0 rfl ?_
              refine z_iload_n X dd_Mo_cutTokens_114 rfl 3 rfl ?_
              obtain ⟨w17, ew17, h⟩ := zb h
              obtain ⟨q16, eq16, h⟩ := zb h
              refine z_callVi X [.int (x2 + 1), .int x1] rfl dd_Mo_cutTokens_115 (c_Mo_at l eq16) (cwV 2 X.1.2.2.2.2 (zg_V km_1860 km_1862 km_65 km_138 km_1863) rfl rfl rfl (by decide +kernel) ⟨Nat.le_of_ble_eq_true rfl, Nat.le_of_ble_eq_true rfl⟩) (zob_s ew17) kc_12 rfl (Nat.le_of_ble_eq_true rfl) ⟨Nat.le_of_ble_eq_true rfl, Nat.le_of_ble_eq_true rfl⟩ ?_
              obtain ⟨q18, eq18, h⟩ := zb h
              refine z_callSi X [.int q3.1, .int q16.1] rfl dd_Mo_cutTokens_118 (c_Mo_signKind l eq18) (va_cwS 2 X.1.2.2.2.2 (zg_S km_1897 km_1898 km_138 km_1899) rfl rfl rfl (by decide +kernel) ⟨Nat.le_of_ble_eq_true rfl, Nat.le_of_ble_eq_true rfl⟩) rfl (Nat.le_of_ble_eq_true rfl) ⟨Nat.le_of_ble_eq_true rfl, Nat.le_of_ble_eq_true rfl⟩ ?_
              obtain ⟨c19, ec19, h⟩ := zb h
              refine z_iastore X dd_Mo_cutTokens_121 rfl ec19 ?_
              refine z_aload_n X dd_Mo_cutTokens_122 rfl 2 rfl ?_
              obtain ⟨v20, ev20, h⟩ := zb h
              refine z_get (j := 15) X dd_Mo_cutTokens_123 kc_12 ki_12 (by decide) km_1536 (zgr_v ev20) ?_
              refine z_aload_n X dd_Mo_cutTokens_126 rfl 2 rfl ?_
              obtain ⟨v21, ev21, h⟩ := zb h
              refine z_get (j := 17) X dd_Mo_cutTokens_127 kc_12 ki_12 (by decide) km_1538 (zgi_v ev21) ?_
              refine z_iconst (v := 0) X dd_Mo_cutTokens_130 (by decide) ?_
              obtain ⟨c22, ec22, h⟩ := zb h
              refine z_iastore X dd_Mo_cutTokens_131 rfl ec22 ?_
              refine z_iload X dd_Mo_cutTokens_132 0 rfl ?_
              refine z_aload_n X dd_Mo_cutTokens_134 rfl 2 rfl ?_
              obtain ⟨v23, ev23, h⟩ := zb h
              refine z_get (j := 14) X dd_Mo_cutTokens_135 kc_12 ki_12 (by decide) km_1535 (zgr_v ev23) ?_
              refine z_aload_n X dd_Mo_cutTokens_138 rfl 2 rfl ?_
              obtain ⟨v24, ev24, h⟩ := zb h
              refine z_get (j := 17) X dd_Mo_cutTokens_139 kc_12 ki_12 (by decide) km_1538 (zgi_v ev24) ?_
              obtain ⟨v25, ev25, h⟩ := zb h
              refine z_iaload X dd_Mo_cutTokens_142 rfl ev25 ?_
              refine z_sipush (v := 200) X dd_Mo_cutTokens_143 (by decide) ?_
              refine z_icmp_le (tgt := 153) X dd_Mo_cutTokens_146 (by decide) (fun q26 => ?_) (fun q26 => ?_)
              · rw [if_pos q26] at h
                refine z_iconst (v := 0) X dd_Mo_cutTokens_153 (by decide) ?_
                refine z_sub [2, 3] rfl ?_
                exact t_Mo_cutTokens_154 X H h k0 k1
              · rw [if_neg q26] at h
                refine z_iconst (v := 1) X dd_Mo_cutTokens_149 (by decide) ?_
                refine z_goto (tgt := 154) X dd_Mo_cutTokens_150 (by decide) ?_
                refine z_sub [2, 3] rfl ?_
                exact t_Mo_cutTokens_154 X H h k0 k1
            · rw [if_neg q13] at h
              refine z_sub [2, 3, 4, 0] rfl ?_
              exact t_Mo_cutTokens_71 X H h k0 k1
          · rw [if_pos q8] at h
            refine z_sub [1, 2, 3] rfl ?_
            exact t_Mo_cutTokens_43 X H h k0 k1
set_option maxRecDepth 100000 in
set_option maxHeartbeats 4000000 in
theorem t_Mo_cutTokens_7  (X : zX p s m args cd D cid B bb_Mo_cutTokens 5 rr_Mo zT) (H : zH s meth B n0 none "cutTokens") {nf : Nat} {x0 : Nat} {x1 : Int32} {x2 : Int32} {c : Zc} {res : Zc} (h : f_Mo_cutTokens_7 nf x0 x1 x2 c = some res) : Zz p l e (zRm 2 48 0 0) s m args below meth cd (MQ below (zQv D cid B res n0 0) args s 0 0 (fun q => B ≤ q)) D cid B 5 0 0 c 7 [(0, .ref x0), (1, .int x1), (2, .int x2)] [] := by
  unfold f_Mo_cutTokens_7 at h
  obtain ⟨b, eb, h⟩ := zb h
  refine zlp_ok (P := fun a : Nat × Int32 × Int32 × Zc => Zz p l e (zRm 2 48 0 0) s m args below meth cd _ D cid B 5 0 0 a.2.2.2 7 [(0, .ref a.1), (1, .int a.2.1), (2, .int a.2.2.1)] []) (G := fun b : Nat × Int32 × Zc => Zz p l e (zRm 2 48 0 0) s m args below meth cd _ D cid B 5 0 0 b.2.2 173 [(0, .ref b.1), (1, .int b.2.1)] []) (fun a r ha k0 k1 => u_Mo_cutTokens_7 X H ha k0 k1) nf _ b eb ?_
  refine z_aload_n X dd_Mo_cutTokens_173 rfl 0 rfl ?_
  obtain ⟨v35, ev35, h⟩ := zb h
  refine z_get (j := 14) X dd_Mo_cutTokens_174 kc_12 ki_12 (by decide) km_1535 (zgr_v ev35) ?_
  refine z_aload_n X dd_Mo_cutTokens_177 rfl 0 rfl ?_
  obtain ⟨v36, ev36, h⟩ := zb h
  refine z_get (j := 17) X dd_Mo_cutTokens_178 kc_12 ki_12 (by decide) km_1538 (zgi_v ev36) ?_
  refine z_iconst (v := 0) X dd_Mo_cutTokens_181 (by decide) ?_
  obtain ⟨c37, ec37, h⟩ := zb h
  refine z_iastore X dd_Mo_cutTokens_182 rfl ec37 ?_
  refine z_aload_n X dd_Mo_cutTokens_183 rfl 0 rfl ?_
  obtain ⟨v38, ev38, h⟩ := zb h
  refine z_get (j := 16) X dd_Mo_cutTokens_184 kc_12 ki_12 (by decide) km_1537 (zgr_v ev38) ?_
  refine z_aload_n X dd_Mo_cutTokens_187 rfl 0 rfl ?_
  obtain ⟨v39, ev39, h⟩ := zb h
  refine z_get (j := 17) X dd_Mo_cutTokens_188 kc_12 ki_12 (by decide) km_1538 (zgi_v ev39) ?_
  refine z_iload_n X dd_Mo_cutTokens_191 rfl 1 rfl ?_
  obtain ⟨c40, ec40, h⟩ := zb h
  refine z_iastore X dd_Mo_cutTokens_192 rfl ec40 ?_
  obtain rfl := Option.some.inj h
  exact z_vret X H.1 H.2.1 H.2.2.1 dd_Mo_cutTokens_193
set_option maxRecDepth 100000 in
set_option maxHeartbeats 4000000 in
theorem c_Mo_cutTokens (l : Launch) {nf : Nat} {a0 : Nat} {a1 : Int32} {c : Zc} {res : Zc} (h : f_Mo_cutTokens nf a0 a1 c = some res) : zM l yy_Mo_cutTokens ww_Mo_cutTokens 2 48 0 0 [.ref a0, .int a1] c (fun D cid B => zQv D cid B res c.length 0) := by
  refine z_met (cc := bb_Mo_cutTokens) (maxL := 5) (ret := none) (by decide +kernel) rfl (Nat.le_of_ble_eq_true rfl) ?_
  intro p e s m args below meth cd D cid B X h1 h2 h3 h4
  have X : zX p s m args cd D cid B bb_Mo_cutTokens 5 rr_Mo zT := X
  have H : zH s meth B c.length none "cutTokens" := ⟨h1, h2, h4, h3⟩
  unfold f_Mo_cutTokens at h
  show Zz p l e (zRm 2 48 0 0) s m args below meth cd _ D cid B 5 0 0 c 0 [(0, .ref a0), (1, .int a1)] []
  refine z_aload_n X dd_Mo_cutTokens_0 rfl 0 rfl ?_
  refine z_iconst (v := 0) X dd_Mo_cutTokens_1 (by decide) ?_
  obtain ⟨c1, ec1, h⟩ := zb h
  refine z_put (j := 17) X dd_Mo_cutTokens_2 kc_12 ki_12 tt_Mo tk_Mo nn_Mo (by decide) km_1538 rfl (tk_Mo 17 (by decide)) rfl rfl ec1 ?_
  refine z_iconst (v := 0) X dd_Mo_cutTokens_5 (by decide) ?_
  refine z_istore_n (lv' := [(2, .int 0), (0, .ref a0), (1, .int a1)]) X dd_Mo_cutTokens_6 rfl (by decide) rfl ?_
  refine z_sub [1, 2, 0] rfl ?_
  exact t_Mo_cutTokens_7 X H h
theorem dd_Mo_refuse_0 : decode bb_Mo_refuse 0 = .ok (.aload_n 0, 1) := by decide +kernel
theorem dd_Mo_refuse_1 : decode bb_Mo_refuse 1 = .ok (.getfield 294, 3) := by decide +kernel
theorem dd_Mo_refuse_4 : decode bb_Mo_refuse 4 = .ok (.ifCond .ne 13, 3) := by decide +kernel
theorem dd_Mo_refuse_7 : decode bb_Mo_refuse 7 = .ok (.aload_n 0, 1) := by decide +kernel
theorem dd_Mo_refuse_8 : decode bb_Mo_refuse 8 = .ok (.iload_n 1, 1) := by decide +kernel
theorem dd_Mo_refuse_9 : decode bb_Mo_refuse 9 = .ok (.putfield 294, 3) := by decide +kernel
theorem dd_Mo_refuse_12 : decode bb_Mo_refuse 12 = .ok (.aload_n 0, 1) := by decide +kernel
theorem dd_Mo_refuse_13 : decode bb_Mo_refuse 13 = .ok (.iload_n 2, 1) := by decide +kernel
theorem dd_Mo_refuse_14 : decode bb_Mo_refuse 14 = .ok (.putfield 297, 3) := by decide +kernel
theorem dd_Mo_refuse_17 : decode bb_Mo_refuse 17 = .ok (.return_, 1) := by decide +kernel
def f_Mo_refuse_17 (nf : Nat)  (c : Zc) : Option (Zc) :=
  some c
def f_Mo_refuse (nf : Nat) (a0 : Nat) (a1 : Int32) (a2 : Int32) (c : Zc) : Option (Zc) :=
  (zgi c a0 12 19).bind fun v1 => if v1 = 0 then ((zpv c a0 12 19 (.int a1)).bind fun c3 => (zpv c3 a0 12 20 (.int a2)).bind fun c4 => f_Mo_refuse_17 nf  c4) else (f_Mo_refuse_17 nf  c)
set_option maxRecDepth 100000 in
set_option maxHeartbeats 4000000 in
theorem t_Mo_refuse_17  (X : zX p s m args cd D cid B bb_Mo_refuse 3 rr_Mo zT) (H : zH s meth B n0 none "refuse") {nf : Nat}  {c : Zc} {res : Zc} (h : f_Mo_refuse_17 nf  c = some res) : Zz p l e (zRm 0 0 0 0) s m args below meth cd (MQ below (zQv D cid B res n0 0) args s 0 0 (fun q => B ≤ q)) D cid B 3 0 0 c 17 [] [] := by
  unfold f_Mo_refuse_17 at h
  obtain rfl := Option.some.inj h
  exact z_vret X H.1 H.2.1 H.2.2.1 dd_Mo_refuse_17
set_option maxRecDepth 100000 in
set_option maxHeartbeats 4000000 in
theorem c_Mo_refuse (l : Launch) {nf : Nat} {a0 : Nat} {a1 : Int32} {a2 : Int32} {c : Zc} {res : Zc} (h : f_Mo_refuse nf a0 a1 a2 c = some res) : zM l yy_Mo_refuse ww_Mo_refuse 0 0 0 0 [.ref a0, .int a1, .int a2] c (fun D cid B => zQv D cid B res c.length 0) := by
  refine z_met (cc := bb_Mo_refuse) (maxL := 3) (ret := none) (by decide +kernel) rfl (Nat.le_of_ble_eq_true rfl) ?_
  intro p e s m args below meth cd D cid B X h1 h2 h3 h4
  have X : zX p s m args cd D cid B bb_Mo_refuse 3 rr_Mo zT := X
  have H : zH s meth B c.length none "refuse" := ⟨h1, h2, h4, h3⟩
  unfold f_Mo_refuse at h
  show Zz p l e (zRm 0 0 0 0) s m args below meth cd _ D cid B 3 0 0 c 0 [(0, .ref a0), (1, .int a1), (2, .int a2)] []
  refine z_aload_n X dd_Mo_refuse_0 rfl 0 rfl ?_
  obtain ⟨v1, ev1, h⟩ := zb h
  refine z_get (j := 19) X dd_Mo_refuse_1 kc_12 ki_12 (by decide) km_1540 (zgi_v ev1) ?_
  refine z_if_ne (tgt := 17) X dd_Mo_refuse_4 (by decide) (fun q2 => ?_) (fun q2 => ?_)
  · rw [if_neg q2] at h
    refine z_sub [] rfl ?_
    exact t_Mo_refuse_17 X H h
  · rw [if_pos q2] at h
    refine z_aload_n X dd_Mo_refuse_7 rfl 0 rfl ?_
    refine z_iload_n X dd_Mo_refuse_8 rfl 1 rfl ?_
    obtain ⟨c3, ec3, h⟩ := zb h
    refine z_put (j := 19) X dd_Mo_refuse_9 kc_12 ki_12 tt_Mo tk_Mo nn_Mo (by decide) km_1540 rfl (tk_Mo 19 (by decide)) rfl rfl ec3 ?_
    refine z_aload_n X dd_Mo_refuse_12 rfl 0 rfl ?_
    refine z_iload_n X dd_Mo_refuse_13 rfl 2 rfl ?_
    obtain ⟨c4, ec4, h⟩ := zb h
    refine z_put (j := 20) X dd_Mo_refuse_14 kc_12 ki_12 tt_Mo tk_Mo nn_Mo (by decide) km_1541 rfl (tk_Mo 20 (by decide)) rfl rfl ec4 ?_
    refine z_sub [] rfl ?_
    exact t_Mo_refuse_17 X H h
theorem dd_Mo_kind_0 : decode bb_Mo_kind 0 = .ok (.aload_n 0, 1) := by decide +kernel
theorem dd_Mo_kind_1 : decode bb_Mo_kind 1 = .ok (.getfield 43, 3) := by decide +kernel
theorem dd_Mo_kind_4 : decode bb_Mo_kind 4 = .ok (.aload_n 0, 1) := by decide +kernel
theorem dd_Mo_kind_5 : decode bb_Mo_kind 5 = .ok (.getfield 300, 3) := by decide +kernel
theorem dd_Mo_kind_8 : decode bb_Mo_kind 8 = .ok (.iaload, 1) := by decide +kernel
theorem dd_Mo_kind_9 : decode bb_Mo_kind 9 = .ok (.iconst 1, 1) := by decide +kernel
theorem dd_Mo_kind_10 : decode bb_Mo_kind 10 = .ok (.if_icmp .ne 17, 3) := by decide +kernel
theorem dd_Mo_kind_13 : decode bb_Mo_kind 13 = .ok (.aload_n 0, 1) := by decide +kernel
theorem dd_Mo_kind_14 : decode bb_Mo_kind 14 = .ok (.iconst 1, 1) := by decide +kernel
theorem dd_Mo_kind_15 : decode bb_Mo_kind 15 = .ok (.aload_n 0, 1) := by decide +kernel
theorem dd_Mo_kind_16 : decode bb_Mo_kind 16 = .ok (.getfield 49, 3) := by decide +kernel
theorem dd_Mo_kind_19 : decode bb_Mo_kind 19 = .ok (.aload_n 0, 1) := by decide +kernel
theorem dd_Mo_kind_20 : decode bb_Mo_kind 20 = .ok (.getfield 300, 3) := by decide +kernel
theorem dd_Mo_kind_23 : decode bb_Mo_kind 23 = .ok (.iaload, 1) := by decide +kernel
theorem dd_Mo_kind_24 : decode bb_Mo_kind 24 = .ok (.invokevirtual 303, 3) := by decide +kernel
theorem dd_Mo_kind_27 : decode bb_Mo_kind 27 = .ok (.aload_n 0, 1) := by decide +kernel
theorem dd_Mo_kind_28 : decode bb_Mo_kind 28 = .ok (.getfield 43, 3) := by decide +kernel
theorem dd_Mo_kind_31 : decode bb_Mo_kind 31 = .ok (.aload_n 0, 1) := by decide +kernel
theorem dd_Mo_kind_32 : decode bb_Mo_kind 32 = .ok (.getfield 300, 3) := by decide +kernel
theorem dd_Mo_kind_35 : decode bb_Mo_kind 35 = .ok (.iaload, 1) := by decide +kernel
theorem dd_Mo_kind_36 : decode bb_Mo_kind 36 = .ok (.ireturn, 1) := by decide +kernel
def f_Mo_kind_27 (nf : Nat) (x0 : Nat) (c : Zc) : Option (Int32 × Zc) :=
  (zgr c x0 12 14).bind fun v5 => (zgi c x0 12 18).bind fun v6 => (zai c v5 0 v6).bind fun v7 => some (v7, c)
def f_Mo_kind (nf : Nat) (a0 : Nat) (c : Zc) : Option (Int32 × Zc) :=
  (zgr c a0 12 14).bind fun v1 => (zgi c a0 12 18).bind fun v2 => (zai c v1 0 v2).bind fun v3 => if v3 = 1 then ((zgr c a0 12 16).bind fun v8 => (zgi c a0 12 18).bind fun v9 => (zai c v8 0 v9).bind fun v10 => (zob c a0 12).bind fun w12 => (f_Mo_refuse nf a0 1 v10 c).bind fun q11 => f_Mo_kind_27 nf a0 q11) else (f_Mo_kind_27 nf a0 c)
set_option maxRecDepth 100000 in
set_option maxHeartbeats 4000000 in
theorem t_Mo_kind_27  (X : zX p s m args cd D cid B bb_Mo_kind 1 rr_Mo zT) (H : zH s meth B n0 (some (.int)) "kind") {nf : Nat} {x0 : Nat} {c : Zc} {res : Int32 × Zc} (h : f_Mo_kind_27 nf x0 c = some res) : Zz p l e (zRm 1 22 0 0) s m args below meth cd (MQ below (zQi D cid B res.1 res.2 n0 0) args s 0 0 (fun q => B ≤ q)) D cid B 1 0 0 c 27 [(0, .ref x0)] [] := by
  unfold f_Mo_kind_27 at h
  refine z_aload_n X dd_Mo_kind_27 rfl 0 rfl ?_
  obtain ⟨v5, ev5, h⟩ := zb h
  refine z_get (j := 14) X dd_Mo_kind_28 kc_12 ki_12 (by decide) km_1535 (zgr_v ev5) ?_
  refine z_aload_n X dd_Mo_kind_31 rfl 0 rfl ?_
  obtain ⟨v6, ev6, h⟩ := zb h
  refine z_get (j := 18) X dd_Mo_kind_32 kc_12 ki_12 (by decide) km_1539 (zgi_v ev6) ?_
  obtain ⟨v7, ev7, h⟩ := zb h
  refine z_iaload X dd_Mo_kind_35 rfl ev7 ?_
  obtain rfl := Option.some.inj h
  exact z_iret X H.1 H.2.1 H.2.2.1 dd_Mo_kind_36
set_option maxRecDepth 100000 in
set_option maxHeartbeats 4000000 in
theorem c_Mo_kind (l : Launch) {nf : Nat} {a0 : Nat} {c : Zc} {res : Int32 × Zc} (h : f_Mo_kind nf a0 c = some res) : zM l yy_Mo_kind ww_Mo_kind 1 22 0 0 [.ref a0] c (fun D cid B => zQi D cid B res.1 res.2 c.length 0) := by
  refine z_met (cc := bb_Mo_kind) (maxL := 1) (ret := (some (.int))) (by decide +kernel) rfl (Nat.le_of_ble_eq_true rfl) ?_
  intro p e s m args below meth cd D cid B X h1 h2 h3 h4
  have X : zX p s m args cd D cid B bb_Mo_kind 1 rr_Mo zT := X
  have H : zH s meth B c.length (some (.int)) "kind" := ⟨h1, h2, h4, h3⟩
  unfold f_Mo_kind at h
  show Zz p l e (zRm 1 22 0 0) s m args below meth cd _ D cid B 1 0 0 c 0 [(0, .ref a0)] []
  refine z_aload_n X dd_Mo_kind_0 rfl 0 rfl ?_
  obtain ⟨v1, ev1, h⟩ := zb h
  refine z_get (j := 14) X dd_Mo_kind_1 kc_12 ki_12 (by decide) km_1535 (zgr_v ev1) ?_
  refine z_aload_n X dd_Mo_kind_4 rfl 0 rfl ?_
  obtain ⟨v2, ev2, h⟩ := zb h
  refine z_get (j := 18) X dd_Mo_kind_5 kc_12 ki_12 (by decide) km_1539 (zgi_v ev2) ?_
  obtain ⟨v3, ev3, h⟩ := zb h
  refine z_iaload X dd_Mo_kind_8 rfl ev3 ?_
  refine z_iconst (v := 1) X dd_Mo_kind_9 (by decide) ?_
  refine z_icmp_ne (tgt := 27) X dd_Mo_kind_10 (by decide) (fun q4 => ?_) (fun q4 => ?_)
  · rw [if_neg q4] at h
    exact t_Mo_kind_27 X H h
  · rw [if_pos q4] at h
    refine z_aload_n X dd_Mo_kind_13 rfl 0 rfl ?_
    refine z_iconst (v := 1) X dd_Mo_kind_14 (by decide) ?_
    refine z_aload_n X dd_Mo_kind_15 rfl 0 rfl ?_
    obtain ⟨v8, ev8, h⟩ := zb h
    refine z_get (j := 16) X dd_Mo_kind_16 kc_12 ki_12 (by decide) km_1537 (zgr_v ev8) ?_
    refine z_aload_n X dd_Mo_kind_19 rfl 0 rfl ?_
    obtain ⟨v9, ev9, h⟩ := zb h
    refine z_get (j := 18) X dd_Mo_kind_20 kc_12 ki_12 (by decide) km_1539 (zgi_v ev9) ?_
    obtain ⟨v10, ev10, h⟩ := zb h
    refine z_iaload X dd_Mo_kind_23 rfl ev10 ?_
    obtain ⟨w12, ew12, h⟩ := zb h
    obtain ⟨q11, eq11, h⟩ := zb h
    refine z_callVv X [.int 1, .int v10] rfl dd_Mo_kind_24 (c_Mo_refuse l eq11) (cwV 2 X.1.2.2.2.2 (zg_V km_1916 km_1918 km_71 km_138 km_1919) rfl rfl rfl (by decide +kernel) ⟨Nat.le_of_ble_eq_true rfl, Nat.le_of_ble_eq_true rfl⟩) (zob_s ew12) kc_12 rfl (Nat.le_of_ble_eq_true rfl) ⟨Nat.le_of_ble_eq_true rfl, Nat.le_of_ble_eq_true rfl⟩ ?_
    exact t_Mo_kind_27 X H h
theorem dd_Mo_wrong_0 : decode bb_Mo_wrong 0 = .ok (.aload_n 0, 1) := by decide +kernel
theorem dd_Mo_wrong_1 : decode bb_Mo_wrong 1 = .ok (.invokevirtual 306, 3) := by decide +kernel
theorem dd_Mo_wrong_4 : decode bb_Mo_wrong 4 = .ok (.pop, 1) := by decide +kernel
theorem dd_Mo_wrong_5 : decode bb_Mo_wrong 5 = .ok (.aload_n 0, 1) := by decide +kernel
theorem dd_Mo_wrong_6 : decode bb_Mo_wrong 6 = .ok (.iconst 2, 1) := by decide +kernel
theorem dd_Mo_wrong_7 : decode bb_Mo_wrong 7 = .ok (.aload_n 0, 1) := by decide +kernel
theorem dd_Mo_wrong_8 : decode bb_Mo_wrong 8 = .ok (.getfield 49, 3) := by decide +kernel
theorem dd_Mo_wrong_11 : decode bb_Mo_wrong 11 = .ok (.aload_n 0, 1) := by decide +kernel
theorem dd_Mo_wrong_12 : decode bb_Mo_wrong 12 = .ok (.getfield 300, 3) := by decide +kernel
theorem dd_Mo_wrong_15 : decode bb_Mo_wrong 15 = .ok (.iaload, 1) := by decide +kernel
theorem dd_Mo_wrong_16 : decode bb_Mo_wrong 16 = .ok (.invokevirtual 303, 3) := by decide +kernel
theorem dd_Mo_wrong_19 : decode bb_Mo_wrong 19 = .ok (.return_, 1) := by decide +kernel
def f_Mo_wrong (nf : Nat) (a0 : Nat) (c : Zc) : Option (Zc) :=
  (zob c a0 12).bind fun w2 => (f_Mo_kind nf a0 c).bind fun q1 => (zgr q1.2 a0 12 16).bind fun v3 => (zgi q1.2 a0 12 18).bind fun v4 => (zai q1.2 v3 0 v4).bind fun v5 => (zob q1.2 a0 12).bind fun w7 => (f_Mo_refuse nf a0 2 v5 q1.2).bind fun q6 => some q6
set_option maxRecDepth 100000 in
set_option maxHeartbeats 4000000 in
theorem c_Mo_wrong (l : Launch) {nf : Nat} {a0 : Nat} {c : Zc} {res : Zc} (h : f_Mo_wrong nf a0 c = some res) : zM l yy_Mo_wrong ww_Mo_wrong 2 42 0 0 [.ref a0] c (fun D cid B => zQv D cid B res c.length 0) := by
  refine z_met (cc := bb_Mo_wrong) (maxL := 1) (ret := none) (by decide +kernel) rfl (Nat.le_of_ble_eq_true rfl) ?_
  intro p e s m args below meth cd D cid B X h1 h2 h3 h4
  have X : zX p s m args cd D cid B bb_Mo_wrong 1 rr_Mo zT := X
  have H : zH s meth B c.length none "wrong" := ⟨h1, h2, h4, h3⟩
  unfold f_Mo_wrong at h
  show Zz p l e (zRm 2 42 0 0) s m args below meth cd _ D cid B 1 0 0 c 0 [(0, .ref a0)] []
  refine z_aload_n X dd_Mo_wrong_0 rfl 0 rfl ?_
  obtain ⟨w2, ew2, h⟩ := zb h
  obtain ⟨q1, eq1, h⟩ := zb h
  refine z_callVi X [] rfl dd_Mo_wrong_1 (c_Mo_kind l eq1) (cwV 0 X.1.2.2.2.2 (zg_V km_1912 km_1914 km_70 km_138 km_1915) rfl rfl rfl (by decide +kernel) ⟨Nat.le_of_ble_eq_true rfl, Nat.le_of_ble_eq_true rfl⟩) (zob_s ew2) kc_12 rfl (Nat.le_of_ble_eq_true rfl) ⟨Nat.le_of_ble_eq_true rfl, Nat.le_of_ble_eq_true rfl⟩ ?_
  refine z_pop X dd_Mo_wrong_4 rfl ?_
  refine z_aload_n X dd_Mo_wrong_5 rfl 0 rfl ?_
  refine z_iconst (v := 2) X dd_Mo_wrong_6 (by decide) ?_
  refine z_aload_n X dd_Mo_wrong_7 rfl 0 rfl ?_
  obtain ⟨v3, ev3, h⟩ := zb h
  refine z_get (j := 16) X dd_Mo_wrong_8 kc_12 ki_12 (by decide) km_1537 (zgr_v ev3) ?_
  refine z_aload_n X dd_Mo_wrong_11 rfl 0 rfl ?_
  obtain ⟨v4, ev4, h⟩ := zb h
  refine z_get (j := 18) X dd_Mo_wrong_12 kc_12 ki_12 (by decide) km_1539 (zgi_v ev4) ?_
  obtain ⟨v5, ev5, h⟩ := zb h
  refine z_iaload X dd_Mo_wrong_15 rfl ev5 ?_
  obtain ⟨w7, ew7, h⟩ := zb h
  obtain ⟨q6, eq6, h⟩ := zb h
  refine z_callVv X [.int 2, .int v5] rfl dd_Mo_wrong_16 (c_Mo_refuse l eq6) (cwV 2 X.1.2.2.2.2 (zg_V km_1916 km_1918 km_71 km_138 km_1919) rfl rfl rfl (by decide +kernel) ⟨Nat.le_of_ble_eq_true rfl, Nat.le_of_ble_eq_true rfl⟩) (zob_s ew7) kc_12 rfl (Nat.le_of_ble_eq_true rfl) ⟨Nat.le_of_ble_eq_true rfl, Nat.le_of_ble_eq_true rfl⟩ ?_
  obtain rfl := Option.some.inj h
  exact z_vret X H.1 H.2.1 H.2.2.1 dd_Mo_wrong_19
theorem dd_Mo_stands_0 : decode bb_Mo_stands 0 = .ok (.aload_n 0, 1) := by decide +kernel
theorem dd_Mo_stands_1 : decode bb_Mo_stands 1 = .ok (.getfield 300, 3) := by decide +kernel
theorem dd_Mo_stands_4 : decode bb_Mo_stands 4 = .ok (.sipush 200, 3) := by decide +kernel
theorem dd_Mo_stands_7 : decode bb_Mo_stands 7 = .ok (.if_icmp .lt 17, 3) := by decide +kernel
theorem dd_Mo_stands_10 : decode bb_Mo_stands 10 = .ok (.aload_n 0, 1) := by decide +kernel
theorem dd_Mo_stands_11 : decode bb_Mo_stands 11 = .ok (.iconst 3, 1) := by decide +kernel
theorem dd_Mo_stands_12 : decode bb_Mo_stands 12 = .ok (.aload_n 0, 1) := by decide +kernel
theorem dd_Mo_stands_13 : decode bb_Mo_stands 13 = .ok (.getfield 49, 3) := by decide +kernel
theorem dd_Mo_stands_16 : decode bb_Mo_stands 16 = .ok (.aload_n 0, 1) := by decide +kernel
theorem dd_Mo_stands_17 : decode bb_Mo_stands 17 = .ok (.getfield 300, 3) := by decide +kernel
theorem dd_Mo_stands_20 : decode bb_Mo_stands 20 = .ok (.iaload, 1) := by decide +kernel
theorem dd_Mo_stands_21 : decode bb_Mo_stands 21 = .ok (.invokevirtual 303, 3) := by decide +kernel
theorem dd_Mo_stands_24 : decode bb_Mo_stands 24 = .ok (.return_, 1) := by decide +kernel
def f_Mo_stands_24 (nf : Nat)  (c : Zc) : Option (Zc) :=
  some c
def f_Mo_stands (nf : Nat) (a0 : Nat) (c : Zc) : Option (Zc) :=
  (zgi c a0 12 18).bind fun v1 => if v1 < 200 then (f_Mo_stands_24 nf  c) else ((zgr c a0 12 16).bind fun v3 => (zgi c a0 12 18).bind fun v4 => (zai c v3 0 v4).bind fun v5 => (zob c a0 12).bind fun w7 => (f_Mo_refuse nf a0 3 v5 c).bind fun q6 => f_Mo_stands_24 nf  q6)
set_option maxRecDepth 100000 in
set_option maxHeartbeats 4000000 in
theorem t_Mo_stands_24  (X : zX p s m args cd D cid B bb_Mo_stands 1 rr_Mo zT) (H : zH s meth B n0 none "stands") {nf : Nat}  {c : Zc} {res : Zc} (h : f_Mo_stands_24 nf  c = some res) : Zz p l e (zRm 1 22 0 0) s m args below meth cd (MQ below (zQv D cid B res n0 0) args s 0 0 (fun q => B ≤ q)) D cid B 1 0 0 c 24 [] [] := by
  unfold f_Mo_stands_24 at h
  obtain rfl := Option.some.inj h
  exact z_vret X H.1 H.2.1 H.2.2.1 dd_Mo_stands_24
set_option maxRecDepth 100000 in
set_option maxHeartbeats 4000000 in
theorem c_Mo_stands (l : Launch) {nf : Nat} {a0 : Nat} {c : Zc} {res : Zc} (h : f_Mo_stands nf a0 c = some res) : zM l yy_Mo_stands ww_Mo_stands 1 22 0 0 [.ref a0] c (fun D cid B => zQv D cid B res c.length 0) := by
  refine z_met (cc := bb_Mo_stands) (maxL := 1) (ret := none) (by decide +kernel) rfl (Nat.le_of_ble_eq_true rfl) ?_
  intro p e s m args below meth cd D cid B X h1 h2 h3 h4
  have X : zX p s m args cd D cid B bb_Mo_stands 1 rr_Mo zT := X
  have H : zH s meth B c.length none "stands" := ⟨h1, h2, h4, h3⟩
  unfold f_Mo_stands at h
  show Zz p l e (zRm 1 22 0 0) s m args below meth cd _ D cid B 1 0 0 c 0 [(0, .ref a0)] []
  refine z_aload_n X dd_Mo_stands_0 rfl 0 rfl ?_
  obtain ⟨v1, ev1, h⟩ := zb h
  refine z_get (j := 18) X dd_Mo_stands_1 kc_12 ki_12 (by decide) km_1539 (zgi_v ev1) ?_
  refine z_sipush (v := 200) X dd_Mo_stands_4 (by decide) ?_
  refine z_icmp_lt (tgt := 24) X dd_Mo_stands_7 (by decide) (fun q2 => ?_) (fun q2 => ?_)
  · rw [if_pos q2] at h
    refine z_sub [] rfl ?_
    exact t_Mo_stands_24 X H h
  · rw [if_neg q2] at h
    refine z_aload_n X dd_Mo_stands_10 rfl 0 rfl ?_
    refine z_iconst (v := 3) X dd_Mo_stands_11 (by decide) ?_
    refine z_aload_n X dd_Mo_stands_12 rfl 0 rfl ?_
    obtain ⟨v3, ev3, h⟩ := zb h
    refine z_get (j := 16) X dd_Mo_stands_13 kc_12 ki_12 (by decide) km_1537 (zgr_v ev3) ?_
    refine z_aload_n X dd_Mo_stands_16 rfl 0 rfl ?_
    obtain ⟨v4, ev4, h⟩ := zb h
    refine z_get (j := 18) X dd_Mo_stands_17 kc_12 ki_12 (by decide) km_1539 (zgi_v ev4) ?_
    obtain ⟨v5, ev5, h⟩ := zb h
    refine z_iaload X dd_Mo_stands_20 rfl ev5 ?_
    obtain ⟨w7, ew7, h⟩ := zb h
    obtain ⟨q6, eq6, h⟩ := zb h
    refine z_callVv X [.int 3, .int v5] rfl dd_Mo_stands_21 (c_Mo_refuse l eq6) (cwV 2 X.1.2.2.2.2 (zg_V km_1916 km_1918 km_71 km_138 km_1919) rfl rfl rfl (by decide +kernel) ⟨Nat.le_of_ble_eq_true rfl, Nat.le_of_ble_eq_true rfl⟩) (zob_s ew7) kc_12 rfl (Nat.le_of_ble_eq_true rfl) ⟨Nat.le_of_ble_eq_true rfl, Nat.le_of_ble_eq_true rfl⟩ ?_
    refine z_sub [] rfl ?_
    exact t_Mo_stands_24 X H h
theorem dd_Mo_pass_0 : decode bb_Mo_pass 0 = .ok (.aload_n 0, 1) := by decide +kernel
theorem dd_Mo_pass_1 : decode bb_Mo_pass 1 = .ok (.invokevirtual 310, 3) := by decide +kernel
theorem dd_Mo_pass_4 : decode bb_Mo_pass 4 = .ok (.aload_n 0, 1) := by decide +kernel
theorem dd_Mo_pass_5 : decode bb_Mo_pass 5 = .ok (.getfield 294, 3) := by decide +kernel
theorem dd_Mo_pass_8 : decode bb_Mo_pass 8 = .ok (.ifCond .ne 13, 3) := by decide +kernel
theorem dd_Mo_pass_11 : decode bb_Mo_pass 11 = .ok (.aload_n 0, 1) := by decide +kernel
theorem dd_Mo_pass_12 : decode bb_Mo_pass 12 = .ok (.dup, 1) := by decide +kernel
theorem dd_Mo_pass_13 : decode bb_Mo_pass 13 = .ok (.getfield 300, 3) := by decide +kernel
theorem dd_Mo_pass_16 : decode bb_Mo_pass 16 = .ok (.iconst 1, 1) := by decide +kernel
theorem dd_Mo_pass_17 : decode bb_Mo_pass 17 = .ok (.iadd, 1) := by decide +kernel
theorem dd_Mo_pass_18 : decode bb_Mo_pass 18 = .ok (.putfield 300, 3) := by decide +kernel
theorem dd_Mo_pass_21 : decode bb_Mo_pass 21 = .ok (.return_, 1) := by decide +kernel
def f_Mo_pass_21 (nf : Nat)  (c : Zc) : Option (Zc) :=
  some c
def f_Mo_pass (nf : Nat) (a0 : Nat) (c : Zc) : Option (Zc) :=
  (zob c a0 12).bind fun w2 => (f_Mo_stands nf a0 c).bind fun q1 => (zgi q1 a0 12 19).bind fun v3 => if v3 = 0 then ((zgi q1 a0 12 18).bind fun v5 => (zpv q1 a0 12 18 (.int (v5 + 1))).bind fun c6 => f_Mo_pass_21 nf  c6) else (f_Mo_pass_21 nf  q1)
set_option maxRecDepth 100000 in
set_option maxHeartbeats 4000000 in
theorem t_Mo_pass_21  (X : zX p s m args cd D cid B bb_Mo_pass 1 rr_Mo zT) (H : zH s meth B n0 none "pass") {nf : Nat}  {c : Zc} {res : Zc} (h : f_Mo_pass_21 nf  c = some res) : Zz p l e (zRm 2 42 0 0) s m args below meth cd (MQ below (zQv D cid B res n0 0) args s 0 0 (fun q => B ≤ q)) D cid B 1 0 0 c 21 [] [] := by
  unfold f_Mo_pass_21 at h
  obtain rfl := Option.some.inj h
  exact z_vret X H.1 H.2.1 H.2.2.1 dd_Mo_pass_21
set_option maxRecDepth 100000 in
set_option maxHeartbeats 4000000 in
theorem c_Mo_pass (l : Launch) {nf : Nat} {a0 : Nat} {c : Zc} {res : Zc} (h : f_Mo_pass nf a0 c = some res) : zM l yy_Mo_pass ww_Mo_pass 2 42 0 0 [.ref a0] c (fun D cid B => zQv D cid B res c.length 0) := by
  refine z_met (cc := bb_Mo_pass) (maxL := 1) (ret := none) (by decide +kernel) rfl (Nat.le_of_ble_eq_true rfl) ?_
  intro p e s m args below meth cd D cid B X h1 h2 h3 h4
  have X : zX p s m args cd D cid B bb_Mo_pass 1 rr_Mo zT := X
  have H : zH s meth B c.length none "pass" := ⟨h1, h2, h4, h3⟩
  unfold f_Mo_pass at h
  show Zz p l e (zRm 2 42 0 0) s m args below meth cd _ D cid B 1 0 0 c 0 [(0, .ref a0)] []
  refine z_aload_n X dd_Mo_pass_0 rfl 0 rfl ?_
  obtain ⟨w2, ew2, h⟩ := zb h
  obtain ⟨q1, eq1, h⟩ := zb h
  refine z_callVv X [] rfl dd_Mo_pass_1 (c_Mo_stands l eq1) (cwV 0 X.1.2.2.2.2 (zg_V km_1924 km_1926 km_73 km_138 km_1927) rfl rfl rfl (by decide +kernel) ⟨Nat.le_of_ble_eq_true rfl, Nat.le_of_ble_eq_true rfl⟩) (zob_s ew2) kc_12 rfl (Nat.le_of_ble_eq_true rfl) ⟨Nat.le_of_ble_eq_true rfl, Nat.le_of_ble_eq_true rfl⟩ ?_
  refine z_aload_n X dd_Mo_pass_4 rfl 0 rfl ?_
  obtain ⟨v3, ev3, h⟩ := zb h
  refine z_get (j := 19) X dd_Mo_pass_5 kc_12 ki_12 (by decide) km_1540 (zgi_v ev3) ?_
  refine z_if_ne (tgt := 21) X dd_Mo_pass_8 (by decide) (fun q4 => ?_) (fun q4 => ?_)
  · rw [if_neg q4] at h
    refine z_sub [] rfl ?_
    exact t_Mo_pass_21 X H h
  · rw [if_pos q4] at h
    refine z_aload_n X dd_Mo_pass_11 rfl 0 rfl ?_
    refine z_dup X dd_Mo_pass_12 rfl ?_
    obtain ⟨v5, ev5, h⟩ := zb h
    refine z_get (j := 18) X dd_Mo_pass_13 kc_12 ki_12 (by decide) km_1539 (zgi_v ev5) ?_
    refine z_iconst (v := 1) X dd_Mo_pass_16 (by decide) ?_
    refine z_iadd X dd_Mo_pass_17 ?_
    obtain ⟨c6, ec6, h⟩ := zb h
    refine z_put (j := 18) X dd_Mo_pass_18 kc_12 ki_12 tt_Mo tk_Mo nn_Mo (by decide) km_1539 rfl (tk_Mo 18 (by decide)) rfl rfl ec6 ?_
    refine z_sub [] rfl ?_
    exact t_Mo_pass_21 X H h
theorem dd_Mo_takes_0 : decode bb_Mo_takes 0 = .ok (.aload_n 0, 1) := by decide +kernel
theorem dd_Mo_takes_1 : decode bb_Mo_takes 1 = .ok (.getfield 294, 3) := by decide +kernel
theorem dd_Mo_takes_4 : decode bb_Mo_takes 4 = .ok (.ifCond .ne 11, 3) := by decide +kernel
theorem dd_Mo_takes_7 : decode bb_Mo_takes 7 = .ok (.aload_n 0, 1) := by decide +kernel
theorem dd_Mo_takes_8 : decode bb_Mo_takes 8 = .ok (.invokevirtual 306, 3) := by decide +kernel
theorem dd_Mo_takes_11 : decode bb_Mo_takes 11 = .ok (.iload_n 1, 1) := by decide +kernel
theorem dd_Mo_takes_12 : decode bb_Mo_takes 12 = .ok (.if_icmp .eq 5, 3) := by decide +kernel
theorem dd_Mo_takes_15 : decode bb_Mo_takes 15 = .ok (.iconst 0, 1) := by decide +kernel
theorem dd_Mo_takes_16 : decode bb_Mo_takes 16 = .ok (.ireturn, 1) := by decide +kernel
theorem dd_Mo_takes_17 : decode bb_Mo_takes 17 = .ok (.aload_n 0, 1) := by decide +kernel
theorem dd_Mo_takes_18 : decode bb_Mo_takes 18 = .ok (.invokevirtual 313, 3) := by decide +kernel
theorem dd_Mo_takes_21 : decode bb_Mo_takes 21 = .ok (.aload_n 0, 1) := by decide +kernel
theorem dd_Mo_takes_22 : decode bb_Mo_takes 22 = .ok (.getfield 294, 3) := by decide +kernel
theorem dd_Mo_takes_25 : decode bb_Mo_takes 25 = .ok (.ifCond .ne 7, 3) := by decide +kernel
theorem dd_Mo_takes_28 : decode bb_Mo_takes 28 = .ok (.iconst 1, 1) := by decide +kernel
theorem dd_Mo_takes_29 : decode bb_Mo_takes 29 = .ok (.goto 4, 3) := by decide +kernel
theorem dd_Mo_takes_32 : decode bb_Mo_takes 32 = .ok (.iconst 0, 1) := by decide +kernel
theorem dd_Mo_takes_33 : decode bb_Mo_takes 33 = .ok (.ireturn, 1) := by decide +kernel
def f_Mo_takes_15 (nf : Nat)  (c : Zc) : Option (Int32 × Zc) :=
  zrz 0 c
def f_Mo_takes_33 (nf : Nat) (s0 : Int32) (c : Zc) : Option (Int32 × Zc) :=
  zrz s0 c
def f_Mo_takes (nf : Nat) (a0 : Nat) (a1 : Int32) (c : Zc) : Option (Int32 × Zc) :=
  (zgi c a0 12 19).bind fun v1 => if v1 = 0 then ((zob c a0 12).bind fun w4 => (f_Mo_kind nf a0 c).bind fun q3 => if q3.1 = a1 then ((zob q3.2 a0 12).bind fun w7 => (f_Mo_pass nf a0 q3.2).bind fun q6 => (zgi q6 a0 12 19).bind fun v8 => if v8 = 0 then (f_Mo_takes_33 nf 1 q6) else (f_Mo_takes_33 nf 0 q6)) else (f_Mo_takes_15 nf  q3.2)) else (f_Mo_takes_15 nf  c)
set_option maxRecDepth 100000 in
set_option maxHeartbeats 4000000 in
theorem t_Mo_takes_15  (X : zX p s m args cd D cid B bb_Mo_takes 2 rr_Mo zT) (H : zH s meth B n0 (some (.boolean)) "takes") {nf : Nat}  {c : Zc} {res : Int32 × Zc} (h : f_Mo_takes_15 nf  c = some res) : Zz p l e (zRm 3 62 0 0) s m args below meth cd (MQ below (zQi D cid B res.1 res.2 n0 0) args s 0 0 (fun q => B ≤ q)) D cid B 2 0 0 c 15 [] [] := by
  unfold f_Mo_takes_15 at h
  refine z_iconst (v := 0) X dd_Mo_takes_15 (by decide) ?_
  obtain ⟨hz, h⟩ := zrz_s h
  obtain rfl := h
  exact z_zret X H.1 (zn_z hz) H.2.1 H.2.2.1 dd_Mo_takes_16
set_option maxRecDepth 100000 in
set_option maxHeartbeats 4000000 in
theorem t_Mo_takes_33  (X : zX p s m args cd D cid B bb_Mo_takes 2 rr_Mo zT) (H : zH s meth B n0 (some (.boolean)) "takes") {nf : Nat} {s0 : Int32} {c : Zc} {res : Int32 × Zc} (h : f_Mo_takes_33 nf s0 c = some res) : Zz p l e (zRm 3 62 0 0) s m args below meth cd (MQ below (zQi D cid B res.1 res.2 n0 0) args s 0 0 (fun q => B ≤ q)) D cid B 2 0 0 c 33 [] [.int s0] := by
  unfold f_Mo_takes_33 at h
  obtain ⟨hz, h⟩ := zrz_s h
  obtain rfl := h
  exact z_zret X H.1 (zn_z hz) H.2.1 H.2.2.1 dd_Mo_takes_33
set_option maxRecDepth 100000 in
set_option maxHeartbeats 4000000 in
theorem c_Mo_takes (l : Launch) {nf : Nat} {a0 : Nat} {a1 : Int32} {c : Zc} {res : Int32 × Zc} (h : f_Mo_takes nf a0 a1 c = some res) : zM l yy_Mo_takes ww_Mo_takes 3 62 0 0 [.ref a0, .int a1] c (fun D cid B => zQi D cid B res.1 res.2 c.length 0) := by
  refine z_met (cc := bb_Mo_takes) (maxL := 2) (ret := (some (.boolean))) (by decide +kernel) rfl (Nat.le_of_ble_eq_true rfl) ?_
  intro p e s m args below meth cd D cid B X h1 h2 h3 h4
  have X : zX p s m args cd D cid B bb_Mo_takes 2 rr_Mo zT := X
  have H : zH s meth B c.length (some (.boolean)) "takes" := ⟨h1, h2, h4, h3⟩
  unfold f_Mo_takes at h
  show Zz p l e (zRm 3 62 0 0) s m args below meth cd _ D cid B 2 0 0 c 0 [(0, .ref a0), (1, .int a1)] []
  refine z_aload_n X dd_Mo_takes_0 rfl 0 rfl ?_
  obtain ⟨v1, ev1, h⟩ := zb h
  refine z_get (j := 19) X dd_Mo_takes_1 kc_12 ki_12 (by decide) km_1540 (zgi_v ev1) ?_
  refine z_if_ne (tgt := 15) X dd_Mo_takes_4 (by decide) (fun q2 => ?_) (fun q2 => ?_)
  · rw [if_neg q2] at h
    refine z_sub [] rfl ?_
    exact t_Mo_takes_15 X H h
  · rw [if_pos q2] at h
    refine z_aload_n X dd_Mo_takes_7 rfl 0 rfl ?_
    obtain ⟨w4, ew4, h⟩ := zb h
    obtain ⟨q3, eq3, h⟩ := zb h
    refine z_callVi X [] rfl dd_Mo_takes_8 (c_Mo_kind l eq3) (cwV 0 X.1.2.2.2.2 (zg_V km_1912 km_1914 km_70 km_138 km_1915) rfl rfl rfl (by decide +kernel) ⟨Nat.le_of_ble_eq_true rfl, Nat.le_of_ble_eq_true rfl⟩) (zob_s ew4) kc_12 rfl (Nat.le_of_ble_eq_true rfl) ⟨Nat.le_of_ble_eq_true rfl, Nat.le_of_ble_eq_true rfl⟩ ?_
    refine z_iload_n X dd_Mo_takes_11 rfl 1 rfl ?_
    refine z_icmp_eq (tgt := 17) X dd_Mo_takes_12 (by decide) (fun q5 => ?_) (fun q5 => ?_)
    · rw [if_pos q5] at h
      refine z_aload_n X dd_Mo_takes_17 rfl 0 rfl ?_
      obtain ⟨w7, ew7, h⟩ := zb h
      obtain ⟨q6, eq6, h⟩ := zb h
      refine z_callVv X [] rfl dd_Mo_takes_18 (c_Mo_pass l eq6) (cwV 0 X.1.2.2.2.2 (zg_V km_1920 km_1922 km_72 km_138 km_1923) rfl rfl rfl (by decide +kernel) ⟨Nat.le_of_ble_eq_true rfl, Nat.le_of_ble_eq_true rfl⟩) (zob_s ew7) kc_12 rfl (Nat.le_of_ble_eq_true rfl) ⟨Nat.le_of_ble_eq_true rfl, Nat.le_of_ble_eq_true rfl⟩ ?_
      refine z_aload_n X dd_Mo_takes_21 rfl 0 rfl ?_
      obtain ⟨v8, ev8, h⟩ := zb h
      refine z_get (j := 19) X dd_Mo_takes_22 kc_12 ki_12 (by decide) km_1540 (zgi_v ev8) ?_
      refine z_if_ne (tgt := 32) X dd_Mo_takes_25 (by decide) (fun q9 => ?_) (fun q9 => ?_)
      · rw [if_neg q9] at h
        refine z_iconst (v := 0) X dd_Mo_takes_32 (by decide) ?_
        refine z_sub [] rfl ?_
        exact t_Mo_takes_33 X H h
      · rw [if_pos q9] at h
        refine z_iconst (v := 1) X dd_Mo_takes_28 (by decide) ?_
        refine z_goto (tgt := 33) X dd_Mo_takes_29 (by decide) ?_
        refine z_sub [] rfl ?_
        exact t_Mo_takes_33 X H h
    · rw [if_neg q5] at h
      refine z_sub [] rfl ?_
      exact t_Mo_takes_15 X H h
theorem dd_Mo_need_0 : decode bb_Mo_need 0 = .ok (.aload_n 0, 1) := by decide +kernel
theorem dd_Mo_need_1 : decode bb_Mo_need 1 = .ok (.getfield 294, 3) := by decide +kernel
theorem dd_Mo_need_4 : decode bb_Mo_need 4 = .ok (.ifCond .ne 15, 3) := by decide +kernel
theorem dd_Mo_need_7 : decode bb_Mo_need 7 = .ok (.aload_n 0, 1) := by decide +kernel
theorem dd_Mo_need_8 : decode bb_Mo_need 8 = .ok (.iload_n 1, 1) := by decide +kernel
theorem dd_Mo_need_9 : decode bb_Mo_need 9 = .ok (.invokevirtual 316, 3) := by decide +kernel
theorem dd_Mo_need_12 : decode bb_Mo_need 12 = .ok (.ifCond .ne 7, 3) := by decide +kernel
theorem dd_Mo_need_15 : decode bb_Mo_need 15 = .ok (.aload_n 0, 1) := by decide +kernel
theorem dd_Mo_need_16 : decode bb_Mo_need 16 = .ok (.invokevirtual 319, 3) := by decide +kernel
theorem dd_Mo_need_19 : decode bb_Mo_need 19 = .ok (.return_, 1) := by decide +kernel
def f_Mo_need_19 (nf : Nat)  (c : Zc) : Option (Zc) :=
  some c
def f_Mo_need (nf : Nat) (a0 : Nat) (a1 : Int32) (c : Zc) : Option (Zc) :=
  (zgi c a0 12 19).bind fun v1 => if v1 = 0 then ((zob c a0 12).bind fun w4 => (f_Mo_takes nf a0 a1 c).bind fun q3 => if q3.1 = 0 then ((zob q3.2 a0 12).bind fun w7 => (f_Mo_wrong nf a0 q3.2).bind fun q6 => f_Mo_need_19 nf  q6) else (f_Mo_need_19 nf  q3.2)) else (f_Mo_need_19 nf  c)
set_option maxRecDepth 100000 in
set_option maxHeartbeats 4000000 in
theorem t_Mo_need_19  (X : zX p s m args cd D cid B bb_Mo_need 2 rr_Mo zT) (H : zH s meth B n0 none "need") {nf : Nat}  {c : Zc} {res : Zc} (h : f_Mo_need_19 nf  c = some res) : Zz p l e (zRm 4 83 0 0) s m args below meth cd (MQ below (zQv D cid B res n0 0) args s 0 0 (fun q => B ≤ q)) D cid B 2 0 0 c 19 [] [] := by
  unfold f_Mo_need_19 at h
  obtain rfl := Option.some.inj h
  exact z_vret X H.1 H.2.1 H.2.2.1 dd_Mo_need_19
set_option maxRecDepth 100000 in
set_option maxHeartbeats 4000000 in
theorem c_Mo_need (l : Launch) {nf : Nat} {a0 : Nat} {a1 : Int32} {c : Zc} {res : Zc} (h : f_Mo_need nf a0 a1 c = some res) : zM l yy_Mo_need ww_Mo_need 4 83 0 0 [.ref a0, .int a1] c (fun D cid B => zQv D cid B res c.length 0) := by
  refine z_met (cc := bb_Mo_need) (maxL := 2) (ret := none) (by decide +kernel) rfl (Nat.le_of_ble_eq_true rfl) ?_
  intro p e s m args below meth cd D cid B X h1 h2 h3 h4
  have X : zX p s m args cd D cid B bb_Mo_need 2 rr_Mo zT := X
  have H : zH s meth B c.length none "need" := ⟨h1, h2, h4, h3⟩
  unfold f_Mo_need at h
  show Zz p l e (zRm 4 83 0 0) s m args below meth cd _ D cid B 2 0 0 c 0 [(0, .ref a0), (1, .int a1)] []
  refine z_aload_n X dd_Mo_need_0 rfl 0 rfl ?_
  obtain ⟨v1, ev1, h⟩ := zb h
  refine z_get (j := 19) X dd_Mo_need_1 kc_12 ki_12 (by decide) km_1540 (zgi_v ev1) ?_
  refine z_if_ne (tgt := 19) X dd_Mo_need_4 (by decide) (fun q2 => ?_) (fun q2 => ?_)
  · rw [if_neg q2] at h
    refine z_sub [] rfl ?_
    exact t_Mo_need_19 X H h
  · rw [if_pos q2] at h
    refine z_aload_n X dd_Mo_need_7 rfl 0 rfl ?_
    refine z_iload_n X dd_Mo_need_8 rfl 1 rfl ?_
    obtain ⟨w4, ew4, h⟩ := zb h
    obtain ⟨q3, eq3, h⟩ := zb h
    refine z_callVi X [.int a1] rfl dd_Mo_need_9 (c_Mo_takes l eq3) (cwV 1 X.1.2.2.2.2 (zg_V km_1908 km_1910 km_69 km_138 km_1911) rfl rfl rfl (by decide +kernel) ⟨Nat.le_of_ble_eq_true rfl, Nat.le_of_ble_eq_true rfl⟩) (zob_s ew4) kc_12 rfl (Nat.le_of_ble_eq_true rfl) ⟨Nat.le_of_ble_eq_true rfl, Nat.le_of_ble_eq_true rfl⟩ ?_
    refine z_if_ne (tgt := 19) X dd_Mo_need_12 (by decide) (fun q5 => ?_) (fun q5 => ?_)
    · rw [if_neg q5] at h
      refine z_sub [] rfl ?_
      exact t_Mo_need_19 X H h
    · rw [if_pos q5] at h
      refine z_aload_n X dd_Mo_need_15 rfl 0 rfl ?_
      obtain ⟨w7, ew7, h⟩ := zb h
      obtain ⟨q6, eq6, h⟩ := zb h
      refine z_callVv X [] rfl dd_Mo_need_16 (c_Mo_wrong l eq6) (cwV 0 X.1.2.2.2.2 (zg_V km_1928 km_1930 km_74 km_138 km_1931) rfl rfl rfl (by decide +kernel) ⟨Nat.le_of_ble_eq_true rfl, Nat.le_of_ble_eq_true rfl⟩) (zob_s ew7) kc_12 rfl (Nat.le_of_ble_eq_true rfl) ⟨Nat.le_of_ble_eq_true rfl, Nat.le_of_ble_eq_true rfl⟩ ?_
      refine z_sub [] rfl ?_
      exact t_Mo_need_19 X H h
theorem dd_Mo_within_0 : decode bb_Mo_within 0 = .ok (.aload_n 0, 1) := by decide +kernel
theorem dd_Mo_within_1 : decode bb_Mo_within 1 = .ok (.dup, 1) := by decide +kernel
theorem dd_Mo_within_2 : decode bb_Mo_within 2 = .ok (.getfield 322, 3) := by decide +kernel
theorem dd_Mo_within_5 : decode bb_Mo_within 5 = .ok (.iconst 1, 1) := by decide +kernel
theorem dd_Mo_within_6 : decode bb_Mo_within 6 = .ok (.iadd, 1) := by decide +kernel
theorem dd_Mo_within_7 : decode bb_Mo_within 7 = .ok (.putfield 322, 3) := by decide +kernel
theorem dd_Mo_within_10 : decode bb_Mo_within 10 = .ok (.aload_n 0, 1) := by decide +kernel
theorem dd_Mo_within_11 : decode bb_Mo_within 11 = .ok (.getfield 294, 3) := by decide +kernel
theorem dd_Mo_within_14 : decode bb_Mo_within 14 = .ok (.ifCond .ne 31, 3) := by decide +kernel
theorem dd_Mo_within_17 : decode bb_Mo_within 17 = .ok (.aload_n 0, 1) := by decide +kernel
theorem dd_Mo_within_18 : decode bb_Mo_within 18 = .ok (.getfield 322, 3) := by decide +kernel
theorem dd_Mo_within_21 : decode bb_Mo_within 21 = .ok (.bipush 10, 2) := by decide +kernel
theorem dd_Mo_within_23 : decode bb_Mo_within 23 = .ok (.if_icmp .le 22, 3) := by decide +kernel
theorem dd_Mo_within_26 : decode bb_Mo_within 26 = .ok (.aload_n 0, 1) := by decide +kernel
theorem dd_Mo_within_27 : decode bb_Mo_within 27 = .ok (.invokevirtual 306, 3) := by decide +kernel
theorem dd_Mo_within_30 : decode bb_Mo_within 30 = .ok (.pop, 1) := by decide +kernel
theorem dd_Mo_within_31 : decode bb_Mo_within 31 = .ok (.aload_n 0, 1) := by decide +kernel
theorem dd_Mo_within_32 : decode bb_Mo_within 32 = .ok (.iconst 3, 1) := by decide +kernel
theorem dd_Mo_within_33 : decode bb_Mo_within 33 = .ok (.aload_n 0, 1) := by decide +kernel
theorem dd_Mo_within_34 : decode bb_Mo_within 34 = .ok (.getfield 49, 3) := by decide +kernel
theorem dd_Mo_within_37 : decode bb_Mo_within 37 = .ok (.aload_n 0, 1) := by decide +kernel
theorem dd_Mo_within_38 : decode bb_Mo_within 38 = .ok (.getfield 300, 3) := by decide +kernel
theorem dd_Mo_within_41 : decode bb_Mo_within 41 = .ok (.iaload, 1) := by decide +kernel
theorem dd_Mo_within_42 : decode bb_Mo_within 42 = .ok (.invokevirtual 303, 3) := by decide +kernel
theorem dd_Mo_within_45 : decode bb_Mo_within 45 = .ok (.return_, 1) := by decide +kernel
def f_Mo_within_45 (nf : Nat)  (c : Zc) : Option (Zc) :=
  some c
def f_Mo_within (nf : Nat) (a0 : Nat) (c : Zc) : Option (Zc) :=
  (zgi c a0 12 53).bind fun v1 => (zpv c a0 12 53 (.int (v1 + 1))).bind fun c2 => (zgi c2 a0 12 19).bind fun v3 => if v3 = 0 then ((zgi c2 a0 12 53).bind fun v5 => if v5 ≤ 10 then (f_Mo_within_45 nf  c2) else ((zob c2 a0 12).bind fun w8 => (f_Mo_kind nf a0 c2).bind fun q7 => (zgr q7.2 a0 12 16).bind fun v9 => (zgi q7.2 a0 12 18).bind fun v10 => (zai q7.2 v9 0 v10).bind fun v11 => (zob q7.2 a0 12).bind fun w13 => (f_Mo_refuse nf a0 3 v11 q7.2).bind fun q12 => f_Mo_within_45 nf  q12)) else (f_Mo_within_45 nf  c2)
set_option maxRecDepth 100000 in
set_option maxHeartbeats 4000000 in
theorem t_Mo_within_45  (X : zX p s m args cd D cid B bb_Mo_within 1 rr_Mo zT) (H : zH s meth B n0 none "within") {nf : Nat}  {c : Zc} {res : Zc} (h : f_Mo_within_45 nf  c = some res) : Zz p l e (zRm 2 42 0 0) s m args below meth cd (MQ below (zQv D cid B res n0 0) args s 0 0 (fun q => B ≤ q)) D cid B 1 0 0 c 45 [] [] := by
  unfold f_Mo_within_45 at h
  obtain rfl := Option.some.inj h
  exact z_vret X H.1 H.2.1 H.2.2.1 dd_Mo_within_45
set_option maxRecDepth 100000 in
set_option maxHeartbeats 4000000 in
theorem c_Mo_within (l : Launch) {nf : Nat} {a0 : Nat} {c : Zc} {res : Zc} (h : f_Mo_within nf a0 c = some res) : zM l yy_Mo_within ww_Mo_within 2 42 0 0 [.ref a0] c (fun D cid B => zQv D cid B res c.length 0) := by
  refine z_met (cc := bb_Mo_within) (maxL := 1) (ret := none) (by decide +kernel) rfl (Nat.le_of_ble_eq_true rfl) ?_
  intro p e s m args below meth cd D cid B X h1 h2 h3 h4
  have X : zX p s m args cd D cid B bb_Mo_within 1 rr_Mo zT := X
  have H : zH s meth B c.length none "within" := ⟨h1, h2, h4, h3⟩
  unfold f_Mo_within at h
  show Zz p l e (zRm 2 42 0 0) s m args below meth cd _ D cid B 1 0 0 c 0 [(0, .ref a0)] []
  refine z_aload_n X dd_Mo_within_0 rfl 0 rfl ?_
  refine z_dup X dd_Mo_within_1 rfl ?_
  obtain ⟨v1, ev1, h⟩ := zb h
  refine z_get (j := 53) X dd_Mo_within_2 kc_12 ki_12 (by decide) km_1574 (zgi_v ev1) ?_
  refine z_iconst (v := 1) X dd_Mo_within_5 (by decide) ?_
  refine z_iadd X dd_Mo_within_6 ?_
  obtain ⟨c2, ec2, h⟩ := zb h
  refine z_put (j := 53) X dd_Mo_within_7 kc_12 ki_12 tt_Mo tk_Mo nn_Mo (by decide) km_1574 rfl (tk_Mo 53 (by decide)) rfl rfl ec2 ?_
  refine z_aload_n X dd_Mo_within_10 rfl 0 rfl ?_
  obtain ⟨v3, ev3, h⟩ := zb h
  refine z_get (j := 19) X dd_Mo_within_11 kc_12 ki_12 (by decide) km_1540 (zgi_v ev3) ?_
  refine z_if_ne (tgt := 45) X dd_Mo_within_14 (by decide) (fun q4 => ?_) (fun q4 => ?_)
  · rw [if_neg q4] at h
    refine z_sub [] rfl ?_
    exact t_Mo_within_45 X H h
  · rw [if_pos q4] at h
    refine z_aload_n X dd_Mo_within_17 rfl 0 rfl ?_
    obtain ⟨v5, ev5, h⟩ := zb h
    refine z_get (j := 53) X dd_Mo_within_18 kc_12 ki_12 (by decide) km_1574 (zgi_v ev5) ?_
    refine z_bipush (v := 10) X dd_Mo_within_21 (by decide) ?_
    refine z_icmp_le (tgt := 45) X dd_Mo_within_23 (by decide) (fun q6 => ?_) (fun q6 => ?_)
    · rw [if_pos q6] at h
      refine z_sub [] rfl ?_
      exact t_Mo_within_45 X H h
    · rw [if_neg q6] at h
      refine z_aload_n X dd_Mo_within_26 rfl 0 rfl ?_
      obtain ⟨w8, ew8, h⟩ := zb h
      obtain ⟨q7, eq7, h⟩ := zb h
      refine z_callVi X [] rfl dd_Mo_within_27 (c_Mo_kind l eq7) (cwV 0 X.1.2.2.2.2 (zg_V km_1912 km_1914 km_70 km_138 km_1915) rfl rfl rfl (by decide +kernel) ⟨Nat.le_of_ble_eq_true rfl, Nat.le_of_ble_eq_true rfl⟩) (zob_s ew8) kc_12 rfl (Nat.le_of_ble_eq_true rfl) ⟨Nat.le_of_ble_eq_true rfl, Nat.le_of_ble_eq_true rfl⟩ ?_
      refine z_pop X dd_Mo_within_30 rfl ?_
      refine z_aload_n X dd_Mo_within_31 rfl 0 rfl ?_
      refine z_iconst (v := 3) X dd_Mo_within_32 (by decide) ?_
      refine z_aload_n X dd_Mo_within_33 rfl 0 rfl ?_
      obtain ⟨v9, ev9, h⟩ := zb h
      refine z_get (j := 16) X dd_Mo_within_34 kc_12 ki_12 (by decide) km_1537 (zgr_v ev9) ?_
      refine z_aload_n X dd_Mo_within_37 rfl 0 rfl ?_
      obtain ⟨v10, ev10, h⟩ := zb h
      refine z_get (j := 18) X dd_Mo_within_38 kc_12 ki_12 (by decide) km_1539 (zgi_v ev10) ?_
      obtain ⟨v11, ev11, h⟩ := zb h
      refine z_iaload X dd_Mo_within_41 rfl ev11 ?_
      obtain ⟨w13, ew13, h⟩ := zb h
      obtain ⟨q12, eq12, h⟩ := zb h
      refine z_callVv X [.int 3, .int v11] rfl dd_Mo_within_42 (c_Mo_refuse l eq12) (cwV 2 X.1.2.2.2.2 (zg_V km_1916 km_1918 km_71 km_138 km_1919) rfl rfl rfl (by decide +kernel) ⟨Nat.le_of_ble_eq_true rfl, Nat.le_of_ble_eq_true rfl⟩) (zob_s ew13) kc_12 rfl (Nat.le_of_ble_eq_true rfl) ⟨Nat.le_of_ble_eq_true rfl, Nat.le_of_ble_eq_true rfl⟩ ?_
      refine z_sub [] rfl ?_
      exact t_Mo_within_45 X H h
theorem dd_Mo_meaning_0 : decode bb_Mo_meaning 0 = .ok (.aload_n 0, 1) := by decide +kernel
theorem dd_Mo_meaning_1 : decode bb_Mo_meaning 1 = .ok (.getfield 325, 3) := by decide +kernel
theorem dd_Mo_meaning_4 : decode bb_Mo_meaning 4 = .ok (.ifCond .le 22, 3) := by decide +kernel
theorem dd_Mo_meaning_7 : decode bb_Mo_meaning 7 = .ok (.aload_n 0, 1) := by decide +kernel
theorem dd_Mo_meaning_8 : decode bb_Mo_meaning 8 = .ok (.getfield 146, 3) := by decide +kernel
theorem dd_Mo_meaning_11 : decode bb_Mo_meaning 11 = .ok (.iload_n 1, 1) := by decide +kernel
theorem dd_Mo_meaning_12 : decode bb_Mo_meaning 12 = .ok (.iaload, 1) := by decide +kernel
theorem dd_Mo_meaning_13 : decode bb_Mo_meaning 13 = .ok (.iconst (-1), 1) := by decide +kernel
theorem dd_Mo_meaning_14 : decode bb_Mo_meaning 14 = .ok (.if_icmp .eq 12, 3) := by decide +kernel
theorem dd_Mo_meaning_17 : decode bb_Mo_meaning 17 = .ok (.aload_n 0, 1) := by decide +kernel
theorem dd_Mo_meaning_18 : decode bb_Mo_meaning 18 = .ok (.getfield 146, 3) := by decide +kernel
theorem dd_Mo_meaning_21 : decode bb_Mo_meaning 21 = .ok (.iload_n 1, 1) := by decide +kernel
theorem dd_Mo_meaning_22 : decode bb_Mo_meaning 22 = .ok (.iaload, 1) := by decide +kernel
theorem dd_Mo_meaning_23 : decode bb_Mo_meaning 23 = .ok (.goto 9, 3) := by decide +kernel
theorem dd_Mo_meaning_26 : decode bb_Mo_meaning 26 = .ok (.aload_n 0, 1) := by decide +kernel
theorem dd_Mo_meaning_27 : decode bb_Mo_meaning 27 = .ok (.getfield 143, 3) := by decide +kernel
theorem dd_Mo_meaning_30 : decode bb_Mo_meaning 30 = .ok (.iload_n 1, 1) := by decide +kernel
theorem dd_Mo_meaning_31 : decode bb_Mo_meaning 31 = .ok (.iaload, 1) := by decide +kernel
theorem dd_Mo_meaning_32 : decode bb_Mo_meaning 32 = .ok (.ireturn, 1) := by decide +kernel
def f_Mo_meaning_32 (nf : Nat) (s0 : Int32) (c : Zc) : Option (Int32 × Zc) :=
  some (s0, c)
def f_Mo_meaning_26 (nf : Nat) (x0 : Nat) (x1 : Int32) (c : Zc) : Option (Int32 × Zc) :=
  (zgr c x0 12 54).bind fun v3 => (zai c v3 0 x1).bind fun v4 => f_Mo_meaning_32 nf v4 c
def f_Mo_meaning (nf : Nat) (a0 : Nat) (a1 : Int32) (c : Zc) : Option (Int32 × Zc) :=
  (zgi c a0 12 56).bind fun v1 => if v1 ≤ 0 then (f_Mo_meaning_26 nf a0 a1 c) else ((zgr c a0 12 55).bind fun v5 => (zai c v5 0 a1).bind fun v6 => if v6 = (-1) then (f_Mo_meaning_26 nf a0 a1 c) else ((zgr c a0 12 55).bind fun v8 => (zai c v8 0 a1).bind fun v9 => f_Mo_meaning_32 nf v9 c))
set_option maxRecDepth 100000 in
set_option maxHeartbeats 4000000 in
theorem t_Mo_meaning_32  (X : zX p s m args cd D cid B bb_Mo_meaning 2 rr_Mo zT) (H : zH s meth B n0 (some (.int)) "meaning") {nf : Nat} {s0 : Int32} {c : Zc} {res : Int32 × Zc} (h : f_Mo_meaning_32 nf s0 c = some res) : Zz p l e (zRm 0 0 0 0) s m args below meth cd (MQ below (zQi D cid B res.1 res.2 n0 0) args s 0 0 (fun q => B ≤ q)) D cid B 2 0 0 c 32 [] [.int s0] := by
  unfold f_Mo_meaning_32 at h
  obtain rfl := Option.some.inj h
  exact z_iret X H.1 H.2.1 H.2.2.1 dd_Mo_meaning_32
set_option maxRecDepth 100000 in
set_option maxHeartbeats 4000000 in
theorem t_Mo_meaning_26  (X : zX p s m args cd D cid B bb_Mo_meaning 2 rr_Mo zT) (H : zH s meth B n0 (some (.int)) "meaning") {nf : Nat} {x0 : Nat} {x1 : Int32} {c : Zc} {res : Int32 × Zc} (h : f_Mo_meaning_26 nf x0 x1 c = some res) : Zz p l e (zRm 0 0 0 0) s m args below meth cd (MQ below (zQi D cid B res.1 res.2 n0 0) args s 0 0 (fun q => B ≤ q)) D cid B 2 0 0 c 26 [(0, .ref x0), (1, .int x1)] [] := by
  unfold f_Mo_meaning_26 at h
  refine z_aload_n X dd_Mo_meaning_26 rfl 0 rfl ?_
  obtain ⟨v3, ev3, h⟩ := zb h
  refine z_get (j := 54) X dd_Mo_meaning_27 kc_12 ki_12 (by decide) km_1575 (zgr_v ev3) ?_
  refine z_iload_n X dd_Mo_meaning_30 rfl 1 rfl ?_
  obtain ⟨v4, ev4, h⟩ := zb h
  refine z_iaload X dd_Mo_meaning_31 rfl ev4 ?_
  refine z_sub [] rfl ?_
  exact t_Mo_meaning_32 X H h
set_option maxRecDepth 100000 in
set_option maxHeartbeats 4000000 in
theorem c_Mo_meaning (l : Launch) {nf : Nat} {a0 : Nat} {a1 : Int32} {c : Zc} {res : Int32 × Zc} (h : f_Mo_meaning nf a0 a1 c = some res) : zM l yy_Mo_meaning ww_Mo_meaning 0 0 0 0 [.ref a0, .int a1] c (fun D cid B => zQi D cid B res.1 res.2 c.length 0) := by
  refine z_met (cc := bb_Mo_meaning) (maxL := 2) (ret := (some (.int))) (by decide +kernel) rfl (Nat.le_of_ble_eq_true rfl) ?_
  intro p e s m args below meth cd D cid B X h1 h2 h3 h4
  have X : zX p s m args cd D cid B bb_Mo_meaning 2 rr_Mo zT := X
  have H : zH s meth B c.length (some (.int)) "meaning" := ⟨h1, h2, h4, h3⟩
  unfold f_Mo_meaning at h
  show Zz p l e (zRm 0 0 0 0) s m args below meth cd _ D cid B 2 0 0 c 0 [(0, .ref a0), (1, .int a1)] []
  refine z_aload_n X dd_Mo_meaning_0 rfl 0 rfl ?_
  obtain ⟨v1, ev1, h⟩ := zb h
  refine z_get (j := 56) X dd_Mo_meaning_1 kc_12 ki_12 (by decide) km_1577 (zgi_v ev1) ?_
  refine z_if_le (tgt := 26) X dd_Mo_meaning_4 (by decide) (fun q2 => ?_) (fun q2 => ?_)
  · rw [if_pos q2] at h
    exact t_Mo_meaning_26 X H h
  · rw [if_neg q2] at h
    refine z_aload_n X dd_Mo_meaning_7 rfl 0 rfl ?_
    obtain ⟨v5, ev5, h⟩ := zb h
    refine z_get (j := 55) X dd_Mo_meaning_8 kc_12 ki_12 (by decide) km_1576 (zgr_v ev5) ?_
    refine z_iload_n X dd_Mo_meaning_11 rfl 1 rfl ?_
    obtain ⟨v6, ev6, h⟩ := zb h
    refine z_iaload X dd_Mo_meaning_12 rfl ev6 ?_
    refine z_iconst (v := (-1)) X dd_Mo_meaning_13 (by decide) ?_
    refine z_icmp_eq (tgt := 26) X dd_Mo_meaning_14 (by decide) (fun q7 => ?_) (fun q7 => ?_)
    · rw [if_pos q7] at h
      exact t_Mo_meaning_26 X H h
    · rw [if_neg q7] at h
      refine z_aload_n X dd_Mo_meaning_17 rfl 0 rfl ?_
      obtain ⟨v8, ev8, h⟩ := zb h
      refine z_get (j := 55) X dd_Mo_meaning_18 kc_12 ki_12 (by decide) km_1576 (zgr_v ev8) ?_
      refine z_iload_n X dd_Mo_meaning_21 rfl 1 rfl ?_
      obtain ⟨v9, ev9, h⟩ := zb h
      refine z_iaload X dd_Mo_meaning_22 rfl ev9 ?_
      refine z_goto (tgt := 32) X dd_Mo_meaning_23 (by decide) ?_
      refine z_sub [] rfl ?_
      exact t_Mo_meaning_32 X H h
theorem dd_Mo_learn_0 : decode bb_Mo_learn 0 = .ok (.aload_n 0, 1) := by decide +kernel
theorem dd_Mo_learn_1 : decode bb_Mo_learn 1 = .ok (.getfield 325, 3) := by decide +kernel
theorem dd_Mo_learn_4 : decode bb_Mo_learn 4 = .ok (.ifCond .le 13, 3) := by decide +kernel
theorem dd_Mo_learn_7 : decode bb_Mo_learn 7 = .ok (.aload_n 0, 1) := by decide +kernel
theorem dd_Mo_learn_8 : decode bb_Mo_learn 8 = .ok (.getfield 146, 3) := by decide +kernel
theorem dd_Mo_learn_11 : decode bb_Mo_learn 11 = .ok (.iload_n 1, 1) := by decide +kernel
theorem dd_Mo_learn_12 : decode bb_Mo_learn 12 = .ok (.iload_n 2, 1) := by decide +kernel
theorem dd_Mo_learn_13 : decode bb_Mo_learn 13 = .ok (.iastore, 1) := by decide +kernel
theorem dd_Mo_learn_14 : decode bb_Mo_learn 14 = .ok (.goto 10, 3) := by decide +kernel
theorem dd_Mo_learn_17 : decode bb_Mo_learn 17 = .ok (.aload_n 0, 1) := by decide +kernel
theorem dd_Mo_learn_18 : decode bb_Mo_learn 18 = .ok (.getfield 143, 3) := by decide +kernel
theorem dd_Mo_learn_21 : decode bb_Mo_learn 21 = .ok (.iload_n 1, 1) := by decide +kernel
theorem dd_Mo_learn_22 : decode bb_Mo_learn 22 = .ok (.iload_n 2, 1) := by decide +kernel
theorem dd_Mo_learn_23 : decode bb_Mo_learn 23 = .ok (.iastore, 1) := by decide +kernel
theorem dd_Mo_learn_24 : decode bb_Mo_learn 24 = .ok (.return_, 1) := by decide +kernel
def f_Mo_learn_24 (nf : Nat)  (c : Zc) : Option (Zc) :=
  some c
def f_Mo_learn (nf : Nat) (a0 : Nat) (a1 : Int32) (a2 : Int32) (c : Zc) : Option (Zc) :=
  (zgi c a0 12 56).bind fun v1 => if v1 ≤ 0 then ((zgr c a0 12 54).bind fun v3 => (zsi c v3 0 a1 a2).bind fun c4 => f_Mo_learn_24 nf  c4) else ((zgr c a0 12 55).bind fun v5 => (zsi c v5 0 a1 a2).bind fun c6 => f_Mo_learn_24 nf  c6)
set_option maxRecDepth 100000 in
set_option maxHeartbeats 4000000 in
theorem t_Mo_learn_24  (X : zX p s m args cd D cid B bb_Mo_learn 3 rr_Mo zT) (H : zH s meth B n0 none "learn") {nf : Nat}  {c : Zc} {res : Zc} (h : f_Mo_learn_24 nf  c = some res) : Zz p l e (zRm 0 0 0 0) s m args below meth cd (MQ below (zQv D cid B res n0 0) args s 0 0 (fun q => B ≤ q)) D cid B 3 0 0 c 24 [] [] := by
  unfold f_Mo_learn_24 at h
  obtain rfl := Option.some.inj h
  exact z_vret X H.1 H.2.1 H.2.2.1 dd_Mo_learn_24
set_option maxRecDepth 100000 in
set_option maxHeartbeats 4000000 in
theorem c_Mo_learn (l : Launch) {nf : Nat} {a0 : Nat} {a1 : Int32} {a2 : Int32} {c : Zc} {res : Zc} (h : f_Mo_learn nf a0 a1 a2 c = some res) : zM l yy_Mo_learn ww_Mo_learn 0 0 0 0 [.ref a0, .int a1, .int a2] c (fun D cid B => zQv D cid B res c.length 0) := by
  refine z_met (cc := bb_Mo_learn) (maxL := 3) (ret := none) (by decide +kernel) rfl (Nat.le_of_ble_eq_true rfl) ?_
  intro p e s m args below meth cd D cid B X h1 h2 h3 h4
  have X : zX p s m args cd D cid B bb_Mo_learn 3 rr_Mo zT := X
  have H : zH s meth B c.length none "learn" := ⟨h1, h2, h4, h3⟩
  unfold f_Mo_learn at h
  show Zz p l e (zRm 0 0 0 0) s m args below meth cd _ D cid B 3 0 0 c 0 [(0, .ref a0), (1, .int a1), (2, .int a2)] []
  refine z_aload_n X dd_Mo_learn_0 rfl 0 rfl ?_
  obtain ⟨v1, ev1, h⟩ := zb h
  refine z_get (j := 56) X dd_Mo_learn_1 kc_12 ki_12 (by decide) km_1577 (zgi_v ev1) ?_
  refine z_if_le (tgt := 17) X dd_Mo_learn_4 (by decide) (fun q2 => ?_) (fun q2 => ?_)
  · rw [if_pos q2] at h
    refine z_aload_n X dd_Mo_learn_17 rfl 0 rfl ?_
    obtain ⟨v3, ev3, h⟩ := zb h
    refine z_get (j := 54) X dd_Mo_learn_18 kc_12 ki_12 (by decide) km_1575 (zgr_v ev3) ?_
    refine z_iload_n X dd_Mo_learn_21 rfl 1 rfl ?_
    refine z_iload_n X dd_Mo_learn_22 rfl 2 rfl ?_
    obtain ⟨c4, ec4, h⟩ := zb h
    refine z_iastore X dd_Mo_learn_23 rfl ec4 ?_
    refine z_sub [] rfl ?_
    exact t_Mo_learn_24 X H h
  · rw [if_neg q2] at h
    refine z_aload_n X dd_Mo_learn_7 rfl 0 rfl ?_
    obtain ⟨v5, ev5, h⟩ := zb h
    refine z_get (j := 55) X dd_Mo_learn_8 kc_12 ki_12 (by decide) km_1576 (zgr_v ev5) ?_
    refine z_iload_n X dd_Mo_learn_11 rfl 1 rfl ?_
    refine z_iload_n X dd_Mo_learn_12 rfl 2 rfl ?_
    obtain ⟨c6, ec6, h⟩ := zb h
    refine z_iastore X dd_Mo_learn_13 rfl ec6 ?_
    refine z_goto (tgt := 24) X dd_Mo_learn_14 (by decide) ?_
    refine z_sub [] rfl ?_
    exact t_Mo_learn_24 X H h
theorem dd_Mo_oneMore_0 : decode bb_Mo_oneMore 0 = .ok (.aload_n 0, 1) := by decide +kernel
theorem dd_Mo_oneMore_1 : decode bb_Mo_oneMore 1 = .ok (.getfield 328, 3) := by decide +kernel
theorem dd_Mo_oneMore_4 : decode bb_Mo_oneMore 4 = .ok (.bipush 8, 2) := by decide +kernel
theorem dd_Mo_oneMore_6 : decode bb_Mo_oneMore 6 = .ok (.if_icmp .ne 9, 3) := by decide +kernel
theorem dd_Mo_oneMore_9 : decode bb_Mo_oneMore 9 = .ok (.aload_n 0, 1) := by decide +kernel
theorem dd_Mo_oneMore_10 : decode bb_Mo_oneMore 10 = .ok (.iconst 3, 1) := by decide +kernel
theorem dd_Mo_oneMore_11 : decode bb_Mo_oneMore 11 = .ok (.iload_n 1, 1) := by decide +kernel
theorem dd_Mo_oneMore_12 : decode bb_Mo_oneMore 12 = .ok (.invokevirtual 303, 3) := by decide +kernel
theorem dd_Mo_oneMore_15 : decode bb_Mo_oneMore 15 = .ok (.aload_n 0, 1) := by decide +kernel
theorem dd_Mo_oneMore_16 : decode bb_Mo_oneMore 16 = .ok (.dup, 1) := by decide +kernel
theorem dd_Mo_oneMore_17 : decode bb_Mo_oneMore 17 = .ok (.getfield 328, 3) := by decide +kernel
theorem dd_Mo_oneMore_20 : decode bb_Mo_oneMore 20 = .ok (.iconst 1, 1) := by decide +kernel
theorem dd_Mo_oneMore_21 : decode bb_Mo_oneMore 21 = .ok (.iadd, 1) := by decide +kernel
theorem dd_Mo_oneMore_22 : decode bb_Mo_oneMore 22 = .ok (.putfield 328, 3) := by decide +kernel
theorem dd_Mo_oneMore_25 : decode bb_Mo_oneMore 25 = .ok (.aload_n 0, 1) := by decide +kernel
theorem dd_Mo_oneMore_26 : decode bb_Mo_oneMore 26 = .ok (.getfield 294, 3) := by decide +kernel
theorem dd_Mo_oneMore_29 : decode bb_Mo_oneMore 29 = .ok (.ifCond .ne 7, 3) := by decide +kernel
theorem dd_Mo_oneMore_32 : decode bb_Mo_oneMore 32 = .ok (.iconst 1, 1) := by decide +kernel
theorem dd_Mo_oneMore_33 : decode bb_Mo_oneMore 33 = .ok (.goto 4, 3) := by decide +kernel
theorem dd_Mo_oneMore_36 : decode bb_Mo_oneMore 36 = .ok (.iconst 0, 1) := by decide +kernel
theorem dd_Mo_oneMore_37 : decode bb_Mo_oneMore 37 = .ok (.ireturn, 1) := by decide +kernel
def f_Mo_oneMore_37 (nf : Nat) (s0 : Int32) (c : Zc) : Option (Int32 × Zc) :=
  zrz s0 c
def f_Mo_oneMore_15 (nf : Nat) (x0 : Nat) (c : Zc) : Option (Int32 × Zc) :=
  (zgi c x0 12 57).bind fun v3 => (zpv c x0 12 57 (.int (v3 + 1))).bind fun c4 => (zgi c4 x0 12 19).bind fun v5 => if v5 = 0 then (f_Mo_oneMore_37 nf 1 c4) else (f_Mo_oneMore_37 nf 0 c4)
def f_Mo_oneMore (nf : Nat) (a0 : Nat) (a1 : Int32) (c : Zc) : Option (Int32 × Zc) :=
  (zgi c a0 12 57).bind fun v1 => if v1 = 8 then ((zob c a0 12).bind fun w8 => (f_Mo_refuse nf a0 3 a1 c).bind fun q7 => f_Mo_oneMore_15 nf a0 q7) else (f_Mo_oneMore_15 nf a0 c)
set_option maxRecDepth 100000 in
set_option maxHeartbeats 4000000 in
theorem t_Mo_oneMore_37  (X : zX p s m args cd D cid B bb_Mo_oneMore 2 rr_Mo zT) (H : zH s meth B n0 (some (.boolean)) "oneMore") {nf : Nat} {s0 : Int32} {c : Zc} {res : Int32 × Zc} (h : f_Mo_oneMore_37 nf s0 c = some res) : Zz p l e (zRm 1 22 0 0) s m args below meth cd (MQ below (zQi D cid B res.1 res.2 n0 0) args s 0 0 (fun q => B ≤ q)) D cid B 2 0 0 c 37 [] [.int s0] := by
  unfold f_Mo_oneMore_37 at h
  obtain ⟨hz, h⟩ := zrz_s h
  obtain rfl := h
  exact z_zret X H.1 (zn_z hz) H.2.1 H.2.2.1 dd_Mo_oneMore_37
set_option maxRecDepth 100000 in
set_option maxHeartbeats 4000000 in
theorem t_Mo_oneMore_15  (X : zX p s m args cd D cid B bb_Mo_oneMore 2 rr_Mo zT) (H : zH s meth B n0 (some (.boolean)) "oneMore") {nf : Nat} {x0 : Nat} {c : Zc} {res : Int32 × Zc} (h : f_Mo_oneMore_15 nf x0 c = some res) : Zz p l e (zRm 1 22 0 0) s m args below meth cd (MQ below (zQi D cid B res.1 res.2 n0 0) args s 0 0 (fun q => B ≤ q)) D cid B 2 0 0 c 15 [(0, .ref x0)] [] := by
  unfold f_Mo_oneMore_15 at h
  refine z_aload_n X dd_Mo_oneMore_15 rfl 0 rfl ?_
  refine z_dup X dd_Mo_oneMore_16 rfl ?_
  obtain ⟨v3, ev3, h⟩ := zb h
  refine z_get (j := 57) X dd_Mo_oneMore_17 kc_12 ki_12 (by decide) km_1578 (zgi_v ev3) ?_
  refine z_iconst (v := 1) X dd_Mo_oneMore_20 (by decide) ?_
  refine z_iadd X dd_Mo_oneMore_21 ?_
  obtain ⟨c4, ec4, h⟩ := zb h
  refine z_put (j := 57) X dd_Mo_oneMore_22 kc_12 ki_12 tt_Mo tk_Mo nn_Mo (by decide) km_1578 rfl (tk_Mo 57 (by decide)) rfl rfl ec4 ?_
  refine z_aload_n X dd_Mo_oneMore_25 rfl 0 rfl ?_
  obtain ⟨v5, ev5, h⟩ := zb h
  refine z_get (j := 19) X dd_Mo_oneMore_26 kc_12 ki_12 (by decide) km_1540 (zgi_v ev5) ?_
  refine z_if_ne (tgt := 36) X dd_Mo_oneMore_29 (by decide) (fun q6 => ?_) (fun q6 => ?_)
  · rw [if_neg q6] at h
    refine z_iconst (v := 0) X dd_Mo_oneMore_36 (by decide) ?_
    refine z_sub [] rfl ?_
    exact t_Mo_oneMore_37 X H h
  · rw [if_pos q6] at h
    refine z_iconst (v := 1) X dd_Mo_oneMore_32 (by decide) ?_
    refine z_goto (tgt := 37) X dd_Mo_oneMore_33 (by decide) ?_
    refine z_sub [] rfl ?_
    exact t_Mo_oneMore_37 X H h
set_option maxRecDepth 100000 in
set_option maxHeartbeats 4000000 in
theorem c_Mo_oneMore (l : Launch) {nf : Nat} {a0 : Nat} {a1 : Int32} {c : Zc} {res : Int32 × Zc} (h : f_Mo_oneMore nf a0 a1 c = some res) : zM l yy_Mo_oneMore ww_Mo_oneMore 1 22 0 0 [.ref a0, .int a1] c (fun D cid B => zQi D cid B res.1 res.2 c.length 0) := by
  refine z_met (cc := bb_Mo_oneMore) (maxL := 2) (ret := (some (.boolean))) (by decide +kernel) rfl (Nat.le_of_ble_eq_true rfl) ?_
  intro p e s m args below meth cd D cid B X h1 h2 h3 h4
  have X : zX p s m args cd D cid B bb_Mo_oneMore 2 rr_Mo zT := X
  have H : zH s meth B c.length (some (.boolean)) "oneMore" := ⟨h1, h2, h4, h3⟩
  unfold f_Mo_oneMore at h
  show Zz p l e (zRm 1 22 0 0) s m args below meth cd _ D cid B 2 0 0 c 0 [(0, .ref a0), (1, .int a1)] []
  refine z_aload_n X dd_Mo_oneMore_0 rfl 0 rfl ?_
  obtain ⟨v1, ev1, h⟩ := zb h
  refine z_get (j := 57) X dd_Mo_oneMore_1 kc_12 ki_12 (by decide) km_1578 (zgi_v ev1) ?_
  refine z_bipush (v := 8) X dd_Mo_oneMore_4 (by decide) ?_
  refine z_icmp_ne (tgt := 15) X dd_Mo_oneMore_6 (by decide) (fun q2 => ?_) (fun q2 => ?_)
  · rw [if_neg q2] at h
    refine z_sub [0] rfl ?_
    exact t_Mo_oneMore_15 X H h
  · rw [if_pos q2] at h
    refine z_aload_n X dd_Mo_oneMore_9 rfl 0 rfl ?_
    refine z_iconst (v := 3) X dd_Mo_oneMore_10 (by decide) ?_
    refine z_iload_n X dd_Mo_oneMore_11 rfl 1 rfl ?_
    obtain ⟨w8, ew8, h⟩ := zb h
    obtain ⟨q7, eq7, h⟩ := zb h
    refine z_callVv X [.int 3, .int a1] rfl dd_Mo_oneMore_12 (c_Mo_refuse l eq7) (cwV 2 X.1.2.2.2.2 (zg_V km_1916 km_1918 km_71 km_138 km_1919) rfl rfl rfl (by decide +kernel) ⟨Nat.le_of_ble_eq_true rfl, Nat.le_of_ble_eq_true rfl⟩) (zob_s ew8) kc_12 rfl (Nat.le_of_ble_eq_true rfl) ⟨Nat.le_of_ble_eq_true rfl, Nat.le_of_ble_eq_true rfl⟩ ?_
    refine z_sub [0] rfl ?_
    exact t_Mo_oneMore_15 X H h
theorem dd_Mo_newSlot_0 : decode bb_Mo_newSlot 0 = .ok (.aload_n 0, 1) := by decide +kernel
theorem dd_Mo_newSlot_1 : decode bb_Mo_newSlot 1 = .ok (.getfield 65, 3) := by decide +kernel
theorem dd_Mo_newSlot_4 : decode bb_Mo_newSlot 4 = .ok (.aload_n 0, 1) := by decide +kernel
theorem dd_Mo_newSlot_5 : decode bb_Mo_newSlot 5 = .ok (.getfield 331, 3) := by decide +kernel
theorem dd_Mo_newSlot_8 : decode bb_Mo_newSlot 8 = .ok (.iaload, 1) := by decide +kernel
theorem dd_Mo_newSlot_9 : decode bb_Mo_newSlot 9 = .ok (.istore_n 1, 1) := by decide +kernel
theorem dd_Mo_newSlot_10 : decode bb_Mo_newSlot 10 = .ok (.aload_n 0, 1) := by decide +kernel
theorem dd_Mo_newSlot_11 : decode bb_Mo_newSlot 11 = .ok (.getfield 74, 3) := by decide +kernel
theorem dd_Mo_newSlot_14 : decode bb_Mo_newSlot 14 = .ok (.bipush 8, 2) := by decide +kernel
theorem dd_Mo_newSlot_16 : decode bb_Mo_newSlot 16 = .ok (.aload_n 0, 1) := by decide +kernel
theorem dd_Mo_newSlot_17 : decode bb_Mo_newSlot 17 = .ok (.getfield 331, 3) := by decide +kernel
theorem dd_Mo_newSlot_20 : decode bb_Mo_newSlot 20 = .ok (.imul, 1) := by decide +kernel
theorem dd_Mo_newSlot_21 : decode bb_Mo_newSlot 21 = .ok (.iload_n 1, 1) := by decide +kernel
theorem dd_Mo_newSlot_22 : decode bb_Mo_newSlot 22 = .ok (.iadd, 1) := by decide +kernel
theorem dd_Mo_newSlot_23 : decode bb_Mo_newSlot 23 = .ok (.aload_n 0, 1) := by decide +kernel
theorem dd_Mo_newSlot_24 : decode bb_Mo_newSlot 24 = .ok (.getfield 325, 3) := by decide +kernel
theorem dd_Mo_newSlot_27 : decode bb_Mo_newSlot 27 = .ok (.iastore, 1) := by decide +kernel
theorem dd_Mo_newSlot_28 : decode bb_Mo_newSlot 28 = .ok (.aload_n 0, 1) := by decide +kernel
theorem dd_Mo_newSlot_29 : decode bb_Mo_newSlot 29 = .ok (.getfield 65, 3) := by decide +kernel
theorem dd_Mo_newSlot_32 : decode bb_Mo_newSlot 32 = .ok (.aload_n 0, 1) := by decide +kernel
theorem dd_Mo_newSlot_33 : decode bb_Mo_newSlot 33 = .ok (.getfield 331, 3) := by decide +kernel
theorem dd_Mo_newSlot_36 : decode bb_Mo_newSlot 36 = .ok (.dup2, 1) := by decide +kernel
theorem dd_Mo_newSlot_37 : decode bb_Mo_newSlot 37 = .ok (.iaload, 1) := by decide +kernel
theorem dd_Mo_newSlot_38 : decode bb_Mo_newSlot 38 = .ok (.iconst 1, 1) := by decide +kernel
theorem dd_Mo_newSlot_39 : decode bb_Mo_newSlot 39 = .ok (.iadd, 1) := by decide +kernel
theorem dd_Mo_newSlot_40 : decode bb_Mo_newSlot 40 = .ok (.iastore, 1) := by decide +kernel
theorem dd_Mo_newSlot_41 : decode bb_Mo_newSlot 41 = .ok (.iload_n 1, 1) := by decide +kernel
theorem dd_Mo_newSlot_42 : decode bb_Mo_newSlot 42 = .ok (.ireturn, 1) := by decide +kernel
def f_Mo_newSlot (nf : Nat) (a0 : Nat) (c : Zc) : Option (Int32 × Zc) :=
  (zgr c a0 12 26).bind fun v1 => (zgi c a0 12 25).bind fun v2 => (zai c v1 0 v2).bind fun v3 => (zgr c a0 12 29).bind fun v4 => (zgi c a0 12 25).bind fun v5 => (zgi c a0 12 56).bind fun v6 => (zsi c v4 0 ((8 * v5) + v3) v6).bind fun c7 => (zgr c7 a0 12 26).bind fun v8 => (zgi c7 a0 12 25).bind fun v9 => (zai c7 v8 0 v9).bind fun v10 => (zsi c7 v8 0 v9 (v10 + 1)).bind fun c11 => some (v3, c11)
set_option maxRecDepth 100000 in
set_option maxHeartbeats 4000000 in
theorem c_Mo_newSlot (l : Launch) {nf : Nat} {a0 : Nat} {c : Zc} {res : Int32 × Zc} (h : f_Mo_newSlot nf a0 c = some res) : zM l yy_Mo_newSlot ww_Mo_newSlot 0 0 0 0 [.ref a0] c (fun D cid B => zQi D cid B res.1 res.2 c.length 0) := by
  refine z_met (cc := bb_Mo_newSlot) (maxL := 2) (ret := (some (.int))) (by decide +kernel) rfl (Nat.le_of_ble_eq_true rfl) ?_
  intro p e s m args below meth cd D cid B X h1 h2 h3 h4
  have X : zX p s m args cd D cid B bb_Mo_newSlot 2 rr_Mo zT := X
  have H : zH s meth B c.length (some (.int)) "newSlot" := ⟨h1, h2, h4, h3⟩
  unfold f_Mo_newSlot at h
  show Zz p l e (zRm 0 0 0 0) s m args below meth cd _ D cid B 2 0 0 c 0 [(0, .ref a0)] []
  refine z_aload_n X dd_Mo_newSlot_0 rfl 0 rfl ?_
  obtain ⟨v1, ev1, h⟩ := zb h
  refine z_get (j := 26) X dd_Mo_newSlot_1 kc_12 ki_12 (by decide) km_1547 (zgr_v ev1) ?_
  refine z_aload_n X dd_Mo_newSlot_4 rfl 0 rfl ?_
  obtain ⟨v2, ev2, h⟩ := zb h
  refine z_get (j := 25) X dd_Mo_newSlot_5 kc_12 ki_12 (by decide) km_1546 (zgi_v ev2) ?_
  obtain ⟨v3, ev3, h⟩ := zb h
  refine z_iaload X dd_Mo_newSlot_8 rfl ev3 ?_
  refine z_istore_n (lv' := [(1, .int v3), (0, .ref a0)]) X dd_Mo_newSlot_9 rfl (by decide) rfl ?_
  refine z_aload_n X dd_Mo_newSlot_10 rfl 1 rfl ?_
  obtain ⟨v4, ev4, h⟩ := zb h
  refine z_get (j := 29) X dd_Mo_newSlot_11 kc_12 ki_12 (by decide) km_1550 (zgr_v ev4) ?_
  refine z_bipush (v := 8) X dd_Mo_newSlot_14 (by decide) ?_
  refine z_aload_n X dd_Mo_newSlot_16 rfl 1 rfl ?_
  obtain ⟨v5, ev5, h⟩ := zb h
  refine z_get (j := 25) X dd_Mo_newSlot_17 kc_12 ki_12 (by decide) km_1546 (zgi_v ev5) ?_
  refine z_imul X dd_Mo_newSlot_20 ?_
  refine z_iload_n X dd_Mo_newSlot_21 rfl 0 rfl ?_
  refine z_iadd X dd_Mo_newSlot_22 ?_
  refine z_aload_n X dd_Mo_newSlot_23 rfl 1 rfl ?_
  obtain ⟨v6, ev6, h⟩ := zb h
  refine z_get (j := 56) X dd_Mo_newSlot_24 kc_12 ki_12 (by decide) km_1577 (zgi_v ev6) ?_
  obtain ⟨c7, ec7, h⟩ := zb h
  refine z_iastore X dd_Mo_newSlot_27 rfl ec7 ?_
  refine z_aload_n X dd_Mo_newSlot_28 rfl 1 rfl ?_
  obtain ⟨v8, ev8, h⟩ := zb h
  refine z_get (j := 26) X dd_Mo_newSlot_29 kc_12 ki_12 (by decide) km_1547 (zgr_v ev8) ?_
  refine z_aload_n X dd_Mo_newSlot_32 rfl 1 rfl ?_
  obtain ⟨v9, ev9, h⟩ := zb h
  refine z_get (j := 25) X dd_Mo_newSlot_33 kc_12 ki_12 (by decide) km_1546 (zgi_v ev9) ?_
  refine z_dup2_11 X dd_Mo_newSlot_36 rfl rfl ?_
  obtain ⟨v10, ev10, h⟩ := zb h
  refine z_iaload X dd_Mo_newSlot_37 rfl ev10 ?_
  refine z_iconst (v := 1) X dd_Mo_newSlot_38 (by decide) ?_
  refine z_iadd X dd_Mo_newSlot_39 ?_
  obtain ⟨c11, ec11, h⟩ := zb h
  refine z_iastore X dd_Mo_newSlot_40 rfl ec11 ?_
  refine z_iload_n X dd_Mo_newSlot_41 rfl 0 rfl ?_
  obtain rfl := Option.some.inj h
  exact z_iret X H.1 H.2.1 H.2.2.1 dd_Mo_newSlot_42
theorem dd_Mo_nodeOf_0 : decode bb_Mo_nodeOf 0 = .ok (.aload_n 0, 1) := by decide +kernel
theorem dd_Mo_nodeOf_1 : decode bb_Mo_nodeOf 1 = .ok (.getfield 49, 3) := by decide +kernel
theorem dd_Mo_nodeOf_4 : decode bb_Mo_nodeOf 4 = .ok (.aload_n 0, 1) := by decide +kernel
theorem dd_Mo_nodeOf_5 : decode bb_Mo_nodeOf 5 = .ok (.getfield 300, 3) := by decide +kernel
theorem dd_Mo_nodeOf_8 : decode bb_Mo_nodeOf 8 = .ok (.iaload, 1) := by decide +kernel
theorem dd_Mo_nodeOf_9 : decode bb_Mo_nodeOf 9 = .ok (.istore_n 1, 1) := by decide +kernel
theorem dd_Mo_nodeOf_10 : decode bb_Mo_nodeOf 10 = .ok (.aload_n 0, 1) := by decide +kernel
theorem dd_Mo_nodeOf_11 : decode bb_Mo_nodeOf 11 = .ok (.bipush 40, 2) := by decide +kernel
theorem dd_Mo_nodeOf_13 : decode bb_Mo_nodeOf 13 = .ok (.invokevirtual 334, 3) := by decide +kernel
theorem dd_Mo_nodeOf_16 : decode bb_Mo_nodeOf 16 = .ok (.iconst (-1), 1) := by decide +kernel
theorem dd_Mo_nodeOf_17 : decode bb_Mo_nodeOf 17 = .ok (.istore_n 2, 1) := by decide +kernel
theorem dd_Mo_nodeOf_18 : decode bb_Mo_nodeOf 18 = .ok (.aload_n 0, 1) := by decide +kernel
theorem dd_Mo_nodeOf_19 : decode bb_Mo_nodeOf 19 = .ok (.getfield 294, 3) := by decide +kernel
theorem dd_Mo_nodeOf_22 : decode bb_Mo_nodeOf 22 = .ok (.ifCond .ne 96, 3) := by decide +kernel
theorem dd_Mo_nodeOf_25 : decode bb_Mo_nodeOf 25 = .ok (.aload_n 0, 1) := by decide +kernel
theorem dd_Mo_nodeOf_26 : decode bb_Mo_nodeOf 26 = .ok (.invokevirtual 306, 3) := by decide +kernel
theorem dd_Mo_nodeOf_29 : decode bb_Mo_nodeOf 29 = .ok (.iconst 2, 1) := by decide +kernel
theorem dd_Mo_nodeOf_30 : decode bb_Mo_nodeOf 30 = .ok (.if_icmp .ne 88, 3) := by decide +kernel
theorem dd_Mo_nodeOf_33 : decode bb_Mo_nodeOf 33 = .ok (.aload_n 0, 1) := by decide +kernel
theorem dd_Mo_nodeOf_34 : decode bb_Mo_nodeOf 34 = .ok (.getfield 46, 3) := by decide +kernel
theorem dd_Mo_nodeOf_37 : decode bb_Mo_nodeOf 37 = .ok (.aload_n 0, 1) := by decide +kernel
theorem dd_Mo_nodeOf_38 : decode bb_Mo_nodeOf 38 = .ok (.getfield 300, 3) := by decide +kernel
theorem dd_Mo_nodeOf_41 : decode bb_Mo_nodeOf 41 = .ok (.iaload, 1) := by decide +kernel
theorem dd_Mo_nodeOf_42 : decode bb_Mo_nodeOf 42 = .ok (.istore_n 3, 1) := by decide +kernel
theorem dd_Mo_nodeOf_43 : decode bb_Mo_nodeOf 43 = .ok (.aload_n 0, 1) := by decide +kernel
theorem dd_Mo_nodeOf_44 : decode bb_Mo_nodeOf 44 = .ok (.invokevirtual 310, 3) := by decide +kernel
theorem dd_Mo_nodeOf_47 : decode bb_Mo_nodeOf 47 = .ok (.aload_n 0, 1) := by decide +kernel
theorem dd_Mo_nodeOf_48 : decode bb_Mo_nodeOf 48 = .ok (.iload_n 3, 1) := by decide +kernel
theorem dd_Mo_nodeOf_49 : decode bb_Mo_nodeOf 49 = .ok (.invokevirtual 338, 3) := by decide +kernel
theorem dd_Mo_nodeOf_52 : decode bb_Mo_nodeOf 52 = .ok (.istore_n 2, 1) := by decide +kernel
theorem dd_Mo_nodeOf_53 : decode bb_Mo_nodeOf 53 = .ok (.iload_n 2, 1) := by decide +kernel
theorem dd_Mo_nodeOf_54 : decode bb_Mo_nodeOf 54 = .ok (.bipush 100, 2) := by decide +kernel
theorem dd_Mo_nodeOf_56 : decode bb_Mo_nodeOf 56 = .ok (.if_icmp .lt 17, 3) := by decide +kernel
theorem dd_Mo_nodeOf_59 : decode bb_Mo_nodeOf 59 = .ok (.aload_n 0, 1) := by decide +kernel
theorem dd_Mo_nodeOf_60 : decode bb_Mo_nodeOf 60 = .ok (.iconst 4, 1) := by decide +kernel
theorem dd_Mo_nodeOf_61 : decode bb_Mo_nodeOf 61 = .ok (.aload_n 0, 1) := by decide +kernel
theorem dd_Mo_nodeOf_62 : decode bb_Mo_nodeOf 62 = .ok (.getfield 49, 3) := by decide +kernel
theorem dd_Mo_nodeOf_65 : decode bb_Mo_nodeOf 65 = .ok (.aload_n 0, 1) := by decide +kernel
theorem dd_Mo_nodeOf_66 : decode bb_Mo_nodeOf 66 = .ok (.getfield 300, 3) := by decide +kernel
theorem dd_Mo_nodeOf_69 : decode bb_Mo_nodeOf 69 = .ok (.iaload, 1) := by decide +kernel
theorem dd_Mo_nodeOf_70 : decode bb_Mo_nodeOf 70 = .ok (.invokevirtual 303, 3) := by decide +kernel
theorem dd_Mo_nodeOf_73 : decode bb_Mo_nodeOf 73 = .ok (.iload_n 2, 1) := by decide +kernel
theorem dd_Mo_nodeOf_74 : decode bb_Mo_nodeOf 74 = .ok (.ifCond .ge 37, 3) := by decide +kernel
theorem dd_Mo_nodeOf_77 : decode bb_Mo_nodeOf 77 = .ok (.aload_n 0, 1) := by decide +kernel
theorem dd_Mo_nodeOf_78 : decode bb_Mo_nodeOf 78 = .ok (.getfield 294, 3) := by decide +kernel
theorem dd_Mo_nodeOf_81 : decode bb_Mo_nodeOf 81 = .ok (.ifCond .ne 30, 3) := by decide +kernel
theorem dd_Mo_nodeOf_84 : decode bb_Mo_nodeOf 84 = .ok (.aload_n 0, 1) := by decide +kernel
theorem dd_Mo_nodeOf_85 : decode bb_Mo_nodeOf 85 = .ok (.aload_n 0, 1) := by decide +kernel
theorem dd_Mo_nodeOf_86 : decode bb_Mo_nodeOf 86 = .ok (.getfield 49, 3) := by decide +kernel
theorem dd_Mo_nodeOf_89 : decode bb_Mo_nodeOf 89 = .ok (.aload_n 0, 1) := by decide +kernel
theorem dd_Mo_nodeOf_90 : decode bb_Mo_nodeOf 90 = .ok (.getfield 300, 3) := by decide +kernel
theorem dd_Mo_nodeOf_93 : decode bb_Mo_nodeOf 93 = .ok (.iaload, 1) := by decide +kernel
theorem dd_Mo_nodeOf_94 : decode bb_Mo_nodeOf 94 = .ok (.invokevirtual 342, 3) := by decide +kernel
theorem dd_Mo_nodeOf_97 : decode bb_Mo_nodeOf 97 = .ok (.ifCond .eq 14, 3) := by decide +kernel
theorem dd_Mo_nodeOf_100 : decode bb_Mo_nodeOf 100 = .ok (.aload_n 0, 1) := by decide +kernel
theorem dd_Mo_nodeOf_101 : decode bb_Mo_nodeOf 101 = .ok (.invokevirtual 345, 3) := by decide +kernel
theorem dd_Mo_nodeOf_104 : decode bb_Mo_nodeOf 104 = .ok (.istore_n 2, 1) := by decide +kernel
theorem dd_Mo_nodeOf_105 : decode bb_Mo_nodeOf 105 = .ok (.aload_n 0, 1) := by decide +kernel
theorem dd_Mo_nodeOf_106 : decode bb_Mo_nodeOf 106 = .ok (.iload_n 3, 1) := by decide +kernel
theorem dd_Mo_nodeOf_107 : decode bb_Mo_nodeOf 107 = .ok (.iload_n 2, 1) := by decide +kernel
theorem dd_Mo_nodeOf_108 : decode bb_Mo_nodeOf 108 = .ok (.invokevirtual 348, 3) := by decide +kernel
theorem dd_Mo_nodeOf_111 : decode bb_Mo_nodeOf 111 = .ok (.aload_n 0, 1) := by decide +kernel
theorem dd_Mo_nodeOf_112 : decode bb_Mo_nodeOf 112 = .ok (.invokevirtual 313, 3) := by decide +kernel
theorem dd_Mo_nodeOf_115 : decode bb_Mo_nodeOf 115 = .ok (.goto 57, 3) := by decide +kernel
theorem dd_Mo_nodeOf_118 : decode bb_Mo_nodeOf 118 = .ok (.aload_n 0, 1) := by decide +kernel
theorem dd_Mo_nodeOf_119 : decode bb_Mo_nodeOf 119 = .ok (.getfield 294, 3) := by decide +kernel
theorem dd_Mo_nodeOf_122 : decode bb_Mo_nodeOf 122 = .ok (.ifCond .ne 50, 3) := by decide +kernel
theorem dd_Mo_nodeOf_125 : decode bb_Mo_nodeOf 125 = .ok (.aload_n 0, 1) := by decide +kernel
theorem dd_Mo_nodeOf_126 : decode bb_Mo_nodeOf 126 = .ok (.invokevirtual 306, 3) := by decide +kernel
theorem dd_Mo_nodeOf_129 : decode bb_Mo_nodeOf 129 = .ok (.bipush 58, 2) := by decide +kernel
theorem dd_Mo_nodeOf_131 : decode bb_Mo_nodeOf 131 = .ok (.if_icmp .eq 21, 3) := by decide +kernel
theorem dd_Mo_nodeOf_134 : decode bb_Mo_nodeOf 134 = .ok (.aload_n 0, 1) := by decide +kernel
theorem dd_Mo_nodeOf_135 : decode bb_Mo_nodeOf 135 = .ok (.getfield 43, 3) := by decide +kernel
theorem dd_Mo_nodeOf_138 : decode bb_Mo_nodeOf 138 = .ok (.aload_n 0, 1) := by decide +kernel
theorem dd_Mo_nodeOf_139 : decode bb_Mo_nodeOf 139 = .ok (.getfield 300, 3) := by decide +kernel
theorem dd_Mo_nodeOf_142 : decode bb_Mo_nodeOf 142 = .ok (.iaload, 1) := by decide +kernel
theorem dd_Mo_nodeOf_143 : decode bb_Mo_nodeOf 143 = .ok (.bipush 41, 2) := by decide +kernel
theorem dd_Mo_nodeOf_145 : decode bb_Mo_nodeOf 145 = .ok (.if_icmp .eq 7, 3) := by decide +kernel
theorem dd_Mo_nodeOf_148 : decode bb_Mo_nodeOf 148 = .ok (.aload_n 0, 1) := by decide +kernel
theorem dd_Mo_nodeOf_149 : decode bb_Mo_nodeOf 149 = .ok (.invokevirtual 319, 3) := by decide +kernel
theorem dd_Mo_nodeOf_152 : decode bb_Mo_nodeOf 152 = .ok (.aload_n 0, 1) := by decide +kernel
theorem dd_Mo_nodeOf_153 : decode bb_Mo_nodeOf 153 = .ok (.getfield 294, 3) := by decide +kernel
theorem dd_Mo_nodeOf_156 : decode bb_Mo_nodeOf 156 = .ok (.ifCond .ne 16, 3) := by decide +kernel
theorem dd_Mo_nodeOf_159 : decode bb_Mo_nodeOf 159 = .ok (.aload_n 0, 1) := by decide +kernel
theorem dd_Mo_nodeOf_160 : decode bb_Mo_nodeOf 160 = .ok (.iload_n 1, 1) := by decide +kernel
theorem dd_Mo_nodeOf_161 : decode bb_Mo_nodeOf 161 = .ok (.invokevirtual 342, 3) := by decide +kernel
theorem dd_Mo_nodeOf_164 : decode bb_Mo_nodeOf 164 = .ok (.ifCond .eq 8, 3) := by decide +kernel
theorem dd_Mo_nodeOf_167 : decode bb_Mo_nodeOf 167 = .ok (.aload_n 0, 1) := by decide +kernel
theorem dd_Mo_nodeOf_168 : decode bb_Mo_nodeOf 168 = .ok (.invokevirtual 345, 3) := by decide +kernel
theorem dd_Mo_nodeOf_171 : decode bb_Mo_nodeOf 171 = .ok (.istore_n 2, 1) := by decide +kernel
theorem dd_Mo_nodeOf_172 : decode bb_Mo_nodeOf 172 = .ok (.aload_n 0, 1) := by decide +kernel
theorem dd_Mo_nodeOf_173 : decode bb_Mo_nodeOf 173 = .ok (.getfield 294, 3) := by decide +kernel
theorem dd_Mo_nodeOf_176 : decode bb_Mo_nodeOf 176 = .ok (.ifCond .ne 79, 3) := by decide +kernel
theorem dd_Mo_nodeOf_179 : decode bb_Mo_nodeOf 179 = .ok (.aload_n 0, 1) := by decide +kernel
theorem dd_Mo_nodeOf_180 : decode bb_Mo_nodeOf 180 = .ok (.bipush 58, 2) := by decide +kernel
theorem dd_Mo_nodeOf_182 : decode bb_Mo_nodeOf 182 = .ok (.invokevirtual 316, 3) := by decide +kernel
theorem dd_Mo_nodeOf_185 : decode bb_Mo_nodeOf 185 = .ok (.ifCond .eq 70, 3) := by decide +kernel
theorem dd_Mo_nodeOf_188 : decode bb_Mo_nodeOf 188 = .ok (.aload_n 0, 1) := by decide +kernel
theorem dd_Mo_nodeOf_189 : decode bb_Mo_nodeOf 189 = .ok (.invokevirtual 306, 3) := by decide +kernel
theorem dd_Mo_nodeOf_192 : decode bb_Mo_nodeOf 192 = .ok (.iconst 3, 1) := by decide +kernel
theorem dd_Mo_nodeOf_193 : decode bb_Mo_nodeOf 193 = .ok (.if_icmp .eq 10, 3) := by decide +kernel
theorem dd_Mo_nodeOf_196 : decode bb_Mo_nodeOf 196 = .ok (.aload_n 0, 1) := by decide +kernel
theorem dd_Mo_nodeOf_197 : decode bb_Mo_nodeOf 197 = .ok (.invokevirtual 319, 3) := by decide +kernel
theorem dd_Mo_nodeOf_200 : decode bb_Mo_nodeOf 200 = .ok (.goto (-28), 3) := by decide +kernel
theorem dd_Mo_nodeOf_203 : decode bb_Mo_nodeOf 203 = .ok (.aload_n 0, 1) := by decide +kernel
theorem dd_Mo_nodeOf_204 : decode bb_Mo_nodeOf 204 = .ok (.getfield 46, 3) := by decide +kernel
theorem dd_Mo_nodeOf_207 : decode bb_Mo_nodeOf 207 = .ok (.aload_n 0, 1) := by decide +kernel
theorem dd_Mo_nodeOf_208 : decode bb_Mo_nodeOf 208 = .ok (.getfield 300, 3) := by decide +kernel
theorem dd_Mo_nodeOf_211 : decode bb_Mo_nodeOf 211 = .ok (.iaload, 1) := by decide +kernel
theorem dd_Mo_nodeOf_212 : decode bb_Mo_nodeOf 212 = .ok (.istore_n 3, 1) := by decide +kernel
theorem dd_Mo_nodeOf_213 : decode bb_Mo_nodeOf 213 = .ok (.aload_n 0, 1) := by decide +kernel
theorem dd_Mo_nodeOf_214 : decode bb_Mo_nodeOf 214 = .ok (.invokevirtual 313, 3) := by decide +kernel
theorem dd_Mo_nodeOf_217 : decode bb_Mo_nodeOf 217 = .ok (.aload_n 0, 1) := by decide +kernel
theorem dd_Mo_nodeOf_218 : decode bb_Mo_nodeOf 218 = .ok (.getfield 294, 3) := by decide +kernel
theorem dd_Mo_nodeOf_221 : decode bb_Mo_nodeOf 221 = .ok (.ifCond .ne 31, 3) := by decide +kernel
theorem dd_Mo_nodeOf_224 : decode bb_Mo_nodeOf 224 = .ok (.aload_n 0, 1) := by decide +kernel
theorem dd_Mo_nodeOf_225 : decode bb_Mo_nodeOf 225 = .ok (.getfield 77, 3) := by decide +kernel
theorem dd_Mo_nodeOf_228 : decode bb_Mo_nodeOf 228 = .ok (.bipush 80, 2) := by decide +kernel
theorem dd_Mo_nodeOf_230 : decode bb_Mo_nodeOf 230 = .ok (.aload_n 0, 1) := by decide +kernel
theorem dd_Mo_nodeOf_231 : decode bb_Mo_nodeOf 231 = .ok (.getfield 331, 3) := by decide +kernel
theorem dd_Mo_nodeOf_234 : decode bb_Mo_nodeOf 234 = .ok (.imul, 1) := by decide +kernel
theorem dd_Mo_nodeOf_235 : decode bb_Mo_nodeOf 235 = .ok (.aload_n 0, 1) := by decide +kernel
theorem dd_Mo_nodeOf_236 : decode bb_Mo_nodeOf 236 = .ok (.getfield 325, 3) := by decide +kernel
theorem dd_Mo_nodeOf_239 : decode bb_Mo_nodeOf 239 = .ok (.iadd, 1) := by decide +kernel
theorem dd_Mo_nodeOf_240 : decode bb_Mo_nodeOf 240 = .ok (.bipush 8, 2) := by decide +kernel
theorem dd_Mo_nodeOf_242 : decode bb_Mo_nodeOf 242 = .ok (.imul, 1) := by decide +kernel
theorem dd_Mo_nodeOf_243 : decode bb_Mo_nodeOf 243 = .ok (.iload_n 2, 1) := by decide +kernel
theorem dd_Mo_nodeOf_244 : decode bb_Mo_nodeOf 244 = .ok (.iadd, 1) := by decide +kernel
theorem dd_Mo_nodeOf_245 : decode bb_Mo_nodeOf 245 = .ok (.dup2, 1) := by decide +kernel
theorem dd_Mo_nodeOf_246 : decode bb_Mo_nodeOf 246 = .ok (.iaload, 1) := by decide +kernel
theorem dd_Mo_nodeOf_247 : decode bb_Mo_nodeOf 247 = .ok (.iconst 1, 1) := by decide +kernel
theorem dd_Mo_nodeOf_248 : decode bb_Mo_nodeOf 248 = .ok (.iload_n 3, 1) := by decide +kernel
theorem dd_Mo_nodeOf_249 : decode bb_Mo_nodeOf 249 = .ok (.ishl, 1) := by decide +kernel
theorem dd_Mo_nodeOf_250 : decode bb_Mo_nodeOf 250 = .ok (.ior, 1) := by decide +kernel
theorem dd_Mo_nodeOf_251 : decode bb_Mo_nodeOf 251 = .ok (.iastore, 1) := by decide +kernel
theorem dd_Mo_nodeOf_252 : decode bb_Mo_nodeOf 252 = .ok (.goto (-80), 3) := by decide +kernel
theorem dd_Mo_nodeOf_255 : decode bb_Mo_nodeOf 255 = .ok (.aload_n 0, 1) := by decide +kernel
theorem dd_Mo_nodeOf_256 : decode bb_Mo_nodeOf 256 = .ok (.bipush 41, 2) := by decide +kernel
theorem dd_Mo_nodeOf_258 : decode bb_Mo_nodeOf 258 = .ok (.invokevirtual 334, 3) := by decide +kernel
theorem dd_Mo_nodeOf_261 : decode bb_Mo_nodeOf 261 = .ok (.iload_n 2, 1) := by decide +kernel
theorem dd_Mo_nodeOf_262 : decode bb_Mo_nodeOf 262 = .ok (.ireturn, 1) := by decide +kernel
def f_Mo_nodeOf_252 (nf : Nat) (x0 : Nat) (x2 : Int32) (c : Zc) : Option ((Nat × Int32 × Zc) ⊕ (Nat × Int32 × Zc)) :=
  some (.inl (x0, x2, c))
def g_Mo_nodeOf_172 (nf : Nat) (x0 : Nat) (x2 : Int32) (c : Zc) : Option ((Nat × Int32 × Zc) ⊕ (Nat × Int32 × Zc)) :=
  (zgi c x0 12 19).bind fun v10 => if v10 = 0 then ((zob c x0 12).bind fun w13 => (f_Mo_takes nf x0 58 c).bind fun q12 => if q12.1 = 0 then (some (.inr (x0, x2, q12.2))) else ((zob q12.2 x0 12).bind fun w16 => (f_Mo_kind nf x0 q12.2).bind fun q15 => if q15.1 = 3 then ((zgr q15.2 x0 12 15).bind fun v18 => (zgi q15.2 x0 12 18).bind fun v19 => (zai q15.2 v18 0 v19).bind fun v20 => (zob q15.2 x0 12).bind fun w22 => (f_Mo_pass nf x0 q15.2).bind fun q21 => (zgi q21 x0 12 19).bind fun v23 => if v23 = 0 then ((zgr q21 x0 12 30).bind fun v25 => (zgi q21 x0 12 25).bind fun v26 => (zgi q21 x0 12 56).bind fun v27 => (zai q21 v25 0 ((((80 * v26) + v27) * 8) + x2)).bind fun v28 => (zsi q21 v25 0 ((((80 * v26) + v27) * 8) + x2) (v28 ||| (1 <<< (v20 &&& 31)))).bind fun c29 => f_Mo_nodeOf_252 nf x0 x2 c29) else (f_Mo_nodeOf_252 nf x0 x2 q21)) else ((zob q15.2 x0 12).bind fun w31 => (f_Mo_wrong nf x0 q15.2).bind fun q30 => some (.inl (x0, x2, q30))))) else (some (.inr (x0, x2, c)))
def f_Mo_nodeOf_255 (nf : Nat) (x0 : Nat) (x2 : Int32) (c : Zc) : Option (Int32 × Zc) :=
  (zob c x0 12).bind fun w33 => (f_Mo_need nf x0 41 c).bind fun q32 => some (x2, q32)
def f_Mo_nodeOf_172 (nf : Nat) (x0 : Nat) (x2 : Int32) (c : Zc) : Option (Int32 × Zc) :=
  (zlp (fun a => g_Mo_nodeOf_172 nf a.1 a.2.1 a.2.2) nf (x0, x2, c)).bind fun b => f_Mo_nodeOf_255 nf b.1 b.2.1 b.2.2
def f_Mo_nodeOf_152 (nf : Nat) (x0 : Nat) (x1 : Int32) (x2 : Int32) (c : Zc) : Option (Int32 × Zc) :=
  (zgi c x0 12 19).bind fun v37 => if v37 = 0 then ((zob c x0 12).bind fun w40 => (f_Mo_oneMore nf x0 x1 c).bind fun q39 => if q39.1 = 0 then (f_Mo_nodeOf_172 nf x0 x2 q39.2) else ((zob q39.2 x0 12).bind fun w43 => (f_Mo_newSlot nf x0 q39.2).bind fun q42 => f_Mo_nodeOf_172 nf x0 q42.1 q42.2)) else (f_Mo_nodeOf_172 nf x0 x2 c)
def f_Mo_nodeOf_118 (nf : Nat) (x0 : Nat) (x1 : Int32) (x2 : Int32) (c : Zc) : Option (Int32 × Zc) :=
  (zgi c x0 12 19).bind fun v8 => if v8 = 0 then ((zob c x0 12).bind fun w35 => (f_Mo_kind nf x0 c).bind fun q34 => if q34.1 = 58 then (f_Mo_nodeOf_152 nf x0 x1 x2 q34.2) else ((zgr q34.2 x0 12 14).bind fun v44 => (zgi q34.2 x0 12 18).bind fun v45 => (zai q34.2 v44 0 v45).bind fun v46 => if v46 = 41 then (f_Mo_nodeOf_152 nf x0 x1 x2 q34.2) else ((zob q34.2 x0 12).bind fun w49 => (f_Mo_wrong nf x0 q34.2).bind fun q48 => f_Mo_nodeOf_152 nf x0 x1 x2 q48))) else (f_Mo_nodeOf_172 nf x0 x2 c)
def f_Mo_nodeOf_111 (nf : Nat) (x0 : Nat) (x2 : Int32) (c : Zc) : Option (Int32 × Zc) :=
  (zob c x0 12).bind fun w63 => (f_Mo_pass nf x0 c).bind fun q62 => f_Mo_nodeOf_172 nf x0 x2 q62
def f_Mo_nodeOf_73 (nf : Nat) (x0 : Nat) (x2 : Int32) (x3 : Int32) (c : Zc) : Option (Int32 × Zc) :=
  if 0 ≤ x2 then (f_Mo_nodeOf_111 nf x0 x2 c) else ((zgi c x0 12 19).bind fun v64 => if v64 = 0 then ((zgr c x0 12 16).bind fun v66 => (zgi c x0 12 18).bind fun v67 => (zai c v66 0 v67).bind fun v68 => (zob c x0 12).bind fun w70 => (f_Mo_oneMore nf x0 v68 c).bind fun q69 => if q69.1 = 0 then (f_Mo_nodeOf_111 nf x0 x2 q69.2) else ((zob q69.2 x0 12).bind fun w73 => (f_Mo_newSlot nf x0 q69.2).bind fun q72 => (zob q72.2 x0 12).bind fun w75 => (f_Mo_learn nf x0 x3 q72.1 q72.2).bind fun q74 => f_Mo_nodeOf_111 nf x0 q72.1 q74)) else (f_Mo_nodeOf_111 nf x0 x2 c))
def f_Mo_nodeOf (nf : Nat) (a0 : Nat) (c : Zc) : Option (Int32 × Zc) :=
  (zgr c a0 12 16).bind fun v1 => (zgi c a0 12 18).bind fun v2 => (zai c v1 0 v2).bind fun v3 => (zob c a0 12).bind fun w5 => (f_Mo_need nf a0 40 c).bind fun q4 => (zgi q4 a0 12 19).bind fun v6 => if v6 = 0 then ((zob q4 a0 12).bind fun w51 => (f_Mo_kind nf a0 q4).bind fun q50 => if q50.1 = 2 then ((zgr q50.2 a0 12 15).bind fun v53 => (zgi q50.2 a0 12 18).bind fun v54 => (zai q50.2 v53 0 v54).bind fun v55 => (zob q50.2 a0 12).bind fun w57 => (f_Mo_stands nf a0 q50.2).bind fun q56 => (zob q56 a0 12).bind fun w59 => (f_Mo_meaning nf a0 v55 q56).bind fun q58 => if q58.1 < 100 then (f_Mo_nodeOf_73 nf a0 q58.1 v55 q58.2) else ((zgr q58.2 a0 12 16).bind fun v76 => (zgi q58.2 a0 12 18).bind fun v77 => (zai q58.2 v76 0 v77).bind fun v78 => (zob q58.2 a0 12).bind fun w80 => (f_Mo_refuse nf a0 4 v78 q58.2).bind fun q79 => f_Mo_nodeOf_73 nf a0 q58.1 v55 q79)) else (f_Mo_nodeOf_118 nf a0 v3 (-1) q50.2)) else (f_Mo_nodeOf_118 nf a0 v3 (-1) q4)
set_option maxRecDepth 100000 in
set_option maxHeartbeats 4000000 in
theorem t_Mo_nodeOf_252  (X : zX p s m args cd D cid B bb_Mo_nodeOf 4 rr_Mo zT) (H : zH s meth B n0 (some (.int)) "nodeOf") {nf : Nat} {x0 : Nat} {x2 : Int32} {c : Zc} {r : (Nat × Int32 × Zc) ⊕ (Nat × Int32 × Zc)} (h : f_Mo_nodeOf_252 nf x0 x2 c = some r) (k0 : ∀ a, r = .inl a → (fun a : Nat × Int32 × Zc => Zz p l e (zRm 5 104 0 0) s m args below meth cd Q D cid B 4 0 0 a.2.2 172 [(0, .ref a.1), (2, .int a.2.1)] []) a) (k1 : ∀ b, r = .inr b → (fun b : Nat × Int32 × Zc => Zz p l e (zRm 5 104 0 0) s m args below meth cd Q D cid B 4 0 0 b.2.2 255 [(0, .ref b.1), (2, .int b.2.1)] []) b) : Zz p l e (zRm 5 104 0 0) s m args below meth cd Q D cid B 4 0 0 c 252 [(0, .ref x0), (2, .int x2)] [] := by
  unfold f_Mo_nodeOf_252 at h
  refine z_goto (tgt := 172) X dd_Mo_nodeOf_252 (by decide) ?_
  obtain rfl := Option.some.inj h
  exact k0 _ rfl
set_option maxRecDepth 100000 in
set_option maxHeartbeats 4000000 in
theorem u_Mo_nodeOf_172  (X : zX p s m args cd D cid B bb_Mo_nodeOf 4 rr_Mo zT) (H : zH s meth B n0 (some (.int)) "nodeOf") {nf : Nat} {x0 : Nat} {x2 : Int32} {c : Zc} {r : (Nat × Int32 × Zc) ⊕ (Nat × Int32 × Zc)} (h : g_Mo_nodeOf_172 nf x0 x2 c = some r) (k0 : ∀ a, r = .inl a → (fun a : Nat × Int32 × Zc => Zz p l e (zRm 5 104 0 0) s m args below meth cd Q D cid B 4 0 0 a.2.2 172 [(0, .ref a.1), (2, .int a.2.1)] []) a) (k1 : ∀ b, r = .inr b → (fun b : Nat × Int32 × Zc => Zz p l e (zRm 5 104 0 0) s m args below meth cd Q D cid B 4 0 0 b.2.2 255 [(0, .ref b.1), (2, .int b.2.1)] []) b) : Zz p l e (zRm 5 104 0 0) s m args below meth cd Q D cid B 4 0 0 c 172 [(0, .ref x0), (2, .int x2)] [] := by
  unfold g_Mo_nodeOf_172 at h
  refine z_aload_n X dd_Mo_nodeOf_172 rfl 0 rfl ?_
  obtain ⟨v10, ev10, h⟩ := zb h
  refine z_get (j := 19) X dd_Mo_nodeOf_173 kc_12 ki_12 (by decide) km_1540 (zgi_v ev10) ?_
  refine z_if_ne (tgt := 255) X dd_Mo_nodeOf_176 (by decide) (fun q11 => ?_) (fun q11 => ?_)
  · rw [if_neg q11] at h
    obtain rfl := Option.some.inj h
    exact k1 _ rfl
  · rw [if_pos q11] at h
    refine z_aload_n X dd_Mo_nodeOf_179 rfl 0 rfl ?_
    refine z_bipush (v := 58) X dd_Mo_nodeOf_180 (by decide) ?_
    obtain ⟨w13, ew13, h⟩ := zb h
    obtain ⟨q12, eq12, h⟩ := zb h
    refine z_callVi X [.int 58] rfl dd_Mo_nodeOf_182 (c_Mo_takes l eq12) (cwV 1 X.1.2.2.2.2 (zg_V km_1908 km_1910 km_69 km_138 km_1911) rfl rfl rfl (by decide +kernel) ⟨Nat.le_of_ble_eq_true rfl, Nat.le_of_ble_eq_true rfl⟩) (zob_s ew13) kc_12 rfl (Nat.le_of_ble_eq_true rfl) ⟨Nat.le_of_ble_eq_true rfl, Nat.le_of_ble_eq_true rfl⟩ ?_
    refine z_if_eq (tgt := 255) X dd_Mo_nodeOf_185 (by decide) (fun q14 => ?_) (fun q14 => ?_)
    · rw [if_pos q14] at h
      obtain rfl := Option.some.inj h
      exact k1 _ rfl
    · rw [if_neg q14] at h
      refine z_aload_n X dd_Mo_nodeOf_188 rfl 0 rfl ?_
      obtain ⟨w16, ew16, h⟩ := zb h
      obtain ⟨q15, eq15, h⟩ := zb h
      refine z_callVi X [] rfl dd_Mo_nodeOf_189 (c_Mo_kind l eq15) (cwV 0 X.1.2.2.2.2 (zg_V km_1912 km_1914 km_70 km_138 km_1915) rfl rfl rfl (by decide +kernel) ⟨Nat.le_of_ble_eq_true rfl, Nat.le_of_ble_eq_true rfl⟩) (zob_s ew16) kc_12 rfl (Nat.le_of_ble_eq_true rfl) ⟨Nat.le_of_ble_eq_true rfl, Nat.le_of_ble_eq_true rfl⟩ ?_
      refine z_iconst (v := 3) X dd_Mo_nodeOf_192 (by decide) ?_
      refine z_icmp_eq (tgt := 203) X dd_Mo_nodeOf_193 (by decide) (fun q17 => ?_) (fun q17 => ?_)
      · rw [if_pos q17] at h
        refine z_aload_n X dd_Mo_nodeOf_203 rfl 0 rfl ?_
        obtain ⟨v18, ev18, h⟩ := zb h
        refine z_get (j := 15) X dd_Mo_nodeOf_204 kc_12 ki_12 (by decide) km_1536 (zgr_v ev18) ?_
        refine z_aload_n X dd_Mo_nodeOf_207 rfl 0 rfl ?_
        obtain ⟨v19, ev19, h⟩ := zb h
        refine z_get (j := 18) X dd_Mo_nodeOf_208 kc_12 ki_12 (by decide) km_1539 (zgi_v ev19) ?_
        obtain ⟨v20, ev20, h⟩ := zb h
        refine z_iaload X dd_Mo_nodeOf_211 rfl ev20 ?_
        refine z_istore_n (lv' := [(3, .int v20), (0, .ref x0), (2, .int x2)]) X dd_Mo_nodeOf_212 rfl (by decide) rfl ?_
        refine z_aload_n X dd_Mo_nodeOf_213 rfl 1 rfl ?_
        obtain ⟨w22, ew22, h⟩ := zb h
        obtain ⟨q21, eq21, h⟩ := zb h
        refine z_callVv X [] rfl dd_Mo_nodeOf_214 (c_Mo_pass l eq21) (cwV 0 X.1.2.2.2.2 (zg_V km_1920 km_1922 km_72 km_138 km_1923) rfl rfl rfl (by decide +kernel) ⟨Nat.le_of_ble_eq_true rfl, Nat.le_of_ble_eq_true rfl⟩) (zob_s ew22) kc_12 rfl (Nat.le_of_ble_eq_true rfl) ⟨Nat.le_of_ble_eq_true rfl, Nat.le_of_ble_eq_true rfl⟩ ?_
        refine z_aload_n X dd_Mo_nodeOf_217 rfl 1 rfl ?_
        obtain ⟨v23, ev23, h⟩ := zb h
        refine z_get (j := 19) X dd_Mo_nodeOf_218 kc_12 ki_12 (by decide) km_1540 (zgi_v ev23) ?_
        refine z_if_ne (tgt := 252) X dd_Mo_nodeOf_221 (by decide) (fun q24 => ?_) (fun q24 => ?_)
        · rw [if_neg q24] at h
          refine z_sub [1, 2] rfl ?_
          exact t_Mo_nodeOf_252 X H h k0 k1
        · rw [if_pos q24] at h
          refine z_aload_n X dd_Mo_nodeOf_224 rfl 1 rfl ?_
          obtain ⟨v25, ev25, h⟩ := zb h
          refine z_get (j := 30) X dd_Mo_nodeOf_225 kc_12 ki_12 (by decide) km_1551 (zgr_v ev25) ?_
          refine z_bipush (v := 80) X dd_Mo_nodeOf_228 (by decide) ?_
          refine z_aload_n X dd_Mo_nodeOf_230 rfl 1 rfl ?_
          obtain ⟨v26, ev26, h⟩ := zb h
          refine z_get (j := 25) X dd_Mo_nodeOf_231 kc_12 ki_12 (by decide) km_1546 (zgi_v ev26) ?_
          refine z_imul X dd_Mo_nodeOf_234 ?_
          refine z_aload_n X dd_Mo_nodeOf_235 rfl 1 rfl ?_
          obtain ⟨v27, ev27, h⟩ := zb h
          refine z_get (j := 56) X dd_Mo_nodeOf_236 kc_12 ki_12 (by decide) km_1577 (zgi_v ev27) ?_
          refine z_iadd X dd_Mo_nodeOf_239 ?_
          refine z_bipush (v := 8) X dd_Mo_nodeOf_240 (by decide) ?_
          refine z_imul X dd_Mo_nodeOf_242 ?_
          refine z_iload_n X dd_Mo_nodeOf_243 rfl 2 rfl ?_
          refine z_iadd X dd_Mo_nodeOf_244 ?_
          refine z_dup2_11 X dd_Mo_nodeOf_245 rfl rfl ?_
          obtain ⟨v28, ev28, h⟩ := zb h
          refine z_iaload X dd_Mo_nodeOf_246 rfl ev28 ?_
          refine z_iconst (v := 1) X dd_Mo_nodeOf_247 (by decide) ?_
          refine z_iload_n X dd_Mo_nodeOf_248 rfl 0 rfl ?_
          refine z_ishl X dd_Mo_nodeOf_249 ?_
          refine z_ior X dd_Mo_nodeOf_250 ?_
          obtain ⟨c29, ec29, h⟩ := zb h
          refine z_iastore X dd_Mo_nodeOf_251 rfl ec29 ?_
          refine z_sub [1, 2] rfl ?_
          exact t_Mo_nodeOf_252 X H h k0 k1
      · rw [if_neg q17] at h
        refine z_aload_n X dd_Mo_nodeOf_196 rfl 0 rfl ?_
        obtain ⟨w31, ew31, h⟩ := zb h
        obtain ⟨q30, eq30, h⟩ := zb h
        refine z_callVv X [] rfl dd_Mo_nodeOf_197 (c_Mo_wrong l eq30) (cwV 0 X.1.2.2.2.2 (zg_V km_1928 km_1930 km_74 km_138 km_1931) rfl rfl rfl (by decide +kernel) ⟨Nat.le_of_ble_eq_true rfl, Nat.le_of_ble_eq_true rfl⟩) (zob_s ew31) kc_12 rfl (Nat.le_of_ble_eq_true rfl) ⟨Nat.le_of_ble_eq_true rfl, Nat.le_of_ble_eq_true rfl⟩ ?_
        refine z_goto (tgt := 172) X dd_Mo_nodeOf_200 (by decide) ?_
        obtain rfl := Option.some.inj h
        exact k0 _ rfl
set_option maxRecDepth 100000 in
set_option maxHeartbeats 4000000 in
theorem t_Mo_nodeOf_255  (X : zX p s m args cd D cid B bb_Mo_nodeOf 4 rr_Mo zT) (H : zH s meth B n0 (some (.int)) "nodeOf") {nf : Nat} {x0 : Nat} {x2 : Int32} {c : Zc} {res : Int32 × Zc} (h : f_Mo_nodeOf_255 nf x0 x2 c = some res) : Zz p l e (zRm 5 104 0 0) s m args below meth cd (MQ below (zQi D cid B res.1 res.2 n0 0) args s 0 0 (fun q => B ≤ q)) D cid B 4 0 0 c 255 [(0, .ref x0), (2, .int x2)] [] := by
  unfold f_Mo_nodeOf_255 at h
  refine z_aload_n X dd_Mo_nodeOf_255 rfl 0 rfl ?_
  refine z_bipush (v := 41) X dd_Mo_nodeOf_256 (by decide) ?_
  obtain ⟨w33, ew33, h⟩ := zb h
  obtain ⟨q32, eq32, h⟩ := zb h
  refine z_callVv X [.int 41] rfl dd_Mo_nodeOf_258 (c_Mo_need l eq32) (cwV 1 X.1.2.2.2.2 (zg_V km_1904 km_1906 km_68 km_138 km_1907) rfl rfl rfl (by decide +kernel) ⟨Nat.le_of_ble_eq_true rfl, Nat.le_of_ble_eq_true rfl⟩) (zob_s ew33) kc_12 rfl (Nat.le_of_ble_eq_true rfl) ⟨Nat.le_of_ble_eq_true rfl, Nat.le_of_ble_eq_true rfl⟩ ?_
  refine z_iload_n X dd_Mo_nodeOf_261 rfl 1 rfl ?_
  obtain rfl := Option.some.inj h
  exact z_iret X H.1 H.2.1 H.2.2.1 dd_Mo_nodeOf_262
set_option maxRecDepth 100000 in
set_option maxHeartbeats 4000000 in
theorem t_Mo_nodeOf_172  (X : zX p s m args cd D cid B bb_Mo_nodeOf 4 rr_Mo zT) (H : zH s meth B n0 (some (.int)) "nodeOf") {nf : Nat} {x0 : Nat} {x2 : Int32} {c : Zc} {res : Int32 × Zc} (h : f_Mo_nodeOf_172 nf x0 x2 c = some res) : Zz p l e (zRm 5 104 0 0) s m args below meth cd (MQ below (zQi D cid B res.1 res.2 n0 0) args s 0 0 (fun q => B ≤ q)) D cid B 4 0 0 c 172 [(0, .ref x0), (2, .int x2)] [] := by
  unfold f_Mo_nodeOf_172 at h
  obtain ⟨b, eb, h⟩ := zb h
  refine zlp_ok (P := fun a : Nat × Int32 × Zc => Zz p l e (zRm 5 104 0 0) s m args below meth cd _ D cid B 4 0 0 a.2.2 172 [(0, .ref a.1), (2, .int a.2.1)] []) (G := fun b : Nat × Int32 × Zc => Zz p l e (zRm 5 104 0 0) s m args below meth cd _ D cid B 4 0 0 b.2.2 255 [(0, .ref b.1), (2, .int b.2.1)] []) (fun a r ha k0 k1 => u_Mo_nodeOf_172 X H ha k0 k1) nf _ b eb ?_
  exact t_Mo_nodeOf_255 X H h
set_option maxRecDepth 100000 in
set_option maxHeartbeats 4000000 in
theorem t_Mo_nodeOf_152  (X : zX p s m args cd D cid B bb_Mo_nodeOf 4 rr_Mo zT) (H : zH s meth B n0 (some (.int)) "nodeOf") {nf : Nat} {x0 : Nat} {x1 : Int32} {x2 : Int32} {c : Zc} {res : Int32 × Zc} (h : f_Mo_nodeOf_152 nf x0 x1 x2 c = some res) : Zz p l e (zRm 5 104 0 0) s m args below meth cd (MQ below (zQi D cid B res.1 res.2 n0 0) args s 0 0 (fun q => B ≤ q)) D cid B 4 0 0 c 152 [(0, .ref x0), (1, .int x1), (2, .int x2)] [] := by
  unfold f_Mo_nodeOf_152 at h
  refine z_aload_n X dd_Mo_nodeOf_152 rfl 0 rfl ?_
  obtain ⟨v37, ev37, h⟩ := zb h
  refine z_get (j := 19) X dd_Mo_nodeOf_153 kc_12 ki_12 (by decide) km_1540 (zgi_v ev37) ?_
  refine z_if_ne (tgt := 172) X dd_Mo_nodeOf_156 (by decide) (fun q38 => ?_) (fun q38 => ?_)
  · rw [if_neg q38] at h
    refine z_sub [0, 2] rfl ?_
    exact t_Mo_nodeOf_172 X H h
  · rw [if_pos q38] at h
    refine z_aload_n X dd_Mo_nodeOf_159 rfl 0 rfl ?_
    refine z_iload_n X dd_Mo_nodeOf_160 rfl 1 rfl ?_
    obtain ⟨w40, ew40, h⟩ := zb h
    obtain ⟨q39, eq39, h⟩ := zb h
    refine z_callVi X [.int x1] rfl dd_Mo_nodeOf_161 (c_Mo_oneMore l eq39) (cwV 1 X.1.2.2.2.2 (zg_V km_1944 km_1946 km_78 km_138 km_1947) rfl rfl rfl (by decide +kernel) ⟨Nat.le_of_ble_eq_true rfl, Nat.le_of_ble_eq_true rfl⟩) (zob_s ew40) kc_12 rfl (Nat.le_of_ble_eq_true rfl) ⟨Nat.le_of_ble_eq_true rfl, Nat.le_of_ble_eq_true rfl⟩ ?_
    refine z_if_eq (tgt := 172) X dd_Mo_nodeOf_164 (by decide) (fun q41 => ?_) (fun q41 => ?_)
    · rw [if_pos q41] at h
      refine z_sub [0, 2] rfl ?_
      exact t_Mo_nodeOf_172 X H h
    · rw [if_neg q41] at h
      refine z_aload_n X dd_Mo_nodeOf_167 rfl 0 rfl ?_
      obtain ⟨w43, ew43, h⟩ := zb h
      obtain ⟨q42, eq42, h⟩ := zb h
      refine z_callVi X [] rfl dd_Mo_nodeOf_168 (c_Mo_newSlot l eq42) (cwV 0 X.1.2.2.2.2 (zg_V km_1948 km_1950 km_79 km_138 km_1951) rfl rfl rfl (by decide +kernel) ⟨Nat.le_of_ble_eq_true rfl, Nat.le_of_ble_eq_true rfl⟩) (zob_s ew43) kc_12 rfl (Nat.le_of_ble_eq_true rfl) ⟨Nat.le_of_ble_eq_true rfl, Nat.le_of_ble_eq_true rfl⟩ ?_
      refine z_istore_n (lv' := [(2, .int q42.1), (0, .ref x0), (1, .int x1)]) X dd_Mo_nodeOf_171 rfl (by decide) rfl ?_
      refine z_sub [1, 0] rfl ?_
      exact t_Mo_nodeOf_172 X H h
set_option maxRecDepth 100000 in
set_option maxHeartbeats 4000000 in
theorem t_Mo_nodeOf_118  (X : zX p s m args cd D cid B bb_Mo_nodeOf 4 rr_Mo zT) (H : zH s meth B n0 (some (.int)) "nodeOf") {nf : Nat} {x0 : Nat} {x1 : Int32} {x2 : Int32} {c : Zc} {res : Int32 × Zc} (h : f_Mo_nodeOf_118 nf x0 x1 x2 c = some res) : Zz p l e (zRm 5 104 0 0) s m args below meth cd (MQ below (zQi D cid B res.1 res.2 n0 0) args s 0 0 (fun q => B ≤ q)) D cid B 4 0 0 c 118 [(0, .ref x0), (1, .int x1), (2, .int x2)] [] := by
  unfold f_Mo_nodeOf_118 at h
  refine z_aload_n X dd_Mo_nodeOf_118 rfl 0 rfl ?_
  obtain ⟨v8, ev8, h⟩ := zb h
  refine z_get (j := 19) X dd_Mo_nodeOf_119 kc_12 ki_12 (by decide) km_1540 (zgi_v ev8) ?_
  refine z_if_ne (tgt := 172) X dd_Mo_nodeOf_122 (by decide) (fun q9 => ?_) (fun q9 => ?_)
  · rw [if_neg q9] at h
    refine z_sub [0, 2] rfl ?_
    exact t_Mo_nodeOf_172 X H h
  · rw [if_pos q9] at h
    refine z_aload_n X dd_Mo_nodeOf_125 rfl 0 rfl ?_
    obtain ⟨w35, ew35, h⟩ := zb h
    obtain ⟨q34, eq34, h⟩ := zb h
    refine z_callVi X [] rfl dd_Mo_nodeOf_126 (c_Mo_kind l eq34) (cwV 0 X.1.2.2.2.2 (zg_V km_1912 km_1914 km_70 km_138 km_1915) rfl rfl rfl (by decide +kernel) ⟨Nat.le_of_ble_eq_true rfl, Nat.le_of_ble_eq_true rfl⟩) (zob_s ew35) kc_12 rfl (Nat.le_of_ble_eq_true rfl) ⟨Nat.le_of_ble_eq_true rfl, Nat.le_of_ble_eq_true rfl⟩ ?_
    refine z_bipush (v := 58) X dd_Mo_nodeOf_129 (by decide) ?_
    refine z_icmp_eq (tgt := 152) X dd_Mo_nodeOf_131 (by decide) (fun q36 => ?_) (fun q36 => ?_)
    · rw [if_pos q36] at h
      exact t_Mo_nodeOf_152 X H h
    · rw [if_neg q36] at h
      refine z_aload_n X dd_Mo_nodeOf_134 rfl 0 rfl ?_
      obtain ⟨v44, ev44, h⟩ := zb h
      refine z_get (j := 14) X dd_Mo_nodeOf_135 kc_12 ki_12 (by decide) km_1535 (zgr_v ev44) ?_
      refine z_aload_n X dd_Mo_nodeOf_138 rfl 0 rfl ?_
      obtain ⟨v45, ev45, h⟩ := zb h
      refine z_get (j := 18) X dd_Mo_nodeOf_139 kc_12 ki_12 (by decide) km_1539 (zgi_v ev45) ?_
      obtain ⟨v46, ev46, h⟩ := zb h
      refine z_iaload X dd_Mo_nodeOf_142 rfl ev46 ?_
      refine z_bipush (v := 41) X dd_Mo_nodeOf_143 (by decide) ?_
      refine z_icmp_eq (tgt := 152) X dd_Mo_nodeOf_145 (by decide) (fun q47 => ?_) (fun q47 => ?_)
      · rw [if_pos q47] at h
        exact t_Mo_nodeOf_152 X H h
      · rw [if_neg q47] at h
        refine z_aload_n X dd_Mo_nodeOf_148 rfl 0 rfl ?_
        obtain ⟨w49, ew49, h⟩ := zb h
        obtain ⟨q48, eq48, h⟩ := zb h
        refine z_callVv X [] rfl dd_Mo_nodeOf_149 (c_Mo_wrong l eq48) (cwV 0 X.1.2.2.2.2 (zg_V km_1928 km_1930 km_74 km_138 km_1931) rfl rfl rfl (by decide +kernel) ⟨Nat.le_of_ble_eq_true rfl, Nat.le_of_ble_eq_true rfl⟩) (zob_s ew49) kc_12 rfl (Nat.le_of_ble_eq_true rfl) ⟨Nat.le_of_ble_eq_true rfl, Nat.le_of_ble_eq_true rfl⟩ ?_
        exact t_Mo_nodeOf_152 X H h
set_option maxRecDepth 100000 in
set_option maxHeartbeats 4000000 in
theorem t_Mo_nodeOf_111  (X : zX p s m args cd D cid B bb_Mo_nodeOf 4 rr_Mo zT) (H : zH s meth B n0 (some (.int)) "nodeOf") {nf : Nat} {x0 : Nat} {x2 : Int32} {c : Zc} {res : Int32 × Zc} (h : f_Mo_nodeOf_111 nf x0 x2 c = some res) : Zz p l e (zRm 5 104 0 0) s m args below meth cd (MQ below (zQi D cid B res.1 res.2 n0 0) args s 0 0 (fun q => B ≤ q)) D cid B 4 0 0 c 111 [(0, .ref x0), (2, .int x2)] [] := by
  unfold f_Mo_nodeOf_111 at h
  refine z_aload_n X dd_Mo_nodeOf_111 rfl 0 rfl ?_
  obtain ⟨w63, ew63, h⟩ := zb h
  obtain ⟨q62, eq62, h⟩ := zb h
  refine z_callVv X [] rfl dd_Mo_nodeOf_112 (c_Mo_pass l eq62) (cwV 0 X.1.2.2.2.2 (zg_V km_1920 km_1922 km_72 km_138 km_1923) rfl rfl rfl (by decide +kernel) ⟨Nat.le_of_ble_eq_true rfl, Nat.le_of_ble_eq_true rfl⟩) (zob_s ew63) kc_12 rfl (Nat.le_of_ble_eq_true rfl) ⟨Nat.le_of_ble_eq_true rfl, Nat.le_of_ble_eq_true rfl⟩ ?_
  refine z_goto (tgt := 172) X dd_Mo_nodeOf_115 (by decide) ?_
  exact t_Mo_nodeOf_172 X H h
set_option maxRecDepth 100000 in
set_option maxHeartbeats 4000000 in
theorem t_Mo_nodeOf_73  (X : zX p s m args cd D cid B bb_Mo_nodeOf 4 rr_Mo zT) (H : zH s meth B n0 (some (.int)) "nodeOf") {nf : Nat} {x0 : Nat} {x2 : Int32} {x3 : Int32} {c : Zc} {res : Int32 × Zc} (h : f_Mo_nodeOf_73 nf x0 x2 x3 c = some res) : Zz p l e (zRm 5 104 0 0) s m args below meth cd (MQ below (zQi D cid B res.1 res.2 n0 0) args s 0 0 (fun q => B ≤ q)) D cid B 4 0 0 c 73 [(0, .ref x0), (2, .int x2), (3, .int x3)] [] := by
  unfold f_Mo_nodeOf_73 at h
  refine z_iload_n X dd_Mo_nodeOf_73 rfl 1 rfl ?_
  refine z_if_ge (tgt := 111) X dd_Mo_nodeOf_74 (by decide) (fun q61 => ?_) (fun q61 => ?_)
  · rw [if_pos q61] at h
    refine z_sub [0, 1] rfl ?_
    exact t_Mo_nodeOf_111 X H h
  · rw [if_neg q61] at h
    refine z_aload_n X dd_Mo_nodeOf_77 rfl 0 rfl ?_
    obtain ⟨v64, ev64, h⟩ := zb h
    refine z_get (j := 19) X dd_Mo_nodeOf_78 kc_12 ki_12 (by decide) km_1540 (zgi_v ev64) ?_
    refine z_if_ne (tgt := 111) X dd_Mo_nodeOf_81 (by decide) (fun q65 => ?_) (fun q65 => ?_)
    · rw [if_neg q65] at h
      refine z_sub [0, 1] rfl ?_
      exact t_Mo_nodeOf_111 X H h
    · rw [if_pos q65] at h
      refine z_aload_n X dd_Mo_nodeOf_84 rfl 0 rfl ?_
      refine z_aload_n X dd_Mo_nodeOf_85 rfl 0 rfl ?_
      obtain ⟨v66, ev66, h⟩ := zb h
      refine z_get (j := 16) X dd_Mo_nodeOf_86 kc_12 ki_12 (by decide) km_1537 (zgr_v ev66) ?_
      refine z_aload_n X dd_Mo_nodeOf_89 rfl 0 rfl ?_
      obtain ⟨v67, ev67, h⟩ := zb h
      refine z_get (j := 18) X dd_Mo_nodeOf_90 kc_12 ki_12 (by decide) km_1539 (zgi_v ev67) ?_
      obtain ⟨v68, ev68, h⟩ := zb h
      refine z_iaload X dd_Mo_nodeOf_93 rfl ev68 ?_
      obtain ⟨w70, ew70, h⟩ := zb h
      obtain ⟨q69, eq69, h⟩ := zb h
      refine z_callVi X [.int v68] rfl dd_Mo_nodeOf_94 (c_Mo_oneMore l eq69) (cwV 1 X.1.2.2.2.2 (zg_V km_1944 km_1946 km_78 km_138 km_1947) rfl rfl rfl (by decide +kernel) ⟨Nat.le_of_ble_eq_true rfl, Nat.le_of_ble_eq_true rfl⟩) (zob_s ew70) kc_12 rfl (Nat.le_of_ble_eq_true rfl) ⟨Nat.le_of_ble_eq_true rfl, Nat.le_of_ble_eq_true rfl⟩ ?_
      refine z_if_eq (tgt := 111) X dd_Mo_nodeOf_97 (by decide) (fun q71 => ?_) (fun q71 => ?_)
      · rw [if_pos q71] at h
        refine z_sub [0, 1] rfl ?_
        exact t_Mo_nodeOf_111 X H h
      · rw [if_neg q71] at h
        refine z_aload_n X dd_Mo_nodeOf_100 rfl 0 rfl ?_
        obtain ⟨w73, ew73, h⟩ := zb h
        obtain ⟨q72, eq72, h⟩ := zb h
        refine z_callVi X [] rfl dd_Mo_nodeOf_101 (c_Mo_newSlot l eq72) (cwV 0 X.1.2.2.2.2 (zg_V km_1948 km_1950 km_79 km_138 km_1951) rfl rfl rfl (by decide +kernel) ⟨Nat.le_of_ble_eq_true rfl, Nat.le_of_ble_eq_true rfl⟩) (zob_s ew73) kc_12 rfl (Nat.le_of_ble_eq_true rfl) ⟨Nat.le_of_ble_eq_true rfl, Nat.le_of_ble_eq_true rfl⟩ ?_
        refine z_istore_n (lv' := [(2, .int q72.1), (0, .ref x0), (3, .int x3)]) X dd_Mo_nodeOf_104 rfl (by decide) rfl ?_
        refine z_aload_n X dd_Mo_nodeOf_105 rfl 1 rfl ?_
        refine z_iload_n X dd_Mo_nodeOf_106 rfl 2 rfl ?_
        refine z_iload_n X dd_Mo_nodeOf_107 rfl 0 rfl ?_
        obtain ⟨w75, ew75, h⟩ := zb h
        obtain ⟨q74, eq74, h⟩ := zb h
        refine z_callVv X [.int x3, .int q72.1] rfl dd_Mo_nodeOf_108 (c_Mo_learn l eq74) (cwV 2 X.1.2.2.2.2 (zg_V km_1952 km_1954 km_80 km_138 km_1955) rfl rfl rfl (by decide +kernel) ⟨Nat.le_of_ble_eq_true rfl, Nat.le_of_ble_eq_true rfl⟩) (zob_s ew75) kc_12 rfl (Nat.le_of_ble_eq_true rfl) ⟨Nat.le_of_ble_eq_true rfl, Nat.le_of_ble_eq_true rfl⟩ ?_
        refine z_sub [1, 0] rfl ?_
        exact t_Mo_nodeOf_111 X H h
set_option maxRecDepth 100000 in
set_option maxHeartbeats 4000000 in
theorem c_Mo_nodeOf (l : Launch) {nf : Nat} {a0 : Nat} {c : Zc} {res : Int32 × Zc} (h : f_Mo_nodeOf nf a0 c = some res) : zM l yy_Mo_nodeOf ww_Mo_nodeOf 5 104 0 0 [.ref a0] c (fun D cid B => zQi D cid B res.1 res.2 c.length 0) := by
  refine z_met (cc := bb_Mo_nodeOf) (maxL := 4) (ret := (some (.int))) (by decide +kernel) rfl (Nat.le_of_ble_eq_true rfl) ?_
  intro p e s m args below meth cd D cid B X h1 h2 h3 h4
  have X : zX p s m args cd D cid B bb_Mo_nodeOf 4 rr_Mo zT := X
  have H : zH s meth B c.length (some (.int)) "nodeOf" := ⟨h1, h2, h4, h3⟩
  unfold f_Mo_nodeOf at h
  show Zz p l e (zRm 5 104 0 0) s m args below meth cd _ D cid B 4 0 0 c 0 [(0, .ref a0)] []
  refine z_aload_n X dd_Mo_nodeOf_0 rfl 0 rfl ?_
  obtain ⟨v1, ev1, h⟩ := zb h
  refine z_get (j := 16) X dd_Mo_nodeOf_1 kc_12 ki_12 (by decide) km_1537 (zgr_v ev1) ?_
  refine z_aload_n X dd_Mo_nodeOf_4 rfl 0 rfl ?_
  obtain ⟨v2, ev2, h⟩ := zb h
  refine z_get (j := 18) X dd_Mo_nodeOf_5 kc_12 ki_12 (by decide) km_1539 (zgi_v ev2) ?_
  obtain ⟨v3, ev3, h⟩ := zb h
  refine z_iaload X dd_Mo_nodeOf_8 rfl ev3 ?_
  refine z_istore_n (lv' := [(1, .int v3), (0, .ref a0)]) X dd_Mo_nodeOf_9 rfl (by decide) rfl ?_
  refine z_aload_n X dd_Mo_nodeOf_10 rfl 1 rfl ?_
  refine z_bipush (v := 40) X dd_Mo_nodeOf_11 (by decide) ?_
  obtain ⟨w5, ew5, h⟩ := zb h
  obtain ⟨q4, eq4, h⟩ := zb h
  refine z_callVv X [.int 40] rfl dd_Mo_nodeOf_13 (c_Mo_need l eq4) (cwV 1 X.1.2.2.2.2 (zg_V km_1904 km_1906 km_68 km_138 km_1907) rfl rfl rfl (by decide +kernel) ⟨Nat.le_of_ble_eq_true rfl, Nat.le_of_ble_eq_true rfl⟩) (zob_s ew5) kc_12 rfl (Nat.le_of_ble_eq_true rfl) ⟨Nat.le_of_ble_eq_true rfl, Nat.le_of_ble_eq_true rfl⟩ ?_
  refine z_iconst (v := (-1)) X dd_Mo_nodeOf_16 (by decide) ?_
  refine z_istore_n (lv' := [(2, .int (-1)), (1, .int v3), (0, .ref a0)]) X dd_Mo_nodeOf_17 rfl (by decide) rfl ?_
  refine z_aload_n X dd_Mo_nodeOf_18 rfl 2 rfl ?_
  obtain ⟨v6, ev6, h⟩ := zb h
  refine z_get (j := 19) X dd_Mo_nodeOf_19 kc_12 ki_12 (by decide) km_1540 (zgi_v ev6) ?_
  refine z_if_ne (tgt := 118) X dd_Mo_nodeOf_22 (by decide) (fun q7 => ?_) (fun q7 => ?_)
  · rw [if_neg q7] at h
    refine z_sub [2, 1, 0] rfl ?_
    exact t_Mo_nodeOf_118 X H h
  · rw [if_pos q7] at h
    refine z_aload_n X dd_Mo_nodeOf_25 rfl 2 rfl ?_
    obtain ⟨w51, ew51, h⟩ := zb h
    obtain ⟨q50, eq50, h⟩ := zb h
    refine z_callVi X [] rfl dd_Mo_nodeOf_26 (c_Mo_kind l eq50) (cwV 0 X.1.2.2.2.2 (zg_V km_1912 km_1914 km_70 km_138 km_1915) rfl rfl rfl (by decide +kernel) ⟨Nat.le_of_ble_eq_true rfl, Nat.le_of_ble_eq_true rfl⟩) (zob_s ew51) kc_12 rfl (Nat.le_of_ble_eq_true rfl) ⟨Nat.le_of_ble_eq_true rfl, Nat.le_of_ble_eq_true rfl⟩ ?_
    refine z_iconst (v := 2) X dd_Mo_nodeOf_29 (by decide) ?_
    refine z_icmp_ne (tgt := 118) X dd_Mo_nodeOf_30 (by decide) (fun q52 => ?_) (fun q52 => ?_)
    · rw [if_neg q52] at h
      refine z_sub [2, 1, 0] rfl ?_
      exact t_Mo_nodeOf_118 X H h
    · rw [if_pos q52] at h
      refine z_aload_n X dd_Mo_nodeOf_33 rfl 2 rfl ?_
      obtain ⟨v53, ev53, h⟩ := zb h
      refine z_get (j := 15) X dd_Mo_nodeOf_34 kc_12 ki_12 (by decide) km_1536 (zgr_v ev53) ?_
      refine z_aload_n X dd_Mo_nodeOf_37 rfl 2 rfl ?_
      obtain ⟨v54, ev54, h⟩ := zb h
      refine z_get (j := 18) X dd_Mo_nodeOf_38 kc_12 ki_12 (by decide) km_1539 (zgi_v ev54) ?_
      obtain ⟨v55, ev55, h⟩ := zb h
      refine z_iaload X dd_Mo_nodeOf_41 rfl ev55 ?_
      refine z_istore_n (lv' := [(3, .int v55), (2, .int (-1)), (1, .int v3), (0, .ref a0)]) X dd_Mo_nodeOf_42 rfl (by decide) rfl ?_
      refine z_aload_n X dd_Mo_nodeOf_43 rfl 3 rfl ?_
      obtain ⟨w57, ew57, h⟩ := zb h
      obtain ⟨q56, eq56, h⟩ := zb h
      refine z_callVv X [] rfl dd_Mo_nodeOf_44 (c_Mo_stands l eq56) (cwV 0 X.1.2.2.2.2 (zg_V km_1924 km_1926 km_73 km_138 km_1927) rfl rfl rfl (by decide +kernel) ⟨Nat.le_of_ble_eq_true rfl, Nat.le_of_ble_eq_true rfl⟩) (zob_s ew57) kc_12 rfl (Nat.le_of_ble_eq_true rfl) ⟨Nat.le_of_ble_eq_true rfl, Nat.le_of_ble_eq_true rfl⟩ ?_
      refine z_aload_n X dd_Mo_nodeOf_47 rfl 3 rfl ?_
      refine z_iload_n X dd_Mo_nodeOf_48 rfl 0 rfl ?_
      obtain ⟨w59, ew59, h⟩ := zb h
      obtain ⟨q58, eq58, h⟩ := zb h
      refine z_callVi X [.int v55] rfl dd_Mo_nodeOf_49 (c_Mo_meaning l eq58) (cwV 1 X.1.2.2.2.2 (zg_V km_1940 km_1942 km_77 km_138 km_1943) rfl rfl rfl (by decide +kernel) ⟨Nat.le_of_ble_eq_true rfl, Nat.le_of_ble_eq_true rfl⟩) (zob_s ew59) kc_12 rfl (Nat.le_of_ble_eq_true rfl) ⟨Nat.le_of_ble_eq_true rfl, Nat.le_of_ble_eq_true rfl⟩ ?_
      refine z_istore_n (lv' := [(2, .int q58.1), (3, .int v55), (1, .int v3), (0, .ref a0)]) X dd_Mo_nodeOf_52 rfl (by decide) rfl ?_
      refine z_iload_n X dd_Mo_nodeOf_53 rfl 0 rfl ?_
      refine z_bipush (v := 100) X dd_Mo_nodeOf_54 (by decide) ?_
      refine z_icmp_lt (tgt := 73) X dd_Mo_nodeOf_56 (by decide) (fun q60 => ?_) (fun q60 => ?_)
      · rw [if_pos q60] at h
        refine z_sub [3, 0, 1] rfl ?_
        exact t_Mo_nodeOf_73 X H h
      · rw [if_neg q60] at h
        refine z_aload_n X dd_Mo_nodeOf_59 rfl 3 rfl ?_
        refine z_iconst (v := 4) X dd_Mo_nodeOf_60 (by decide) ?_
        refine z_aload_n X dd_Mo_nodeOf_61 rfl 3 rfl ?_
        obtain ⟨v76, ev76, h⟩ := zb h
        refine z_get (j := 16) X dd_Mo_nodeOf_62 kc_12 ki_12 (by decide) km_1537 (zgr_v ev76) ?_
        refine z_aload_n X dd_Mo_nodeOf_65 rfl 3 rfl ?_
        obtain ⟨v77, ev77, h⟩ := zb h
        refine z_get (j := 18) X dd_Mo_nodeOf_66 kc_12 ki_12 (by decide) km_1539 (zgi_v ev77) ?_
        obtain ⟨v78, ev78, h⟩ := zb h
        refine z_iaload X dd_Mo_nodeOf_69 rfl ev78 ?_
        obtain ⟨w80, ew80, h⟩ := zb h
        obtain ⟨q79, eq79, h⟩ := zb h
        refine z_callVv X [.int 4, .int v78] rfl dd_Mo_nodeOf_70 (c_Mo_refuse l eq79) (cwV 2 X.1.2.2.2.2 (zg_V km_1916 km_1918 km_71 km_138 km_1919) rfl rfl rfl (by decide +kernel) ⟨Nat.le_of_ble_eq_true rfl, Nat.le_of_ble_eq_true rfl⟩) (zob_s ew80) kc_12 rfl (Nat.le_of_ble_eq_true rfl) ⟨Nat.le_of_ble_eq_true rfl, Nat.le_of_ble_eq_true rfl⟩ ?_
        refine z_sub [3, 0, 1] rfl ?_
        exact t_Mo_nodeOf_73 X H h
end ZzM
