section ZzM
variable {p : Program} {l : Launch} {e : Env} {s : State} {m : MethodId} {args : Array Value} {below : List Frame} {meth : Method} {cd : Code} {Q : State → Prop} {D : va_G} {cid : Nat → ClassId} {B n0 : Nat}
theorem dd_PQ_init_0 : decode bb_PQ_init 0 = .ok (.aload_n 0, 1) := by decide +kernel
theorem dd_PQ_init_1 : decode bb_PQ_init 1 = .ok (.invokespecial 3, 3) := by decide +kernel
theorem dd_PQ_init_4 : decode bb_PQ_init 4 = .ok (.aload_n 0, 1) := by decide +kernel
theorem dd_PQ_init_5 : decode bb_PQ_init 5 = .ok (.sipush 1500, 3) := by decide +kernel
theorem dd_PQ_init_8 : decode bb_PQ_init 8 = .ok (.newarray .byte, 2) := by decide +kernel
theorem dd_PQ_init_10 : decode bb_PQ_init 10 = .ok (.putfield 9, 3) := by decide +kernel
theorem dd_PQ_init_13 : decode bb_PQ_init 13 = .ok (.aload_n 0, 1) := by decide +kernel
theorem dd_PQ_init_14 : decode bb_PQ_init 14 = .ok (.new 13, 3) := by decide +kernel
theorem dd_PQ_init_17 : decode bb_PQ_init 17 = .ok (.dup, 1) := by decide +kernel
theorem dd_PQ_init_18 : decode bb_PQ_init 18 = .ok (.invokespecial 15, 3) := by decide +kernel
theorem dd_PQ_init_21 : decode bb_PQ_init 21 = .ok (.putfield 16, 3) := by decide +kernel
theorem dd_PQ_init_24 : decode bb_PQ_init 24 = .ok (.aload_n 0, 1) := by decide +kernel
theorem dd_PQ_init_25 : decode bb_PQ_init 25 = .ok (.new 20, 3) := by decide +kernel
theorem dd_PQ_init_28 : decode bb_PQ_init 28 = .ok (.dup, 1) := by decide +kernel
theorem dd_PQ_init_29 : decode bb_PQ_init 29 = .ok (.invokespecial 22, 3) := by decide +kernel
theorem dd_PQ_init_32 : decode bb_PQ_init 32 = .ok (.putfield 23, 3) := by decide +kernel
theorem dd_PQ_init_35 : decode bb_PQ_init 35 = .ok (.aload_n 0, 1) := by decide +kernel
theorem dd_PQ_init_36 : decode bb_PQ_init 36 = .ok (.new 27, 3) := by decide +kernel
theorem dd_PQ_init_39 : decode bb_PQ_init 39 = .ok (.dup, 1) := by decide +kernel
theorem dd_PQ_init_40 : decode bb_PQ_init 40 = .ok (.aload_n 0, 1) := by decide +kernel
theorem dd_PQ_init_41 : decode bb_PQ_init 41 = .ok (.getfield 23, 3) := by decide +kernel
theorem dd_PQ_init_44 : decode bb_PQ_init 44 = .ok (.invokespecial 29, 3) := by decide +kernel
theorem dd_PQ_init_47 : decode bb_PQ_init 47 = .ok (.putfield 32, 3) := by decide +kernel
theorem dd_PQ_init_50 : decode bb_PQ_init 50 = .ok (.aload_n 0, 1) := by decide +kernel
theorem dd_PQ_init_51 : decode bb_PQ_init 51 = .ok (.new 36, 3) := by decide +kernel
theorem dd_PQ_init_54 : decode bb_PQ_init 54 = .ok (.dup, 1) := by decide +kernel
theorem dd_PQ_init_55 : decode bb_PQ_init 55 = .ok (.aload_n 0, 1) := by decide +kernel
theorem dd_PQ_init_56 : decode bb_PQ_init 56 = .ok (.getfield 16, 3) := by decide +kernel
theorem dd_PQ_init_59 : decode bb_PQ_init 59 = .ok (.aload_n 0, 1) := by decide +kernel
theorem dd_PQ_init_60 : decode bb_PQ_init 60 = .ok (.getfield 23, 3) := by decide +kernel
theorem dd_PQ_init_63 : decode bb_PQ_init 63 = .ok (.invokespecial 38, 3) := by decide +kernel
theorem dd_PQ_init_66 : decode bb_PQ_init 66 = .ok (.putfield 41, 3) := by decide +kernel
theorem dd_PQ_init_69 : decode bb_PQ_init 69 = .ok (.aload_n 0, 1) := by decide +kernel
theorem dd_PQ_init_70 : decode bb_PQ_init 70 = .ok (.new 45, 3) := by decide +kernel
theorem dd_PQ_init_73 : decode bb_PQ_init 73 = .ok (.dup, 1) := by decide +kernel
theorem dd_PQ_init_74 : decode bb_PQ_init 74 = .ok (.aload_n 0, 1) := by decide +kernel
theorem dd_PQ_init_75 : decode bb_PQ_init 75 = .ok (.getfield 16, 3) := by decide +kernel
theorem dd_PQ_init_78 : decode bb_PQ_init 78 = .ok (.aload_n 0, 1) := by decide +kernel
theorem dd_PQ_init_79 : decode bb_PQ_init 79 = .ok (.getfield 41, 3) := by decide +kernel
theorem dd_PQ_init_82 : decode bb_PQ_init 82 = .ok (.invokespecial 47, 3) := by decide +kernel
theorem dd_PQ_init_85 : decode bb_PQ_init 85 = .ok (.putfield 50, 3) := by decide +kernel
theorem dd_PQ_init_88 : decode bb_PQ_init 88 = .ok (.aload_n 0, 1) := by decide +kernel
theorem dd_PQ_init_89 : decode bb_PQ_init 89 = .ok (.new 54, 3) := by decide +kernel
theorem dd_PQ_init_92 : decode bb_PQ_init 92 = .ok (.dup, 1) := by decide +kernel
theorem dd_PQ_init_93 : decode bb_PQ_init 93 = .ok (.aload_n 0, 1) := by decide +kernel
theorem dd_PQ_init_94 : decode bb_PQ_init 94 = .ok (.getfield 41, 3) := by decide +kernel
theorem dd_PQ_init_97 : decode bb_PQ_init 97 = .ok (.invokespecial 56, 3) := by decide +kernel
theorem dd_PQ_init_100 : decode bb_PQ_init 100 = .ok (.putfield 59, 3) := by decide +kernel
theorem dd_PQ_init_103 : decode bb_PQ_init 103 = .ok (.aload_n 0, 1) := by decide +kernel
theorem dd_PQ_init_104 : decode bb_PQ_init 104 = .ok (.iconst 4, 1) := by decide +kernel
theorem dd_PQ_init_105 : decode bb_PQ_init 105 = .ok (.anewarray 20, 3) := by decide +kernel
theorem dd_PQ_init_108 : decode bb_PQ_init 108 = .ok (.putfield 63, 3) := by decide +kernel
theorem dd_PQ_init_111 : decode bb_PQ_init 111 = .ok (.aload_n 0, 1) := by decide +kernel
theorem dd_PQ_init_112 : decode bb_PQ_init 112 = .ok (.iconst 4, 1) := by decide +kernel
theorem dd_PQ_init_113 : decode bb_PQ_init 113 = .ok (.anewarray 67, 3) := by decide +kernel
theorem dd_PQ_init_116 : decode bb_PQ_init 116 = .ok (.putfield 69, 3) := by decide +kernel
theorem dd_PQ_init_119 : decode bb_PQ_init 119 = .ok (.aload_n 0, 1) := by decide +kernel
theorem dd_PQ_init_120 : decode bb_PQ_init 120 = .ok (.iconst 4, 1) := by decide +kernel
theorem dd_PQ_init_121 : decode bb_PQ_init 121 = .ok (.newarray .int, 2) := by decide +kernel
theorem dd_PQ_init_123 : decode bb_PQ_init 123 = .ok (.putfield 73, 3) := by decide +kernel
theorem dd_PQ_init_126 : decode bb_PQ_init 126 = .ok (.aload_n 0, 1) := by decide +kernel
theorem dd_PQ_init_127 : decode bb_PQ_init 127 = .ok (.iconst 0, 1) := by decide +kernel
theorem dd_PQ_init_128 : decode bb_PQ_init 128 = .ok (.putfield 77, 3) := by decide +kernel
theorem dd_PQ_init_131 : decode bb_PQ_init 131 = .ok (.iconst 0, 1) := by decide +kernel
theorem dd_PQ_init_132 : decode bb_PQ_init 132 = .ok (.istore_n 1, 1) := by decide +kernel
theorem dd_PQ_init_133 : decode bb_PQ_init 133 = .ok (.iload_n 1, 1) := by decide +kernel
theorem dd_PQ_init_134 : decode bb_PQ_init 134 = .ok (.iconst 4, 1) := by decide +kernel
theorem dd_PQ_init_135 : decode bb_PQ_init 135 = .ok (.if_icmp .ge 42, 3) := by decide +kernel
theorem dd_PQ_init_138 : decode bb_PQ_init 138 = .ok (.aload_n 0, 1) := by decide +kernel
theorem dd_PQ_init_139 : decode bb_PQ_init 139 = .ok (.getfield 63, 3) := by decide +kernel
theorem dd_PQ_init_142 : decode bb_PQ_init 142 = .ok (.iload_n 1, 1) := by decide +kernel
theorem dd_PQ_init_143 : decode bb_PQ_init 143 = .ok (.new 20, 3) := by decide +kernel
theorem dd_PQ_init_146 : decode bb_PQ_init 146 = .ok (.dup, 1) := by decide +kernel
theorem dd_PQ_init_147 : decode bb_PQ_init 147 = .ok (.invokespecial 22, 3) := by decide +kernel
theorem dd_PQ_init_150 : decode bb_PQ_init 150 = .ok (.aastore, 1) := by decide +kernel
theorem dd_PQ_init_151 : decode bb_PQ_init 151 = .ok (.aload_n 0, 1) := by decide +kernel
theorem dd_PQ_init_152 : decode bb_PQ_init 152 = .ok (.getfield 69, 3) := by decide +kernel
theorem dd_PQ_init_155 : decode bb_PQ_init 155 = .ok (.iload_n 1, 1) := by decide +kernel
theorem dd_PQ_init_156 : decode bb_PQ_init 156 = .ok (.new 67, 3) := by decide +kernel
theorem dd_PQ_init_159 : decode bb_PQ_init 159 = .ok (.dup, 1) := by decide +kernel
theorem dd_PQ_init_160 : decode bb_PQ_init 160 = .ok (.invokespecial 81, 3) := by decide +kernel
theorem dd_PQ_init_163 : decode bb_PQ_init 163 = .ok (.aastore, 1) := by decide +kernel
theorem dd_PQ_init_164 : decode bb_PQ_init 164 = .ok (.aload_n 0, 1) := by decide +kernel
theorem dd_PQ_init_165 : decode bb_PQ_init 165 = .ok (.getfield 73, 3) := by decide +kernel
theorem dd_PQ_init_168 : decode bb_PQ_init 168 = .ok (.iload_n 1, 1) := by decide +kernel
theorem dd_PQ_init_169 : decode bb_PQ_init 169 = .ok (.iconst (-1), 1) := by decide +kernel
theorem dd_PQ_init_170 : decode bb_PQ_init 170 = .ok (.iastore, 1) := by decide +kernel
theorem dd_PQ_init_171 : decode bb_PQ_init 171 = .ok (.iinc 1 1, 3) := by decide +kernel
theorem dd_PQ_init_174 : decode bb_PQ_init 174 = .ok (.goto (-41), 3) := by decide +kernel
theorem dd_PQ_init_177 : decode bb_PQ_init 177 = .ok (.return_, 1) := by decide +kernel
def g_PQ_init_133 (nf mc ms : Nat) (x0 : Nat) (x1 : Int32) (kk : Nat) (nn : Nat) (c : Zc) : Option ((Nat × Int32 × Nat × Nat × Zc) ⊕ (Nat × Nat × Zc)) :=
  if 4 ≤ x1 then (some (.inr (kk, nn, c))) else ((zgr c x0 11 7).bind fun v51 => (zlim (kk + 1) (nn + 21) mc ms).bind fun u53 => (znw c (.inr (2, [.int 0, .int 0, .int 0, .int 0, .null, .int 0, .null, .null, .int 0, .null, .null, .null, .int 0, .null, .int 0, .int 0, .null, .null, .int 0, .int 0, .int 0]))).bind fun c52 => (zlim ((kk + 1) + 89) ((nn + 21) + 4198) mc ms).bind fun u55 => (f_Text_init nf 89 4198 (List.length c) c52).bind fun q54 => (zsr q54 v51 4 2 x1 (List.length c)).bind fun c56 => (zgr c56 x0 11 8).bind fun v57 => (zlim (((kk + 1) + 89) + 1) (((nn + 21) + 4198) + 5) mc ms).bind fun u59 => (znw c56 (.inr (9, [.int 0, .int 0, .null, .null, .null]))).bind fun c58 => (zlim ((((kk + 1) + 89) + 1) + 3) ((((nn + 21) + 4198) + 5) + 64) mc ms).bind fun u61 => (f_Rows_init nf 3 64 (List.length c56) c58).bind fun q60 => (zsr q60 v57 5 9 x1 (List.length c56)).bind fun c62 => (zgr c62 x0 11 9).bind fun v63 => (zsi c62 v63 0 x1 (-1)).bind fun c64 => some (.inl (x0, (x1 + 1), ((((kk + 1) + 89) + 1) + 3), ((((nn + 21) + 4198) + 5) + 64), c64)))
def f_PQ_init_133 (nf mc ms : Nat) (x0 : Nat) (x1 : Int32) (kk : Nat) (nn : Nat) (c : Zc) : Option (Zc) :=
  (zlp (fun a => g_PQ_init_133 nf mc ms a.1 a.2.1 a.2.2.1 a.2.2.2.1 a.2.2.2.2) nf (x0, x1, kk, nn, c)).bind fun b => (zend b.1 b.2.1 mc ms).bind fun u65 => some b.2.2
def f_PQ_init (nf mc ms : Nat) (a0 : Nat) (c : Zc) : Option (Zc) :=
  (zlim (0 + 1) (0 + 1500) mc ms).bind fun u2 => (znw c (.inl (1, 1500, .inl (fun _ => 0)))).bind fun c1 => (zpv c1 a0 11 0 (.ref (List.length c))).bind fun c3 => (zlim ((0 + 1) + 1) ((0 + 1500) + 10) mc ms).bind fun u5 => (znw c3 (.inr (0, [.null, .null, .null, .null, .null, .null, .null, .int 0, .int 0, .int 0]))).bind fun c4 => (zlim (((0 + 1) + 1) + 7) (((0 + 1500) + 10) + 896) mc ms).bind fun u7 => (f_Graph_init nf 7 896 (List.length c3) c4).bind fun q6 => (zpv q6 a0 11 1 (.ref (List.length c3))).bind fun c8 => (zlim ((((0 + 1) + 1) + 7) + 1) ((((0 + 1500) + 10) + 896) + 21) mc ms).bind fun u10 => (znw c8 (.inr (2, [.int 0, .int 0, .int 0, .int 0, .null, .int 0, .null, .null, .int 0, .null, .null, .null, .int 0, .null, .int 0, .int 0, .null, .null, .int 0, .int 0, .int 0]))).bind fun c9 => (zlim (((((0 + 1) + 1) + 7) + 1) + 89) (((((0 + 1500) + 10) + 896) + 21) + 4198) mc ms).bind fun u12 => (f_Text_init nf 89 4198 (List.length c8) c9).bind fun q11 => (zpv q11 a0 11 2 (.ref (List.length c8))).bind fun c13 => (zlim ((((((0 + 1) + 1) + 7) + 1) + 89) + 1) ((((((0 + 1500) + 10) + 896) + 21) + 4198) + 20) mc ms).bind fun u15 => (znw c13 (.inr (5, [.int 0, .null, .null, .null, .null, .null, .int 0, .int 0, .int 0, .int 0, .int 0, .int 0, .int 0, .int 0, .int 0, .int 0, .int 0, .int 0, .int 0, .int 0]))).bind fun c14 => (zgr c14 a0 11 2).bind fun v16 => (zlim (((((((0 + 1) + 1) + 7) + 1) + 89) + 1) + 10) (((((((0 + 1500) + 10) + 896) + 21) + 4198) + 20) + 926) mc ms).bind fun u18 => (f_Reader_init nf 10 926 (List.length c13) v16 c14).bind fun q17 => (zpv q17 a0 11 3 (.ref (List.length c13))).bind fun c19 => (zlim ((((((((0 + 1) + 1) + 7) + 1) + 89) + 1) + 10) + 1) ((((((((0 + 1500) + 10) + 896) + 21) + 4198) + 20) + 926) + 9) mc ms).bind fun u21 => (znw c19 (.inr (7, [.null, .null, .null, .null, .null, .null, .null, .null, .null]))).bind fun c20 => (zgr c20 a0 11 1).bind fun v22 => (zgr c20 a0 11 2).bind fun v23 => (zlim (((((((((0 + 1) + 1) + 7) + 1) + 89) + 1) + 10) + 1) + 13) (((((((((0 + 1500) + 10) + 896) + 21) + 4198) + 20) + 926) + 9) + 208) mc ms).bind fun u25 => (f_Finder_init nf 13 208 (List.length c19) v22 v23 c20).bind fun q24 => (zpv q24 a0 11 4 (.ref (List.length c19))).bind fun c26 => (zlim ((((((((((0 + 1) + 1) + 7) + 1) + 89) + 1) + 10) + 1) + 13) + 1) ((((((((((0 + 1500) + 10) + 896) + 21) + 4198) + 20) + 926) + 9) + 208) + 6) mc ms).bind fun u28 => (znw c26 (.inr (8, [.null, .null, .null, .null, .int 0, .int 0]))).bind fun c27 => (zgr c27 a0 11 1).bind fun v29 => (zgr c27 a0 11 4).bind fun v30 => (zlim (((((((((((0 + 1) + 1) + 7) + 1) + 89) + 1) + 10) + 1) + 13) + 1) + 362) (((((((((((0 + 1500) + 10) + 896) + 21) + 4198) + 20) + 926) + 9) + 208) + 6) + 16944) mc ms).bind fun u32 => (f_RuleBook_init nf 362 16944 (List.length c26) v29 v30 c27).bind fun q31 => (zpv q31 a0 11 5 (.ref (List.length c26))).bind fun c33 => (zlim ((((((((((((0 + 1) + 1) + 7) + 1) + 89) + 1) + 10) + 1) + 13) + 1) + 362) + 1) ((((((((((((0 + 1500) + 10) + 896) + 21) + 4198) + 20) + 926) + 9) + 208) + 6) + 16944) + 4) mc ms).bind fun u35 => (znw c33 (.inr (10, [.null, .null, .null, .null]))).bind fun c34 => (zgr c34 a0 11 4).bind fun v36 => (zlim (((((((((((((0 + 1) + 1) + 7) + 1) + 89) + 1) + 10) + 1) + 13) + 1) + 362) + 1) + 9) (((((((((((((0 + 1500) + 10) + 896) + 21) + 4198) + 20) + 926) + 9) + 208) + 6) + 16944) + 4) + 146) mc ms).bind fun u38 => (f_Collector_init nf 9 146 (List.length c33) v36 c34).bind fun q37 => (zpv q37 a0 11 6 (.ref (List.length c33))).bind fun c39 => (zlim ((((((((((((((0 + 1) + 1) + 7) + 1) + 89) + 1) + 10) + 1) + 13) + 1) + 362) + 1) + 9) + 1) ((((((((((((((0 + 1500) + 10) + 896) + 21) + 4198) + 20) + 926) + 9) + 208) + 6) + 16944) + 4) + 146) + 4) mc ms).bind fun u41 => (znw c39 (.inl (4, 4, .inr (.inr (.inr (.inr (fun _ => none))))))).bind fun c40 => (zpv c40 a0 11 7 (.ref (List.length c39))).bind fun c42 => (zlim (((((((((((((((0 + 1) + 1) + 7) + 1) + 89) + 1) + 10) + 1) + 13) + 1) + 362) + 1) + 9) + 1) + 1) (((((((((((((((0 + 1500) + 10) + 896) + 21) + 4198) + 20) + 926) + 9) + 208) + 6) + 16944) + 4) + 146) + 4) + 4) mc ms).bind fun u44 => (znw c42 (.inl (5, 4, .inr (.inr (.inr (.inr (fun _ => none))))))).bind fun c43 => (zpv c43 a0 11 8 (.ref (List.length c42))).bind fun c45 => (zlim ((((((((((((((((0 + 1) + 1) + 7) + 1) + 89) + 1) + 10) + 1) + 13) + 1) + 362) + 1) + 9) + 1) + 1) + 1) ((((((((((((((((0 + 1500) + 10) + 896) + 21) + 4198) + 20) + 926) + 9) + 208) + 6) + 16944) + 4) + 146) + 4) + 4) + 4) mc ms).bind fun u47 => (znw c45 (.inl (0, 4, .inl (fun _ => 0)))).bind fun c46 => (zpv c46 a0 11 9 (.ref (List.length c45))).bind fun c48 => (zpv c48 a0 11 10 (.int 0)).bind fun c49 => f_PQ_init_133 nf mc ms a0 0 ((((((((((((((((0 + 1) + 1) + 7) + 1) + 89) + 1) + 10) + 1) + 13) + 1) + 362) + 1) + 9) + 1) + 1) + 1) ((((((((((((((((0 + 1500) + 10) + 896) + 21) + 4198) + 20) + 926) + 9) + 208) + 6) + 16944) + 4) + 146) + 4) + 4) + 4) c49
set_option maxRecDepth 100000 in
set_option maxHeartbeats 4000000 in
theorem u_PQ_init_133  (X : zX p s m args cd D cid B bb_PQ_init 2 rr_PQ zT) (H : zH s meth B n0 none "<init>") {nf mc ms : Nat} {x0 : Nat} {x1 : Int32} {kk : Nat} {nn : Nat} {c : Zc} {r : (Nat × Int32 × Nat × Nat × Zc) ⊕ (Nat × Nat × Zc)} (h : g_PQ_init_133 nf mc ms x0 x1 kk nn c = some r) (k0 : ∀ a, r = .inl a → (fun a : Nat × Int32 × Nat × Nat × Zc => Zz p l e (zRm 4 84 mc ms) s m args below meth cd Q D cid B 2 a.2.2.1 a.2.2.2.1 a.2.2.2.2 133 [(0, .ref a.1), (1, .int a.2.1)] []) a) (k1 : ∀ b, r = .inr b → (fun b : Nat × Nat × Zc => Zz p l e (zRm 4 84 mc ms) s m args below meth cd Q D cid B 2 b.1 b.2.1 b.2.2 177 [] []) b) : Zz p l e (zRm 4 84 mc ms) s m args below meth cd Q D cid B 2 kk nn c 133 [(0, .ref x0), (1, .int x1)] [] := by
  unfold g_PQ_init_133 at h
  refine z_iload_n X dd_PQ_init_133 rfl 1 rfl ?_
  refine z_iconst (v := 4) X dd_PQ_init_134 (by decide) ?_
  refine z_icmp_ge (tgt := 177) X dd_PQ_init_135 (by decide) (fun q50 => ?_) (fun q50 => ?_)
  · rw [if_pos q50] at h
    refine z_sub [] rfl ?_
    obtain rfl := Option.some.inj h
    exact k1 _ rfl
  · rw [if_neg q50] at h
    refine z_aload_n X dd_PQ_init_138 rfl 0 rfl ?_
    obtain ⟨v51, ev51, h⟩ := zb h
    refine z_get (j := 7) X dd_PQ_init_139 kc_11 ki_11 (by decide) km_696 (zgr_v ev51) ?_
    refine z_iload_n X dd_PQ_init_142 rfl 1 rfl ?_
    obtain ⟨u53, eu53, h⟩ := zb h
    obtain ⟨c52, ec52, h⟩ := zb h
    refine z_newC X dd_PQ_init_143 kc_2 ki_2 tt_Text tk_Text km_207 km_208 km_128 (by decide +kernel) (fun _ _ => rfl) (zlim_s eu53).1 (zlim_s eu53).2 ec52 ?_
    refine z_dup X dd_PQ_init_146 rfl ?_
    obtain ⟨u55, eu55, h⟩ := zb h
    obtain ⟨q54, eq54, h⟩ := zb h
    refine z_callIv (ret := none) X [] rfl dd_PQ_init_147 (c_Text_init l eq54) (cwI 0 X.1.2.2.2.2 (zg_I km_211) rfl rfl rfl (X.1.2.2.2.2 _ km_128) (X.1.2.2.2.2 _ km_209) (X.1.2.2.2.2 _ km_210) rfl (by decide +kernel) ⟨Nat.le_of_ble_eq_true rfl, Nat.le_of_ble_eq_true rfl⟩) rfl (Nat.le_of_ble_eq_true rfl) (zlim_s eu55) ?_
    obtain ⟨c56, ec56, h⟩ := zb h
    refine z_aastore X dd_PQ_init_150 kc_2 rfl ec56 ?_
    refine z_aload_n X dd_PQ_init_151 rfl 0 rfl ?_
    obtain ⟨v57, ev57, h⟩ := zb h
    refine z_get (j := 8) X dd_PQ_init_152 kc_11 ki_11 (by decide) km_697 (zgr_v ev57) ?_
    refine z_iload_n X dd_PQ_init_155 rfl 1 rfl ?_
    obtain ⟨u59, eu59, h⟩ := zb h
    obtain ⟨c58, ec58, h⟩ := zb h
    refine z_newC X dd_PQ_init_156 kc_9 ki_9 tt_Rows tk_Rows km_686 km_649 km_137 (by decide +kernel) (fun _ _ => rfl) (zlim_s eu59).1 (zlim_s eu59).2 ec58 ?_
    refine z_dup X dd_PQ_init_159 rfl ?_
    obtain ⟨u61, eu61, h⟩ := zb h
    obtain ⟨q60, eq60, h⟩ := zb h
    refine z_callIv (ret := none) X [] rfl dd_PQ_init_160 (c_Rows_init l eq60) (cwI 0 X.1.2.2.2.2 (zg_I km_652) rfl rfl rfl (X.1.2.2.2.2 _ km_137) (X.1.2.2.2.2 _ km_688) (X.1.2.2.2.2 _ km_651) rfl (by decide +kernel) ⟨Nat.le_of_ble_eq_true rfl, Nat.le_of_ble_eq_true rfl⟩) rfl (Nat.le_of_ble_eq_true rfl) (zlim_s eu61) ?_
    obtain ⟨c62, ec62, h⟩ := zb h
    refine z_aastore X dd_PQ_init_163 kc_9 rfl ec62 ?_
    refine z_aload_n X dd_PQ_init_164 rfl 0 rfl ?_
    obtain ⟨v63, ev63, h⟩ := zb h
    refine z_get (j := 9) X dd_PQ_init_165 kc_11 ki_11 (by decide) km_698 (zgr_v ev63) ?_
    refine z_iload_n X dd_PQ_init_168 rfl 1 rfl ?_
    refine z_iconst (v := (-1)) X dd_PQ_init_169 (by decide) ?_
    obtain ⟨c64, ec64, h⟩ := zb h
    refine z_iastore X dd_PQ_init_170 rfl ec64 ?_
    refine z_iinc (v := (x1 + 1)) (lv' := [(1, .int (x1 + 1)), (0, .ref x0)]) X dd_PQ_init_171 1 rfl rfl (by decide) rfl ?_
    refine z_goto (tgt := 133) X dd_PQ_init_174 (by decide) ?_
    refine z_sub [1, 0] rfl ?_
    obtain rfl := Option.some.inj h
    exact k0 _ rfl
set_option maxRecDepth 100000 in
set_option maxHeartbeats 4000000 in
theorem t_PQ_init_133  (X : zX p s m args cd D cid B bb_PQ_init 2 rr_PQ zT) (H : zH s meth B n0 none "<init>") {nf mc ms : Nat} {x0 : Nat} {x1 : Int32} {kk : Nat} {nn : Nat} {c : Zc} {res : Zc} (h : f_PQ_init_133 nf mc ms x0 x1 kk nn c = some res) : Zz p l e (zRm 4 84 mc ms) s m args below meth cd (MQ below (zQv D cid B res n0 mc) args s mc ms (fun q => B ≤ q)) D cid B 2 kk nn c 133 [(0, .ref x0), (1, .int x1)] [] := by
  unfold f_PQ_init_133 at h
  obtain ⟨b, eb, h⟩ := zb h
  refine zlp_ok (P := fun a : Nat × Int32 × Nat × Nat × Zc => Zz p l e (zRm 4 84 mc ms) s m args below meth cd _ D cid B 2 a.2.2.1 a.2.2.2.1 a.2.2.2.2 133 [(0, .ref a.1), (1, .int a.2.1)] []) (G := fun b : Nat × Nat × Zc => Zz p l e (zRm 4 84 mc ms) s m args below meth cd _ D cid B 2 b.1 b.2.1 b.2.2 177 [] []) (fun a r ha k0 k1 => u_PQ_init_133 X H ha k0 k1) nf _ b eb ?_
  obtain ⟨u65, eu65, h⟩ := zb h
  refine z_wid (zend_s eu65).1 (zend_s eu65).2 ?_
  obtain rfl := Option.some.inj h
  exact z_vret X H.1 H.2.1 H.2.2.1 dd_PQ_init_177
set_option maxRecDepth 100000 in
set_option maxHeartbeats 4000000 in
theorem c_PQ_init (l : Launch) {nf mc ms : Nat} {a0 : Nat} {c : Zc} {res : Zc} (h : f_PQ_init nf mc ms a0 c = some res) : zM l yy_PQ_init ww_PQ_init 4 84 mc ms [.ref a0] c (fun D cid B => zQv D cid B res c.length mc) := by
  refine z_met (cc := bb_PQ_init) (maxL := 2) (ret := none) (by decide +kernel) rfl (Nat.le_of_ble_eq_true rfl) ?_
  intro p e s m args below meth cd D cid B X h1 h2 h3 h4
  have X : zX p s m args cd D cid B bb_PQ_init 2 rr_PQ zT := X
  have H : zH s meth B c.length none "<init>" := ⟨h1, h2, h4, h3⟩
  unfold f_PQ_init at h
  show Zz p l e (zRm 4 84 mc ms) s m args below meth cd _ D cid B 2 0 0 c 0 [(0, .ref a0)] []
  refine z_aload_n X dd_PQ_init_0 rfl 0 rfl ?_
  refine z_objInit X dd_PQ_init_1 km_152 km_153 km_154 (Nat.le_of_ble_eq_true rfl) (Nat.le_of_ble_eq_true rfl) ?_
  refine z_aload_n X dd_PQ_init_4 rfl 0 rfl ?_
  refine z_sipush (v := 1500) X dd_PQ_init_5 (by decide) ?_
  obtain ⟨u2, eu2, h⟩ := zb h
  obtain ⟨c1, ec1, h⟩ := zb h
  refine z_newaC (ty := .byte) X dd_PQ_init_8 rfl km_205 rfl (fun _ q => by cases q) (fun _ => rfl) (fun _ => rfl) (by decide) (by decide) (by decide) (zlim_s eu2).1 (zlim_s eu2).2 ec1 ?_
  obtain ⟨c3, ec3, h⟩ := zb h
  refine z_putF (j := 0) X dd_PQ_init_10 kc_11 ki_11 tt_PQ tk_PQ nn_PQ (by decide) km_689 rfl H.2.2.2 rfl (tk_PQ 0 (by decide)) rfl rfl ec3 ?_
  refine z_aload_n X dd_PQ_init_13 rfl 0 rfl ?_
  obtain ⟨u5, eu5, h⟩ := zb h
  obtain ⟨c4, ec4, h⟩ := zb h
  refine z_newC X dd_PQ_init_14 kc_0 ki_0 tt_Graph tk_Graph km_155 km_156 km_126 (by decide +kernel) (fun _ _ => rfl) (zlim_s eu5).1 (zlim_s eu5).2 ec4 ?_
  refine z_dup X dd_PQ_init_17 rfl ?_
  obtain ⟨u7, eu7, h⟩ := zb h
  obtain ⟨q6, eq6, h⟩ := zb h
  refine z_callIv (ret := none) X [] rfl dd_PQ_init_18 (c_Graph_init l eq6) (cwI 0 X.1.2.2.2.2 (zg_I km_159) rfl rfl rfl (X.1.2.2.2.2 _ km_126) (X.1.2.2.2.2 _ km_157) (X.1.2.2.2.2 _ km_158) rfl (by decide +kernel) ⟨Nat.le_of_ble_eq_true rfl, Nat.le_of_ble_eq_true rfl⟩) rfl (Nat.le_of_ble_eq_true rfl) (zlim_s eu7) ?_
  obtain ⟨c8, ec8, h⟩ := zb h
  refine z_putF (j := 1) X dd_PQ_init_21 kc_11 ki_11 tt_PQ tk_PQ nn_PQ (by decide) km_690 rfl H.2.2.2 rfl (tk_PQ 1 (by decide)) rfl rfl ec8 ?_
  refine z_aload_n X dd_PQ_init_24 rfl 0 rfl ?_
  obtain ⟨u10, eu10, h⟩ := zb h
  obtain ⟨c9, ec9, h⟩ := zb h
  refine z_newC X dd_PQ_init_25 kc_2 ki_2 tt_Text tk_Text km_207 km_208 km_128 (by decide +kernel) (fun _ _ => rfl) (zlim_s eu10).1 (zlim_s eu10).2 ec9 ?_
  refine z_dup X dd_PQ_init_28 rfl ?_
  obtain ⟨u12, eu12, h⟩ := zb h
  obtain ⟨q11, eq11, h⟩ := zb h
  refine z_callIv (ret := none) X [] rfl dd_PQ_init_29 (c_Text_init l eq11) (cwI 0 X.1.2.2.2.2 (zg_I km_211) rfl rfl rfl (X.1.2.2.2.2 _ km_128) (X.1.2.2.2.2 _ km_209) (X.1.2.2.2.2 _ km_210) rfl (by decide +kernel) ⟨Nat.le_of_ble_eq_true rfl, Nat.le_of_ble_eq_true rfl⟩) rfl (Nat.le_of_ble_eq_true rfl) (zlim_s eu12) ?_
  obtain ⟨c13, ec13, h⟩ := zb h
  refine z_put (j := 2) X dd_PQ_init_32 kc_11 ki_11 tt_PQ tk_PQ nn_PQ (by decide) km_691 rfl (tk_PQ 2 (by decide)) rfl rfl ec13 ?_
  refine z_aload_n X dd_PQ_init_35 rfl 0 rfl ?_
  obtain ⟨u15, eu15, h⟩ := zb h
  obtain ⟨c14, ec14, h⟩ := zb h
  refine z_newC X dd_PQ_init_36 kc_5 ki_5 tt_Reader tk_Reader km_404 km_405 km_130 (by decide +kernel) (fun _ _ => rfl) (zlim_s eu15).1 (zlim_s eu15).2 ec14 ?_
  refine z_dup X dd_PQ_init_39 rfl ?_
  refine z_aload_n X dd_PQ_init_40 rfl 0 rfl ?_
  obtain ⟨v16, ev16, h⟩ := zb h
  refine z_get (j := 2) X dd_PQ_init_41 kc_11 ki_11 (by decide) km_691 (zgr_v ev16) ?_
  obtain ⟨u18, eu18, h⟩ := zb h
  obtain ⟨q17, eq17, h⟩ := zb h
  refine z_callIv (ret := none) X [.ref v16] rfl dd_PQ_init_44 (c_Reader_init l eq17) (cwI 1 X.1.2.2.2.2 (zg_I km_408) rfl rfl rfl (X.1.2.2.2.2 _ km_130) (X.1.2.2.2.2 _ km_406) (X.1.2.2.2.2 _ km_407) rfl (by decide +kernel) ⟨Nat.le_of_ble_eq_true rfl, Nat.le_of_ble_eq_true rfl⟩) rfl (Nat.le_of_ble_eq_true rfl) (zlim_s eu18) ?_
  obtain ⟨c19, ec19, h⟩ := zb h
  refine z_putF (j := 3) X dd_PQ_init_47 kc_11 ki_11 tt_PQ tk_PQ nn_PQ (by decide) km_692 rfl H.2.2.2 rfl (tk_PQ 3 (by decide)) rfl rfl ec19 ?_
  refine z_aload_n X dd_PQ_init_50 rfl 0 rfl ?_
  obtain ⟨u21, eu21, h⟩ := zb h
  obtain ⟨c20, ec20, h⟩ := zb h
  refine z_newC X dd_PQ_init_51 kc_7 ki_7 tt_Finder tk_Finder km_535 km_536 km_133 (by decide +kernel) (fun _ _ => rfl) (zlim_s eu21).1 (zlim_s eu21).2 ec20 ?_
  refine z_dup X dd_PQ_init_54 rfl ?_
  refine z_aload_n X dd_PQ_init_55 rfl 0 rfl ?_
  obtain ⟨v22, ev22, h⟩ := zb h
  refine z_get (j := 1) X dd_PQ_init_56 kc_11 ki_11 (by decide) km_690 (zgr_v ev22) ?_
  refine z_aload_n X dd_PQ_init_59 rfl 0 rfl ?_
  obtain ⟨v23, ev23, h⟩ := zb h
  refine z_get (j := 2) X dd_PQ_init_60 kc_11 ki_11 (by decide) km_691 (zgr_v ev23) ?_
  obtain ⟨u25, eu25, h⟩ := zb h
  obtain ⟨q24, eq24, h⟩ := zb h
  refine z_callIv (ret := none) X [.ref v22, .ref v23] rfl dd_PQ_init_63 (c_Finder_init l eq24) (cwI 2 X.1.2.2.2.2 (zg_I km_539) rfl rfl rfl (X.1.2.2.2.2 _ km_133) (X.1.2.2.2.2 _ km_537) (X.1.2.2.2.2 _ km_538) rfl (by decide +kernel) ⟨Nat.le_of_ble_eq_true rfl, Nat.le_of_ble_eq_true rfl⟩) rfl (Nat.le_of_ble_eq_true rfl) (zlim_s eu25) ?_
  obtain ⟨c26, ec26, h⟩ := zb h
  refine z_putF (j := 4) X dd_PQ_init_66 kc_11 ki_11 tt_PQ tk_PQ nn_PQ (by decide) km_693 rfl H.2.2.2 rfl (tk_PQ 4 (by decide)) rfl rfl ec26 ?_
  refine z_aload_n X dd_PQ_init_69 rfl 0 rfl ?_
  obtain ⟨u28, eu28, h⟩ := zb h
  obtain ⟨c27, ec27, h⟩ := zb h
  refine z_newC X dd_PQ_init_70 kc_8 ki_8 tt_RuleBook tk_RuleBook km_613 km_614 km_135 (by decide +kernel) (fun _ _ => rfl) (zlim_s eu28).1 (zlim_s eu28).2 ec27 ?_
  refine z_dup X dd_PQ_init_73 rfl ?_
  refine z_aload_n X dd_PQ_init_74 rfl 0 rfl ?_
  obtain ⟨v29, ev29, h⟩ := zb h
  refine z_get (j := 1) X dd_PQ_init_75 kc_11 ki_11 (by decide) km_690 (zgr_v ev29) ?_
  refine z_aload_n X dd_PQ_init_78 rfl 0 rfl ?_
  obtain ⟨v30, ev30, h⟩ := zb h
  refine z_get (j := 4) X dd_PQ_init_79 kc_11 ki_11 (by decide) km_693 (zgr_v ev30) ?_
  obtain ⟨u32, eu32, h⟩ := zb h
  obtain ⟨q31, eq31, h⟩ := zb h
  refine z_callIv (ret := none) X [.ref v29, .ref v30] rfl dd_PQ_init_82 (c_RuleBook_init l eq31) (cwI 2 X.1.2.2.2.2 (zg_I km_617) rfl rfl rfl (X.1.2.2.2.2 _ km_135) (X.1.2.2.2.2 _ km_615) (X.1.2.2.2.2 _ km_616) rfl (by decide +kernel) ⟨Nat.le_of_ble_eq_true rfl, Nat.le_of_ble_eq_true rfl⟩) rfl (Nat.le_of_ble_eq_true rfl) (zlim_s eu32) ?_
  obtain ⟨c33, ec33, h⟩ := zb h
  refine z_putF (j := 5) X dd_PQ_init_85 kc_11 ki_11 tt_PQ tk_PQ nn_PQ (by decide) km_694 rfl H.2.2.2 rfl (tk_PQ 5 (by decide)) rfl rfl ec33 ?_
  refine z_aload_n X dd_PQ_init_88 rfl 0 rfl ?_
  obtain ⟨u35, eu35, h⟩ := zb h
  obtain ⟨c34, ec34, h⟩ := zb h
  refine z_newC X dd_PQ_init_89 kc_10 ki_10 tt_Collector tk_Collector km_642 km_643 km_136 (by decide +kernel) (fun _ _ => rfl) (zlim_s eu35).1 (zlim_s eu35).2 ec34 ?_
  refine z_dup X dd_PQ_init_92 rfl ?_
  refine z_aload_n X dd_PQ_init_93 rfl 0 rfl ?_
  obtain ⟨v36, ev36, h⟩ := zb h
  refine z_get (j := 4) X dd_PQ_init_94 kc_11 ki_11 (by decide) km_693 (zgr_v ev36) ?_
  obtain ⟨u38, eu38, h⟩ := zb h
  obtain ⟨q37, eq37, h⟩ := zb h
  refine z_callIv (ret := none) X [.ref v36] rfl dd_PQ_init_97 (c_Collector_init l eq37) (cwI 1 X.1.2.2.2.2 (zg_I km_646) rfl rfl rfl (X.1.2.2.2.2 _ km_136) (X.1.2.2.2.2 _ km_644) (X.1.2.2.2.2 _ km_645) rfl (by decide +kernel) ⟨Nat.le_of_ble_eq_true rfl, Nat.le_of_ble_eq_true rfl⟩) rfl (Nat.le_of_ble_eq_true rfl) (zlim_s eu38) ?_
  obtain ⟨c39, ec39, h⟩ := zb h
  refine z_putF (j := 6) X dd_PQ_init_100 kc_11 ki_11 tt_PQ tk_PQ nn_PQ (by decide) km_695 rfl H.2.2.2 rfl (tk_PQ 6 (by decide)) rfl rfl ec39 ?_
  refine z_aload_n X dd_PQ_init_103 rfl 0 rfl ?_
  refine z_iconst (v := 4) X dd_PQ_init_104 (by decide) ?_
  obtain ⟨u41, eu41, h⟩ := zb h
  obtain ⟨c40, ec40, h⟩ := zb h
  refine z_newqC X dd_PQ_init_105 km_207 (by decide +kernel) rfl (by decide) (by decide) (by decide) (zlim_s eu41).1 (zlim_s eu41).2 ec40 ?_
  obtain ⟨c42, ec42, h⟩ := zb h
  refine z_putF (j := 7) X dd_PQ_init_108 kc_11 ki_11 tt_PQ tk_PQ nn_PQ (by decide) km_696 rfl H.2.2.2 rfl (tk_PQ 7 (by decide)) rfl rfl ec42 ?_
  refine z_aload_n X dd_PQ_init_111 rfl 0 rfl ?_
  refine z_iconst (v := 4) X dd_PQ_init_112 (by decide) ?_
  obtain ⟨u44, eu44, h⟩ := zb h
  obtain ⟨c43, ec43, h⟩ := zb h
  refine z_newqC X dd_PQ_init_113 km_686 (by decide +kernel) rfl (by decide) (by decide) (by decide) (zlim_s eu44).1 (zlim_s eu44).2 ec43 ?_
  obtain ⟨c45, ec45, h⟩ := zb h
  refine z_putF (j := 8) X dd_PQ_init_116 kc_11 ki_11 tt_PQ tk_PQ nn_PQ (by decide) km_697 rfl H.2.2.2 rfl (tk_PQ 8 (by decide)) rfl rfl ec45 ?_
  refine z_aload_n X dd_PQ_init_119 rfl 0 rfl ?_
  refine z_iconst (v := 4) X dd_PQ_init_120 (by decide) ?_
  obtain ⟨u47, eu47, h⟩ := zb h
  obtain ⟨c46, ec46, h⟩ := zb h
  refine z_newaC (ty := .int) X dd_PQ_init_121 rfl km_206 rfl (fun _ q => by cases q) (fun _ => rfl) (fun _ => rfl) (by decide) (by decide) (by decide) (zlim_s eu47).1 (zlim_s eu47).2 ec46 ?_
  obtain ⟨c48, ec48, h⟩ := zb h
  refine z_putF (j := 9) X dd_PQ_init_123 kc_11 ki_11 tt_PQ tk_PQ nn_PQ (by decide) km_698 rfl H.2.2.2 rfl (tk_PQ 9 (by decide)) rfl rfl ec48 ?_
  refine z_aload_n X dd_PQ_init_126 rfl 0 rfl ?_
  refine z_iconst (v := 0) X dd_PQ_init_127 (by decide) ?_
  obtain ⟨c49, ec49, h⟩ := zb h
  refine z_put (j := 10) X dd_PQ_init_128 kc_11 ki_11 tt_PQ tk_PQ nn_PQ (by decide) km_699 rfl (tk_PQ 10 (by decide)) rfl rfl ec49 ?_
  refine z_iconst (v := 0) X dd_PQ_init_131 (by decide) ?_
  refine z_istore_n (lv' := [(1, .int 0), (0, .ref a0)]) X dd_PQ_init_132 rfl (by decide) rfl ?_
  refine z_sub [1, 0] rfl ?_
  exact t_PQ_init_133 X H h
theorem dd_PQ_append_0 : decode bb_PQ_append 0 = .ok (.bipush 24, 2) := by decide +kernel
theorem dd_PQ_append_2 : decode bb_PQ_append 2 = .ok (.istore_n 2, 1) := by decide +kernel
theorem dd_PQ_append_3 : decode bb_PQ_append 3 = .ok (.iload_n 2, 1) := by decide +kernel
theorem dd_PQ_append_4 : decode bb_PQ_append 4 = .ok (.ifCond .lt 42, 3) := by decide +kernel
theorem dd_PQ_append_7 : decode bb_PQ_append 7 = .ok (.aload_n 0, 1) := by decide +kernel
theorem dd_PQ_append_8 : decode bb_PQ_append 8 = .ok (.getfield 77, 3) := by decide +kernel
theorem dd_PQ_append_11 : decode bb_PQ_append 11 = .ok (.sipush 1500, 3) := by decide +kernel
theorem dd_PQ_append_14 : decode bb_PQ_append 14 = .ok (.if_icmp .ge 32, 3) := by decide +kernel
theorem dd_PQ_append_17 : decode bb_PQ_append 17 = .ok (.aload_n 0, 1) := by decide +kernel
theorem dd_PQ_append_18 : decode bb_PQ_append 18 = .ok (.getfield 9, 3) := by decide +kernel
theorem dd_PQ_append_21 : decode bb_PQ_append 21 = .ok (.aload_n 0, 1) := by decide +kernel
theorem dd_PQ_append_22 : decode bb_PQ_append 22 = .ok (.getfield 77, 3) := by decide +kernel
theorem dd_PQ_append_25 : decode bb_PQ_append 25 = .ok (.iload_n 1, 1) := by decide +kernel
theorem dd_PQ_append_26 : decode bb_PQ_append 26 = .ok (.iload_n 2, 1) := by decide +kernel
theorem dd_PQ_append_27 : decode bb_PQ_append 27 = .ok (.ishr, 1) := by decide +kernel
theorem dd_PQ_append_28 : decode bb_PQ_append 28 = .ok (.i2b, 1) := by decide +kernel
theorem dd_PQ_append_29 : decode bb_PQ_append 29 = .ok (.bastore, 1) := by decide +kernel
theorem dd_PQ_append_30 : decode bb_PQ_append 30 = .ok (.aload_n 0, 1) := by decide +kernel
theorem dd_PQ_append_31 : decode bb_PQ_append 31 = .ok (.dup, 1) := by decide +kernel
theorem dd_PQ_append_32 : decode bb_PQ_append 32 = .ok (.getfield 77, 3) := by decide +kernel
theorem dd_PQ_append_35 : decode bb_PQ_append 35 = .ok (.iconst 1, 1) := by decide +kernel
theorem dd_PQ_append_36 : decode bb_PQ_append 36 = .ok (.iadd, 1) := by decide +kernel
theorem dd_PQ_append_37 : decode bb_PQ_append 37 = .ok (.putfield 77, 3) := by decide +kernel
theorem dd_PQ_append_40 : decode bb_PQ_append 40 = .ok (.iinc 2 (-8), 3) := by decide +kernel
theorem dd_PQ_append_43 : decode bb_PQ_append 43 = .ok (.goto (-40), 3) := by decide +kernel
theorem dd_PQ_append_46 : decode bb_PQ_append 46 = .ok (.return_, 1) := by decide +kernel
def g_PQ_append_3 (nf : Nat) (x0 : Nat) (x1 : Int32) (x2 : Int32) (c : Zc) : Option ((Nat × Int32 × Int32 × Zc) ⊕ (Zc)) :=
  if x2 < 0 then (some (.inr c)) else ((zgi c x0 11 10).bind fun v2 => if 1500 ≤ v2 then (some (.inr c)) else ((zgr c x0 11 0).bind fun v4 => (zgi c x0 11 10).bind fun v5 => (zsi c v4 1 v5 (vp_nar .byte (Int8.toInt32 (Int32.toInt8 (x1 >>> (x2 &&& 31)))))).bind fun c6 => (zgi c6 x0 11 10).bind fun v7 => (zpv c6 x0 11 10 (.int (v7 + 1))).bind fun c8 => some (.inl (x0, x1, (x2 + (-8)), c8))))
def f_PQ_append_46 (nf : Nat)  (c : Zc) : Option (Zc) :=
  some c
def f_PQ_append_3 (nf : Nat) (x0 : Nat) (x1 : Int32) (x2 : Int32) (c : Zc) : Option (Zc) :=
  (zlp (fun a => g_PQ_append_3 nf a.1 a.2.1 a.2.2.1 a.2.2.2) nf (x0, x1, x2, c)).bind fun b => f_PQ_append_46 nf  b
def f_PQ_append (nf : Nat) (a0 : Nat) (a1 : Int32) (c : Zc) : Option (Zc) :=
  f_PQ_append_3 nf a0 a1 24 c
set_option maxRecDepth 100000 in
set_option maxHeartbeats 4000000 in
theorem u_PQ_append_3  (X : zX p s m args cd D cid B bb_PQ_append 3 rr_PQ zT) (H : zH s meth B n0 none "append") {nf : Nat} {x0 : Nat} {x1 : Int32} {x2 : Int32} {c : Zc} {r : (Nat × Int32 × Int32 × Zc) ⊕ (Zc)} (h : g_PQ_append_3 nf x0 x1 x2 c = some r) (k0 : ∀ a, r = .inl a → (fun a : Nat × Int32 × Int32 × Zc => Zz p l e (zRm 0 0 0 0) s m args below meth cd Q D cid B 3 0 0 a.2.2.2 3 [(0, .ref a.1), (1, .int a.2.1), (2, .int a.2.2.1)] []) a) (k1 : ∀ b, r = .inr b → (fun b : Zc => Zz p l e (zRm 0 0 0 0) s m args below meth cd Q D cid B 3 0 0 b 46 [] []) b) : Zz p l e (zRm 0 0 0 0) s m args below meth cd Q D cid B 3 0 0 c 3 [(0, .ref x0), (1, .int x1), (2, .int x2)] [] := by
  unfold g_PQ_append_3 at h
  refine z_iload_n X dd_PQ_append_3 rfl 2 rfl ?_
  refine z_if_lt (tgt := 46) X dd_PQ_append_4 (by decide) (fun q1 => ?_) (fun q1 => ?_)
  · rw [if_pos q1] at h
    refine z_sub [] rfl ?_
    obtain rfl := Option.some.inj h
    exact k1 _ rfl
  · rw [if_neg q1] at h
    refine z_aload_n X dd_PQ_append_7 rfl 0 rfl ?_
    obtain ⟨v2, ev2, h⟩ := zb h
    refine z_get (j := 10) X dd_PQ_append_8 kc_11 ki_11 (by decide) km_699 (zgi_v ev2) ?_
    refine z_sipush (v := 1500) X dd_PQ_append_11 (by decide) ?_
    refine z_icmp_ge (tgt := 46) X dd_PQ_append_14 (by decide) (fun q3 => ?_) (fun q3 => ?_)
    · rw [if_pos q3] at h
      refine z_sub [] rfl ?_
      obtain rfl := Option.some.inj h
      exact k1 _ rfl
    · rw [if_neg q3] at h
      refine z_aload_n X dd_PQ_append_17 rfl 0 rfl ?_
      obtain ⟨v4, ev4, h⟩ := zb h
      refine z_get (j := 0) X dd_PQ_append_18 kc_11 ki_11 (by decide) km_689 (zgr_v ev4) ?_
      refine z_aload_n X dd_PQ_append_21 rfl 0 rfl ?_
      obtain ⟨v5, ev5, h⟩ := zb h
      refine z_get (j := 10) X dd_PQ_append_22 kc_11 ki_11 (by decide) km_699 (zgi_v ev5) ?_
      refine z_iload_n X dd_PQ_append_25 rfl 1 rfl ?_
      refine z_iload_n X dd_PQ_append_26 rfl 2 rfl ?_
      refine z_ishr X dd_PQ_append_27 ?_
      refine z_i2b X dd_PQ_append_28 ?_
      obtain ⟨c6, ec6, h⟩ := zb h
      refine z_bastore X dd_PQ_append_29 rfl ec6 ?_
      refine z_aload_n X dd_PQ_append_30 rfl 0 rfl ?_
      refine z_dup X dd_PQ_append_31 rfl ?_
      obtain ⟨v7, ev7, h⟩ := zb h
      refine z_get (j := 10) X dd_PQ_append_32 kc_11 ki_11 (by decide) km_699 (zgi_v ev7) ?_
      refine z_iconst (v := 1) X dd_PQ_append_35 (by decide) ?_
      refine z_iadd X dd_PQ_append_36 ?_
      obtain ⟨c8, ec8, h⟩ := zb h
      refine z_put (j := 10) X dd_PQ_append_37 kc_11 ki_11 tt_PQ tk_PQ nn_PQ (by decide) km_699 rfl (tk_PQ 10 (by decide)) rfl rfl ec8 ?_
      refine z_iinc (v := (x2 + (-8))) (lv' := [(2, .int (x2 + (-8))), (0, .ref x0), (1, .int x1)]) X dd_PQ_append_40 2 rfl rfl (by decide) rfl ?_
      refine z_goto (tgt := 3) X dd_PQ_append_43 (by decide) ?_
      refine z_sub [1, 2, 0] rfl ?_
      obtain rfl := Option.some.inj h
      exact k0 _ rfl
set_option maxRecDepth 100000 in
set_option maxHeartbeats 4000000 in
theorem t_PQ_append_46  (X : zX p s m args cd D cid B bb_PQ_append 3 rr_PQ zT) (H : zH s meth B n0 none "append") {nf : Nat}  {c : Zc} {res : Zc} (h : f_PQ_append_46 nf  c = some res) : Zz p l e (zRm 0 0 0 0) s m args below meth cd (MQ below (zQv D cid B res n0 0) args s 0 0 (fun q => B ≤ q)) D cid B 3 0 0 c 46 [] [] := by
  unfold f_PQ_append_46 at h
  obtain rfl := Option.some.inj h
  exact z_vret X H.1 H.2.1 H.2.2.1 dd_PQ_append_46
set_option maxRecDepth 100000 in
set_option maxHeartbeats 4000000 in
theorem t_PQ_append_3  (X : zX p s m args cd D cid B bb_PQ_append 3 rr_PQ zT) (H : zH s meth B n0 none "append") {nf : Nat} {x0 : Nat} {x1 : Int32} {x2 : Int32} {c : Zc} {res : Zc} (h : f_PQ_append_3 nf x0 x1 x2 c = some res) : Zz p l e (zRm 0 0 0 0) s m args below meth cd (MQ below (zQv D cid B res n0 0) args s 0 0 (fun q => B ≤ q)) D cid B 3 0 0 c 3 [(0, .ref x0), (1, .int x1), (2, .int x2)] [] := by
  unfold f_PQ_append_3 at h
  obtain ⟨b, eb, h⟩ := zb h
  refine zlp_ok (P := fun a : Nat × Int32 × Int32 × Zc => Zz p l e (zRm 0 0 0 0) s m args below meth cd _ D cid B 3 0 0 a.2.2.2 3 [(0, .ref a.1), (1, .int a.2.1), (2, .int a.2.2.1)] []) (G := fun b : Zc => Zz p l e (zRm 0 0 0 0) s m args below meth cd _ D cid B 3 0 0 b 46 [] []) (fun a r ha k0 k1 => u_PQ_append_3 X H ha k0 k1) nf _ b eb ?_
  exact t_PQ_append_46 X H h
set_option maxRecDepth 100000 in
set_option maxHeartbeats 4000000 in
theorem c_PQ_append (l : Launch) {nf : Nat} {a0 : Nat} {a1 : Int32} {c : Zc} {res : Zc} (h : f_PQ_append nf a0 a1 c = some res) : zM l yy_PQ_append ww_PQ_append 0 0 0 0 [.ref a0, .int a1] c (fun D cid B => zQv D cid B res c.length 0) := by
  refine z_met (cc := bb_PQ_append) (maxL := 3) (ret := none) (by decide +kernel) rfl (Nat.le_of_ble_eq_true rfl) ?_
  intro p e s m args below meth cd D cid B X h1 h2 h3 h4
  have X : zX p s m args cd D cid B bb_PQ_append 3 rr_PQ zT := X
  have H : zH s meth B c.length none "append" := ⟨h1, h2, h4, h3⟩
  unfold f_PQ_append at h
  show Zz p l e (zRm 0 0 0 0) s m args below meth cd _ D cid B 3 0 0 c 0 [(0, .ref a0), (1, .int a1)] []
  refine z_bipush (v := 24) X dd_PQ_append_0 (by decide) ?_
  refine z_istore_n (lv' := [(2, .int 24), (0, .ref a0), (1, .int a1)]) X dd_PQ_append_2 rfl (by decide) rfl ?_
  refine z_sub [1, 2, 0] rfl ?_
  exact t_PQ_append_3 X H h
theorem dd_PQ_feed_0 : decode bb_PQ_feed 0 = .ok (.aload_n 0, 1) := by decide +kernel
theorem dd_PQ_feed_1 : decode bb_PQ_feed 1 = .ok (.getfield 77, 3) := by decide +kernel
theorem dd_PQ_feed_4 : decode bb_PQ_feed 4 = .ok (.bipush 20, 2) := by decide +kernel
theorem dd_PQ_feed_6 : decode bb_PQ_feed 6 = .ok (.iadd, 1) := by decide +kernel
theorem dd_PQ_feed_7 : decode bb_PQ_feed 7 = .ok (.sipush 1500, 3) := by decide +kernel
theorem dd_PQ_feed_10 : decode bb_PQ_feed 10 = .ok (.if_icmp .le 6, 3) := by decide +kernel
theorem dd_PQ_feed_13 : decode bb_PQ_feed 13 = .ok (.bipush (-3), 2) := by decide +kernel
theorem dd_PQ_feed_15 : decode bb_PQ_feed 15 = .ok (.ireturn, 1) := by decide +kernel
theorem dd_PQ_feed_16 : decode bb_PQ_feed 16 = .ok (.aload_n 0, 1) := by decide +kernel
theorem dd_PQ_feed_17 : decode bb_PQ_feed 17 = .ok (.iload_n 1, 1) := by decide +kernel
theorem dd_PQ_feed_18 : decode bb_PQ_feed 18 = .ok (.invokevirtual 82, 3) := by decide +kernel
theorem dd_PQ_feed_21 : decode bb_PQ_feed 21 = .ok (.aload_n 0, 1) := by decide +kernel
theorem dd_PQ_feed_22 : decode bb_PQ_feed 22 = .ok (.iload_n 2, 1) := by decide +kernel
theorem dd_PQ_feed_23 : decode bb_PQ_feed 23 = .ok (.invokevirtual 82, 3) := by decide +kernel
theorem dd_PQ_feed_26 : decode bb_PQ_feed 26 = .ok (.aload_n 0, 1) := by decide +kernel
theorem dd_PQ_feed_27 : decode bb_PQ_feed 27 = .ok (.iload_n 3, 1) := by decide +kernel
theorem dd_PQ_feed_28 : decode bb_PQ_feed 28 = .ok (.invokevirtual 82, 3) := by decide +kernel
theorem dd_PQ_feed_31 : decode bb_PQ_feed 31 = .ok (.aload_n 0, 1) := by decide +kernel
theorem dd_PQ_feed_32 : decode bb_PQ_feed 32 = .ok (.iload 4, 2) := by decide +kernel
theorem dd_PQ_feed_34 : decode bb_PQ_feed 34 = .ok (.invokevirtual 82, 3) := by decide +kernel
theorem dd_PQ_feed_37 : decode bb_PQ_feed 37 = .ok (.aload_n 0, 1) := by decide +kernel
theorem dd_PQ_feed_38 : decode bb_PQ_feed 38 = .ok (.iload 5, 2) := by decide +kernel
theorem dd_PQ_feed_40 : decode bb_PQ_feed 40 = .ok (.invokevirtual 82, 3) := by decide +kernel
theorem dd_PQ_feed_43 : decode bb_PQ_feed 43 = .ok (.aload_n 0, 1) := by decide +kernel
theorem dd_PQ_feed_44 : decode bb_PQ_feed 44 = .ok (.getfield 77, 3) := by decide +kernel
theorem dd_PQ_feed_47 : decode bb_PQ_feed 47 = .ok (.ireturn, 1) := by decide +kernel
def f_PQ_feed (nf : Nat) (a0 : Nat) (a1 : Int32) (a2 : Int32) (a3 : Int32) (a4 : Int32) (a5 : Int32) (c : Zc) : Option (Int32 × Zc) :=
  (zgi c a0 11 10).bind fun v1 => if (v1 + 20) ≤ 1500 then ((zob c a0 11).bind fun w4 => (f_PQ_append nf a0 a1 c).bind fun q3 => (zob q3 a0 11).bind fun w6 => (f_PQ_append nf a0 a2 q3).bind fun q5 => (zob q5 a0 11).bind fun w8 => (f_PQ_append nf a0 a3 q5).bind fun q7 => (zob q7 a0 11).bind fun w10 => (f_PQ_append nf a0 a4 q7).bind fun q9 => (zob q9 a0 11).bind fun w12 => (f_PQ_append nf a0 a5 q9).bind fun q11 => (zgi q11 a0 11 10).bind fun v13 => some (v13, q11)) else (some ((-3), c))
set_option maxRecDepth 100000 in
set_option maxHeartbeats 4000000 in
theorem c_PQ_feed (l : Launch) {nf : Nat} {a0 : Nat} {a1 : Int32} {a2 : Int32} {a3 : Int32} {a4 : Int32} {a5 : Int32} {c : Zc} {res : Int32 × Zc} (h : f_PQ_feed nf a0 a1 a2 a3 a4 a5 c = some res) : zM l yy_PQ_feed ww_PQ_feed 1 22 0 0 [.ref a0, .int a1, .int a2, .int a3, .int a4, .int a5] c (fun D cid B => zQi D cid B res.1 res.2 c.length 0) := by
  refine z_met (cc := bb_PQ_feed) (maxL := 6) (ret := (some (.int))) (by decide +kernel) rfl (Nat.le_of_ble_eq_true rfl) ?_
  intro p e s m args below meth cd D cid B X h1 h2 h3 h4
  have X : zX p s m args cd D cid B bb_PQ_feed 6 rr_PQ zT := X
  have H : zH s meth B c.length (some (.int)) "feed" := ⟨h1, h2, h4, h3⟩
  unfold f_PQ_feed at h
  show Zz p l e (zRm 1 22 0 0) s m args below meth cd _ D cid B 6 0 0 c 0 [(0, .ref a0), (1, .int a1), (2, .int a2), (3, .int a3), (4, .int a4), (5, .int a5)] []
  refine z_aload_n X dd_PQ_feed_0 rfl 0 rfl ?_
  obtain ⟨v1, ev1, h⟩ := zb h
  refine z_get (j := 10) X dd_PQ_feed_1 kc_11 ki_11 (by decide) km_699 (zgi_v ev1) ?_
  refine z_bipush (v := 20) X dd_PQ_feed_4 (by decide) ?_
  refine z_iadd X dd_PQ_feed_6 ?_
  refine z_sipush (v := 1500) X dd_PQ_feed_7 (by decide) ?_
  refine z_icmp_le (tgt := 16) X dd_PQ_feed_10 (by decide) (fun q2 => ?_) (fun q2 => ?_)
  · rw [if_pos q2] at h
    refine z_aload_n X dd_PQ_feed_16 rfl 0 rfl ?_
    refine z_iload_n X dd_PQ_feed_17 rfl 1 rfl ?_
    obtain ⟨w4, ew4, h⟩ := zb h
    obtain ⟨q3, eq3, h⟩ := zb h
    refine z_callVv X [.int a1] rfl dd_PQ_feed_18 (c_PQ_append l eq3) (cwV 1 X.1.2.2.2.2 (zg_V km_727 km_729 km_0 km_125 km_730) rfl rfl rfl (by decide +kernel) ⟨Nat.le_of_ble_eq_true rfl, Nat.le_of_ble_eq_true rfl⟩) (zob_s ew4) kc_11 rfl (Nat.le_of_ble_eq_true rfl) ⟨Nat.le_of_ble_eq_true rfl, Nat.le_of_ble_eq_true rfl⟩ ?_
    refine z_aload_n X dd_PQ_feed_21 rfl 0 rfl ?_
    refine z_iload_n X dd_PQ_feed_22 rfl 2 rfl ?_
    obtain ⟨w6, ew6, h⟩ := zb h
    obtain ⟨q5, eq5, h⟩ := zb h
    refine z_callVv X [.int a2] rfl dd_PQ_feed_23 (c_PQ_append l eq5) (cwV 1 X.1.2.2.2.2 (zg_V km_727 km_729 km_0 km_125 km_730) rfl rfl rfl (by decide +kernel) ⟨Nat.le_of_ble_eq_true rfl, Nat.le_of_ble_eq_true rfl⟩) (zob_s ew6) kc_11 rfl (Nat.le_of_ble_eq_true rfl) ⟨Nat.le_of_ble_eq_true rfl, Nat.le_of_ble_eq_true rfl⟩ ?_
    refine z_aload_n X dd_PQ_feed_26 rfl 0 rfl ?_
    refine z_iload_n X dd_PQ_feed_27 rfl 3 rfl ?_
    obtain ⟨w8, ew8, h⟩ := zb h
    obtain ⟨q7, eq7, h⟩ := zb h
    refine z_callVv X [.int a3] rfl dd_PQ_feed_28 (c_PQ_append l eq7) (cwV 1 X.1.2.2.2.2 (zg_V km_727 km_729 km_0 km_125 km_730) rfl rfl rfl (by decide +kernel) ⟨Nat.le_of_ble_eq_true rfl, Nat.le_of_ble_eq_true rfl⟩) (zob_s ew8) kc_11 rfl (Nat.le_of_ble_eq_true rfl) ⟨Nat.le_of_ble_eq_true rfl, Nat.le_of_ble_eq_true rfl⟩ ?_
    refine z_aload_n X dd_PQ_feed_31 rfl 0 rfl ?_
    refine z_iload X dd_PQ_feed_32 4 rfl ?_
    obtain ⟨w10, ew10, h⟩ := zb h
    obtain ⟨q9, eq9, h⟩ := zb h
    refine z_callVv X [.int a4] rfl dd_PQ_feed_34 (c_PQ_append l eq9) (cwV 1 X.1.2.2.2.2 (zg_V km_727 km_729 km_0 km_125 km_730) rfl rfl rfl (by decide +kernel) ⟨Nat.le_of_ble_eq_true rfl, Nat.le_of_ble_eq_true rfl⟩) (zob_s ew10) kc_11 rfl (Nat.le_of_ble_eq_true rfl) ⟨Nat.le_of_ble_eq_true rfl, Nat.le_of_ble_eq_true rfl⟩ ?_
    refine z_aload_n X dd_PQ_feed_37 rfl 0 rfl ?_
    refine z_iload X dd_PQ_feed_38 5 rfl ?_
    obtain ⟨w12, ew12, h⟩ := zb h
    obtain ⟨q11, eq11, h⟩ := zb h
    refine z_callVv X [.int a5] rfl dd_PQ_feed_40 (c_PQ_append l eq11) (cwV 1 X.1.2.2.2.2 (zg_V km_727 km_729 km_0 km_125 km_730) rfl rfl rfl (by decide +kernel) ⟨Nat.le_of_ble_eq_true rfl, Nat.le_of_ble_eq_true rfl⟩) (zob_s ew12) kc_11 rfl (Nat.le_of_ble_eq_true rfl) ⟨Nat.le_of_ble_eq_true rfl, Nat.le_of_ble_eq_true rfl⟩ ?_
    refine z_aload_n X dd_PQ_feed_43 rfl 0 rfl ?_
    obtain ⟨v13, ev13, h⟩ := zb h
    refine z_get (j := 10) X dd_PQ_feed_44 kc_11 ki_11 (by decide) km_699 (zgi_v ev13) ?_
    obtain rfl := Option.some.inj h
    exact z_iret X H.1 H.2.1 H.2.2.1 dd_PQ_feed_47
  · rw [if_neg q2] at h
    refine z_bipush (v := (-3)) X dd_PQ_feed_13 (by decide) ?_
    obtain rfl := Option.some.inj h
    exact z_iret X H.1 H.2.1 H.2.2.1 dd_PQ_feed_15
theorem dd_PQ_cut_0 : decode bb_PQ_cut 0 = .ok (.iload_n 1, 1) := by decide +kernel
theorem dd_PQ_cut_1 : decode bb_PQ_cut 1 = .ok (.ifCond .lt 11, 3) := by decide +kernel
theorem dd_PQ_cut_4 : decode bb_PQ_cut 4 = .ok (.iload_n 1, 1) := by decide +kernel
theorem dd_PQ_cut_5 : decode bb_PQ_cut 5 = .ok (.aload_n 0, 1) := by decide +kernel
theorem dd_PQ_cut_6 : decode bb_PQ_cut 6 = .ok (.getfield 77, 3) := by decide +kernel
theorem dd_PQ_cut_9 : decode bb_PQ_cut 9 = .ok (.if_icmp .le 5, 3) := by decide +kernel
theorem dd_PQ_cut_12 : decode bb_PQ_cut 12 = .ok (.iconst (-1), 1) := by decide +kernel
theorem dd_PQ_cut_13 : decode bb_PQ_cut 13 = .ok (.ireturn, 1) := by decide +kernel
theorem dd_PQ_cut_14 : decode bb_PQ_cut 14 = .ok (.aload_n 0, 1) := by decide +kernel
theorem dd_PQ_cut_15 : decode bb_PQ_cut 15 = .ok (.dup, 1) := by decide +kernel
theorem dd_PQ_cut_16 : decode bb_PQ_cut 16 = .ok (.getfield 77, 3) := by decide +kernel
theorem dd_PQ_cut_19 : decode bb_PQ_cut 19 = .ok (.iload_n 1, 1) := by decide +kernel
theorem dd_PQ_cut_20 : decode bb_PQ_cut 20 = .ok (.isub, 1) := by decide +kernel
theorem dd_PQ_cut_21 : decode bb_PQ_cut 21 = .ok (.putfield 77, 3) := by decide +kernel
theorem dd_PQ_cut_24 : decode bb_PQ_cut 24 = .ok (.aload_n 0, 1) := by decide +kernel
theorem dd_PQ_cut_25 : decode bb_PQ_cut 25 = .ok (.getfield 77, 3) := by decide +kernel
theorem dd_PQ_cut_28 : decode bb_PQ_cut 28 = .ok (.ireturn, 1) := by decide +kernel
def f_PQ_cut_12 (nf : Nat)  (c : Zc) : Option (Int32 × Zc) :=
  some ((-1), c)
def f_PQ_cut (nf : Nat) (a0 : Nat) (a1 : Int32) (c : Zc) : Option (Int32 × Zc) :=
  if a1 < 0 then (f_PQ_cut_12 nf  c) else ((zgi c a0 11 10).bind fun v2 => if a1 ≤ v2 then ((zgi c a0 11 10).bind fun v4 => (zpv c a0 11 10 (.int (v4 - a1))).bind fun c5 => (zgi c5 a0 11 10).bind fun v6 => some (v6, c5)) else (f_PQ_cut_12 nf  c))
set_option maxRecDepth 100000 in
set_option maxHeartbeats 4000000 in
theorem t_PQ_cut_12  (X : zX p s m args cd D cid B bb_PQ_cut 2 rr_PQ zT) (H : zH s meth B n0 (some (.int)) "cut") {nf : Nat}  {c : Zc} {res : Int32 × Zc} (h : f_PQ_cut_12 nf  c = some res) : Zz p l e (zRm 0 0 0 0) s m args below meth cd (MQ below (zQi D cid B res.1 res.2 n0 0) args s 0 0 (fun q => B ≤ q)) D cid B 2 0 0 c 12 [] [] := by
  unfold f_PQ_cut_12 at h
  refine z_iconst (v := (-1)) X dd_PQ_cut_12 (by decide) ?_
  obtain rfl := Option.some.inj h
  exact z_iret X H.1 H.2.1 H.2.2.1 dd_PQ_cut_13
set_option maxRecDepth 100000 in
set_option maxHeartbeats 4000000 in
theorem c_PQ_cut (l : Launch) {nf : Nat} {a0 : Nat} {a1 : Int32} {c : Zc} {res : Int32 × Zc} (h : f_PQ_cut nf a0 a1 c = some res) : zM l yy_PQ_cut ww_PQ_cut 0 0 0 0 [.ref a0, .int a1] c (fun D cid B => zQi D cid B res.1 res.2 c.length 0) := by
  refine z_met (cc := bb_PQ_cut) (maxL := 2) (ret := (some (.int))) (by decide +kernel) rfl (Nat.le_of_ble_eq_true rfl) ?_
  intro p e s m args below meth cd D cid B X h1 h2 h3 h4
  have X : zX p s m args cd D cid B bb_PQ_cut 2 rr_PQ zT := X
  have H : zH s meth B c.length (some (.int)) "cut" := ⟨h1, h2, h4, h3⟩
  unfold f_PQ_cut at h
  show Zz p l e (zRm 0 0 0 0) s m args below meth cd _ D cid B 2 0 0 c 0 [(0, .ref a0), (1, .int a1)] []
  refine z_iload_n X dd_PQ_cut_0 rfl 1 rfl ?_
  refine z_if_lt (tgt := 12) X dd_PQ_cut_1 (by decide) (fun q1 => ?_) (fun q1 => ?_)
  · rw [if_pos q1] at h
    refine z_sub [] rfl ?_
    exact t_PQ_cut_12 X H h
  · rw [if_neg q1] at h
    refine z_iload_n X dd_PQ_cut_4 rfl 1 rfl ?_
    refine z_aload_n X dd_PQ_cut_5 rfl 0 rfl ?_
    obtain ⟨v2, ev2, h⟩ := zb h
    refine z_get (j := 10) X dd_PQ_cut_6 kc_11 ki_11 (by decide) km_699 (zgi_v ev2) ?_
    refine z_icmp_le (tgt := 14) X dd_PQ_cut_9 (by decide) (fun q3 => ?_) (fun q3 => ?_)
    · rw [if_pos q3] at h
      refine z_aload_n X dd_PQ_cut_14 rfl 0 rfl ?_
      refine z_dup X dd_PQ_cut_15 rfl ?_
      obtain ⟨v4, ev4, h⟩ := zb h
      refine z_get (j := 10) X dd_PQ_cut_16 kc_11 ki_11 (by decide) km_699 (zgi_v ev4) ?_
      refine z_iload_n X dd_PQ_cut_19 rfl 1 rfl ?_
      refine z_isub X dd_PQ_cut_20 ?_
      obtain ⟨c5, ec5, h⟩ := zb h
      refine z_put (j := 10) X dd_PQ_cut_21 kc_11 ki_11 tt_PQ tk_PQ nn_PQ (by decide) km_699 rfl (tk_PQ 10 (by decide)) rfl rfl ec5 ?_
      refine z_aload_n X dd_PQ_cut_24 rfl 0 rfl ?_
      obtain ⟨v6, ev6, h⟩ := zb h
      refine z_get (j := 10) X dd_PQ_cut_25 kc_11 ki_11 (by decide) km_699 (zgi_v ev6) ?_
      obtain rfl := Option.some.inj h
      exact z_iret X H.1 H.2.1 H.2.2.1 dd_PQ_cut_28
    · rw [if_neg q3] at h
      refine z_sub [] rfl ?_
      exact t_PQ_cut_12 X H h
theorem dd_PQ_node_0 : decode bb_PQ_node 0 = .ok (.iload_n 1, 1) := by decide +kernel
theorem dd_PQ_node_1 : decode bb_PQ_node 1 = .ok (.ifCond .lt 10, 3) := by decide +kernel
theorem dd_PQ_node_4 : decode bb_PQ_node 4 = .ok (.iload_n 1, 1) := by decide +kernel
theorem dd_PQ_node_5 : decode bb_PQ_node 5 = .ok (.sipush 256, 3) := by decide +kernel
theorem dd_PQ_node_8 : decode bb_PQ_node 8 = .ok (.if_icmp .lt 5, 3) := by decide +kernel
theorem dd_PQ_node_11 : decode bb_PQ_node 11 = .ok (.iconst (-1), 1) := by decide +kernel
theorem dd_PQ_node_12 : decode bb_PQ_node 12 = .ok (.ireturn, 1) := by decide +kernel
theorem dd_PQ_node_13 : decode bb_PQ_node 13 = .ok (.aload_n 0, 1) := by decide +kernel
theorem dd_PQ_node_14 : decode bb_PQ_node 14 = .ok (.getfield 16, 3) := by decide +kernel
theorem dd_PQ_node_17 : decode bb_PQ_node 17 = .ok (.iload_n 1, 1) := by decide +kernel
theorem dd_PQ_node_18 : decode bb_PQ_node 18 = .ok (.invokevirtual 86, 3) := by decide +kernel
theorem dd_PQ_node_21 : decode bb_PQ_node 21 = .ok (.ireturn, 1) := by decide +kernel
def f_PQ_node_11 (nf : Nat)  (c : Zc) : Option (Int32 × Zc) :=
  some ((-1), c)
def f_PQ_node (nf : Nat) (a0 : Nat) (a1 : Int32) (c : Zc) : Option (Int32 × Zc) :=
  if a1 < 0 then (f_PQ_node_11 nf  c) else (if a1 < 256 then ((zgr c a0 11 1).bind fun v3 => (zob c v3 0).bind fun w5 => (f_Graph_addNode nf v3 a1 c).bind fun q4 => some (q4.1, q4.2)) else (f_PQ_node_11 nf  c))
set_option maxRecDepth 100000 in
set_option maxHeartbeats 4000000 in
theorem t_PQ_node_11  (X : zX p s m args cd D cid B bb_PQ_node 2 rr_PQ zT) (H : zH s meth B n0 (some (.int)) "node") {nf : Nat}  {c : Zc} {res : Int32 × Zc} (h : f_PQ_node_11 nf  c = some res) : Zz p l e (zRm 1 21 0 0) s m args below meth cd (MQ below (zQi D cid B res.1 res.2 n0 0) args s 0 0 (fun q => B ≤ q)) D cid B 2 0 0 c 11 [] [] := by
  unfold f_PQ_node_11 at h
  refine z_iconst (v := (-1)) X dd_PQ_node_11 (by decide) ?_
  obtain rfl := Option.some.inj h
  exact z_iret X H.1 H.2.1 H.2.2.1 dd_PQ_node_12
set_option maxRecDepth 100000 in
set_option maxHeartbeats 4000000 in
theorem c_PQ_node (l : Launch) {nf : Nat} {a0 : Nat} {a1 : Int32} {c : Zc} {res : Int32 × Zc} (h : f_PQ_node nf a0 a1 c = some res) : zM l yy_PQ_node ww_PQ_node 1 21 0 0 [.ref a0, .int a1] c (fun D cid B => zQi D cid B res.1 res.2 c.length 0) := by
  refine z_met (cc := bb_PQ_node) (maxL := 2) (ret := (some (.int))) (by decide +kernel) rfl (Nat.le_of_ble_eq_true rfl) ?_
  intro p e s m args below meth cd D cid B X h1 h2 h3 h4
  have X : zX p s m args cd D cid B bb_PQ_node 2 rr_PQ zT := X
  have H : zH s meth B c.length (some (.int)) "node" := ⟨h1, h2, h4, h3⟩
  unfold f_PQ_node at h
  show Zz p l e (zRm 1 21 0 0) s m args below meth cd _ D cid B 2 0 0 c 0 [(0, .ref a0), (1, .int a1)] []
  refine z_iload_n X dd_PQ_node_0 rfl 1 rfl ?_
  refine z_if_lt (tgt := 11) X dd_PQ_node_1 (by decide) (fun q1 => ?_) (fun q1 => ?_)
  · rw [if_pos q1] at h
    refine z_sub [] rfl ?_
    exact t_PQ_node_11 X H h
  · rw [if_neg q1] at h
    refine z_iload_n X dd_PQ_node_4 rfl 1 rfl ?_
    refine z_sipush (v := 256) X dd_PQ_node_5 (by decide) ?_
    refine z_icmp_lt (tgt := 13) X dd_PQ_node_8 (by decide) (fun q2 => ?_) (fun q2 => ?_)
    · rw [if_pos q2] at h
      refine z_aload_n X dd_PQ_node_13 rfl 0 rfl ?_
      obtain ⟨v3, ev3, h⟩ := zb h
      refine z_get (j := 1) X dd_PQ_node_14 kc_11 ki_11 (by decide) km_690 (zgr_v ev3) ?_
      refine z_iload_n X dd_PQ_node_17 rfl 1 rfl ?_
      obtain ⟨w5, ew5, h⟩ := zb h
      obtain ⟨q4, eq4, h⟩ := zb h
      refine z_callVi X [.int a1] rfl dd_PQ_node_18 (c_Graph_addNode l eq4) (cwV 1 X.1.2.2.2.2 (zg_V km_739 km_740 km_741 km_126 km_742) rfl rfl rfl (by decide +kernel) ⟨Nat.le_of_ble_eq_true rfl, Nat.le_of_ble_eq_true rfl⟩) (zob_s ew5) kc_0 rfl (Nat.le_of_ble_eq_true rfl) ⟨Nat.le_of_ble_eq_true rfl, Nat.le_of_ble_eq_true rfl⟩ ?_
      obtain rfl := Option.some.inj h
      exact z_iret X H.1 H.2.1 H.2.2.1 dd_PQ_node_21
    · rw [if_neg q2] at h
      refine z_sub [] rfl ?_
      exact t_PQ_node_11 X H h
theorem dd_PQ_mark_0 : decode bb_PQ_mark 0 = .ok (.aload_n 0, 1) := by decide +kernel
theorem dd_PQ_mark_1 : decode bb_PQ_mark 1 = .ok (.getfield 16, 3) := by decide +kernel
theorem dd_PQ_mark_4 : decode bb_PQ_mark 4 = .ok (.iload_n 1, 1) := by decide +kernel
theorem dd_PQ_mark_5 : decode bb_PQ_mark 5 = .ok (.invokevirtual 90, 3) := by decide +kernel
theorem dd_PQ_mark_8 : decode bb_PQ_mark 8 = .ok (.ifCond .eq 14, 3) := by decide +kernel
theorem dd_PQ_mark_11 : decode bb_PQ_mark 11 = .ok (.iload_n 2, 1) := by decide +kernel
theorem dd_PQ_mark_12 : decode bb_PQ_mark 12 = .ok (.ifCond .lt 10, 3) := by decide +kernel
theorem dd_PQ_mark_15 : decode bb_PQ_mark 15 = .ok (.iload_n 2, 1) := by decide +kernel
theorem dd_PQ_mark_16 : decode bb_PQ_mark 16 = .ok (.sipush 256, 3) := by decide +kernel
theorem dd_PQ_mark_19 : decode bb_PQ_mark 19 = .ok (.if_icmp .lt 5, 3) := by decide +kernel
theorem dd_PQ_mark_22 : decode bb_PQ_mark 22 = .ok (.iconst (-1), 1) := by decide +kernel
theorem dd_PQ_mark_23 : decode bb_PQ_mark 23 = .ok (.ireturn, 1) := by decide +kernel
theorem dd_PQ_mark_24 : decode bb_PQ_mark 24 = .ok (.aload_n 0, 1) := by decide +kernel
theorem dd_PQ_mark_25 : decode bb_PQ_mark 25 = .ok (.getfield 16, 3) := by decide +kernel
theorem dd_PQ_mark_28 : decode bb_PQ_mark 28 = .ok (.iload_n 1, 1) := by decide +kernel
theorem dd_PQ_mark_29 : decode bb_PQ_mark 29 = .ok (.iload_n 2, 1) := by decide +kernel
theorem dd_PQ_mark_30 : decode bb_PQ_mark 30 = .ok (.invokevirtual 94, 3) := by decide +kernel
theorem dd_PQ_mark_33 : decode bb_PQ_mark 33 = .ok (.ireturn, 1) := by decide +kernel
def f_PQ_mark_22 (nf : Nat)  (c : Zc) : Option (Int32 × Zc) :=
  some ((-1), c)
def f_PQ_mark (nf : Nat) (a0 : Nat) (a1 : Int32) (a2 : Int32) (c : Zc) : Option (Int32 × Zc) :=
  (zgr c a0 11 1).bind fun v1 => (zob c v1 0).bind fun w3 => (f_Graph_isNode nf v1 a1 c).bind fun q2 => if q2.1 = 0 then (f_PQ_mark_22 nf  q2.2) else (if a2 < 0 then (f_PQ_mark_22 nf  q2.2) else (if a2 < 256 then ((zgr q2.2 a0 11 1).bind fun v7 => (zob q2.2 v7 0).bind fun w9 => (f_Graph_changeMarks nf v7 a1 a2 q2.2).bind fun q8 => some (q8.1, q8.2)) else (f_PQ_mark_22 nf  q2.2)))
set_option maxRecDepth 100000 in
set_option maxHeartbeats 4000000 in
theorem t_PQ_mark_22  (X : zX p s m args cd D cid B bb_PQ_mark 3 rr_PQ zT) (H : zH s meth B n0 (some (.int)) "mark") {nf : Nat}  {c : Zc} {res : Int32 × Zc} (h : f_PQ_mark_22 nf  c = some res) : Zz p l e (zRm 1 23 0 0) s m args below meth cd (MQ below (zQi D cid B res.1 res.2 n0 0) args s 0 0 (fun q => B ≤ q)) D cid B 3 0 0 c 22 [] [] := by
  unfold f_PQ_mark_22 at h
  refine z_iconst (v := (-1)) X dd_PQ_mark_22 (by decide) ?_
  obtain rfl := Option.some.inj h
  exact z_iret X H.1 H.2.1 H.2.2.1 dd_PQ_mark_23
set_option maxRecDepth 100000 in
set_option maxHeartbeats 4000000 in
theorem c_PQ_mark (l : Launch) {nf : Nat} {a0 : Nat} {a1 : Int32} {a2 : Int32} {c : Zc} {res : Int32 × Zc} (h : f_PQ_mark nf a0 a1 a2 c = some res) : zM l yy_PQ_mark ww_PQ_mark 1 23 0 0 [.ref a0, .int a1, .int a2] c (fun D cid B => zQi D cid B res.1 res.2 c.length 0) := by
  refine z_met (cc := bb_PQ_mark) (maxL := 3) (ret := (some (.int))) (by decide +kernel) rfl (Nat.le_of_ble_eq_true rfl) ?_
  intro p e s m args below meth cd D cid B X h1 h2 h3 h4
  have X : zX p s m args cd D cid B bb_PQ_mark 3 rr_PQ zT := X
  have H : zH s meth B c.length (some (.int)) "mark" := ⟨h1, h2, h4, h3⟩
  unfold f_PQ_mark at h
  show Zz p l e (zRm 1 23 0 0) s m args below meth cd _ D cid B 3 0 0 c 0 [(0, .ref a0), (1, .int a1), (2, .int a2)] []
  refine z_aload_n X dd_PQ_mark_0 rfl 0 rfl ?_
  obtain ⟨v1, ev1, h⟩ := zb h
  refine z_get (j := 1) X dd_PQ_mark_1 kc_11 ki_11 (by decide) km_690 (zgr_v ev1) ?_
  refine z_iload_n X dd_PQ_mark_4 rfl 1 rfl ?_
  obtain ⟨w3, ew3, h⟩ := zb h
  obtain ⟨q2, eq2, h⟩ := zb h
  refine z_callVi X [.int a1] rfl dd_PQ_mark_5 (c_Graph_isNode l eq2) (cwV 1 X.1.2.2.2.2 (zg_V km_747 km_748 km_749 km_126 km_750) rfl rfl rfl (by decide +kernel) ⟨Nat.le_of_ble_eq_true rfl, Nat.le_of_ble_eq_true rfl⟩) (zob_s ew3) kc_0 rfl (Nat.le_of_ble_eq_true rfl) ⟨Nat.le_of_ble_eq_true rfl, Nat.le_of_ble_eq_true rfl⟩ ?_
  refine z_if_eq (tgt := 22) X dd_PQ_mark_8 (by decide) (fun q4 => ?_) (fun q4 => ?_)
  · rw [if_pos q4] at h
    refine z_sub [] rfl ?_
    exact t_PQ_mark_22 X H h
  · rw [if_neg q4] at h
    refine z_iload_n X dd_PQ_mark_11 rfl 2 rfl ?_
    refine z_if_lt (tgt := 22) X dd_PQ_mark_12 (by decide) (fun q5 => ?_) (fun q5 => ?_)
    · rw [if_pos q5] at h
      refine z_sub [] rfl ?_
      exact t_PQ_mark_22 X H h
    · rw [if_neg q5] at h
      refine z_iload_n X dd_PQ_mark_15 rfl 2 rfl ?_
      refine z_sipush (v := 256) X dd_PQ_mark_16 (by decide) ?_
      refine z_icmp_lt (tgt := 24) X dd_PQ_mark_19 (by decide) (fun q6 => ?_) (fun q6 => ?_)
      · rw [if_pos q6] at h
        refine z_aload_n X dd_PQ_mark_24 rfl 0 rfl ?_
        obtain ⟨v7, ev7, h⟩ := zb h
        refine z_get (j := 1) X dd_PQ_mark_25 kc_11 ki_11 (by decide) km_690 (zgr_v ev7) ?_
        refine z_iload_n X dd_PQ_mark_28 rfl 1 rfl ?_
        refine z_iload_n X dd_PQ_mark_29 rfl 2 rfl ?_
        obtain ⟨w9, ew9, h⟩ := zb h
        obtain ⟨q8, eq8, h⟩ := zb h
        refine z_callVi X [.int a1, .int a2] rfl dd_PQ_mark_30 (c_Graph_changeMarks l eq8) (cwV 2 X.1.2.2.2.2 (zg_V km_751 km_752 km_753 km_126 km_754) rfl rfl rfl (by decide +kernel) ⟨Nat.le_of_ble_eq_true rfl, Nat.le_of_ble_eq_true rfl⟩) (zob_s ew9) kc_0 rfl (Nat.le_of_ble_eq_true rfl) ⟨Nat.le_of_ble_eq_true rfl, Nat.le_of_ble_eq_true rfl⟩ ?_
        obtain rfl := Option.some.inj h
        exact z_iret X H.1 H.2.1 H.2.2.1 dd_PQ_mark_33
      · rw [if_neg q6] at h
        refine z_sub [] rfl ?_
        exact t_PQ_mark_22 X H h
theorem dd_PQ_put_0 : decode bb_PQ_put 0 = .ok (.aload_n 0, 1) := by decide +kernel
theorem dd_PQ_put_1 : decode bb_PQ_put 1 = .ok (.getfield 16, 3) := by decide +kernel
theorem dd_PQ_put_4 : decode bb_PQ_put 4 = .ok (.iload_n 1, 1) := by decide +kernel
theorem dd_PQ_put_5 : decode bb_PQ_put 5 = .ok (.invokevirtual 90, 3) := by decide +kernel
theorem dd_PQ_put_8 : decode bb_PQ_put 8 = .ok (.ifCond .eq 16, 3) := by decide +kernel
theorem dd_PQ_put_11 : decode bb_PQ_put 11 = .ok (.iload_n 2, 1) := by decide +kernel
theorem dd_PQ_put_12 : decode bb_PQ_put 12 = .ok (.ifCond .lt 12, 3) := by decide +kernel
theorem dd_PQ_put_15 : decode bb_PQ_put 15 = .ok (.iload_n 2, 1) := by decide +kernel
theorem dd_PQ_put_16 : decode bb_PQ_put 16 = .ok (.iconst 4, 1) := by decide +kernel
theorem dd_PQ_put_17 : decode bb_PQ_put 17 = .ok (.if_icmp .ge 7, 3) := by decide +kernel
theorem dd_PQ_put_20 : decode bb_PQ_put 20 = .ok (.iconst 1, 1) := by decide +kernel
theorem dd_PQ_put_21 : decode bb_PQ_put 21 = .ok (.goto 4, 3) := by decide +kernel
theorem dd_PQ_put_24 : decode bb_PQ_put 24 = .ok (.iconst 0, 1) := by decide +kernel
theorem dd_PQ_put_25 : decode bb_PQ_put 25 = .ok (.istore 4, 2) := by decide +kernel
theorem dd_PQ_put_27 : decode bb_PQ_put 27 = .ok (.iload 4, 2) := by decide +kernel
theorem dd_PQ_put_29 : decode bb_PQ_put 29 = .ok (.ifCond .eq 17, 3) := by decide +kernel
theorem dd_PQ_put_32 : decode bb_PQ_put 32 = .ok (.iload_n 3, 1) := by decide +kernel
theorem dd_PQ_put_33 : decode bb_PQ_put 33 = .ok (.sipush (-9999), 3) := by decide +kernel
theorem dd_PQ_put_36 : decode bb_PQ_put 36 = .ok (.if_icmp .lt 10, 3) := by decide +kernel
theorem dd_PQ_put_39 : decode bb_PQ_put 39 = .ok (.iload_n 3, 1) := by decide +kernel
theorem dd_PQ_put_40 : decode bb_PQ_put 40 = .ok (.sipush 9999, 3) := by decide +kernel
theorem dd_PQ_put_43 : decode bb_PQ_put 43 = .ok (.if_icmp .le 7, 3) := by decide +kernel
theorem dd_PQ_put_46 : decode bb_PQ_put 46 = .ok (.sipush 10000, 3) := by decide +kernel
theorem dd_PQ_put_49 : decode bb_PQ_put 49 = .ok (.ireturn, 1) := by decide +kernel
theorem dd_PQ_put_50 : decode bb_PQ_put 50 = .ok (.aload_n 0, 1) := by decide +kernel
theorem dd_PQ_put_51 : decode bb_PQ_put 51 = .ok (.getfield 16, 3) := by decide +kernel
theorem dd_PQ_put_54 : decode bb_PQ_put 54 = .ok (.iload_n 1, 1) := by decide +kernel
theorem dd_PQ_put_55 : decode bb_PQ_put 55 = .ok (.iload_n 2, 1) := by decide +kernel
theorem dd_PQ_put_56 : decode bb_PQ_put 56 = .ok (.iload_n 3, 1) := by decide +kernel
theorem dd_PQ_put_57 : decode bb_PQ_put 57 = .ok (.invokevirtual 98, 3) := by decide +kernel
theorem dd_PQ_put_60 : decode bb_PQ_put 60 = .ok (.ireturn, 1) := by decide +kernel
def f_PQ_put_46 (nf : Nat)  (c : Zc) : Option (Int32 × Zc) :=
  some (10000, c)
def f_PQ_put_25 (nf : Nat) (x0 : Nat) (x1 : Int32) (x2 : Int32) (x3 : Int32) (s0 : Int32) (c : Zc) : Option (Int32 × Zc) :=
  if s0 = 0 then (f_PQ_put_46 nf  c) else (if x3 < (-9999) then (f_PQ_put_46 nf  c) else (if x3 ≤ 9999 then ((zgr c x0 11 1).bind fun v8 => (zob c v8 0).bind fun w10 => (f_Graph_changeColumn nf v8 x1 x2 x3 c).bind fun q9 => some (q9.1, q9.2)) else (f_PQ_put_46 nf  c)))
def f_PQ_put_24 (nf : Nat) (x0 : Nat) (x1 : Int32) (x2 : Int32) (x3 : Int32) (c : Zc) : Option (Int32 × Zc) :=
  f_PQ_put_25 nf x0 x1 x2 x3 0 c
def f_PQ_put (nf : Nat) (a0 : Nat) (a1 : Int32) (a2 : Int32) (a3 : Int32) (c : Zc) : Option (Int32 × Zc) :=
  (zgr c a0 11 1).bind fun v1 => (zob c v1 0).bind fun w3 => (f_Graph_isNode nf v1 a1 c).bind fun q2 => if q2.1 = 0 then (f_PQ_put_24 nf a0 a1 a2 a3 q2.2) else (if a2 < 0 then (f_PQ_put_24 nf a0 a1 a2 a3 q2.2) else (if 4 ≤ a2 then (f_PQ_put_24 nf a0 a1 a2 a3 q2.2) else (f_PQ_put_25 nf a0 a1 a2 a3 1 q2.2)))
set_option maxRecDepth 100000 in
set_option maxHeartbeats 4000000 in
theorem t_PQ_put_46  (X : zX p s m args cd D cid B bb_PQ_put 5 rr_PQ zT) (H : zH s meth B n0 (some (.int)) "put") {nf : Nat}  {c : Zc} {res : Int32 × Zc} (h : f_PQ_put_46 nf  c = some res) : Zz p l e (zRm 1 24 0 0) s m args below meth cd (MQ below (zQi D cid B res.1 res.2 n0 0) args s 0 0 (fun q => B ≤ q)) D cid B 5 0 0 c 46 [] [] := by
  unfold f_PQ_put_46 at h
  refine z_sipush (v := 10000) X dd_PQ_put_46 (by decide) ?_
  obtain rfl := Option.some.inj h
  exact z_iret X H.1 H.2.1 H.2.2.1 dd_PQ_put_49
set_option maxRecDepth 100000 in
set_option maxHeartbeats 4000000 in
theorem t_PQ_put_25  (X : zX p s m args cd D cid B bb_PQ_put 5 rr_PQ zT) (H : zH s meth B n0 (some (.int)) "put") {nf : Nat} {x0 : Nat} {x1 : Int32} {x2 : Int32} {x3 : Int32} {s0 : Int32} {c : Zc} {res : Int32 × Zc} (h : f_PQ_put_25 nf x0 x1 x2 x3 s0 c = some res) : Zz p l e (zRm 1 24 0 0) s m args below meth cd (MQ below (zQi D cid B res.1 res.2 n0 0) args s 0 0 (fun q => B ≤ q)) D cid B 5 0 0 c 25 [(0, .ref x0), (1, .int x1), (2, .int x2), (3, .int x3)] [.int s0] := by
  unfold f_PQ_put_25 at h
  refine z_istore (lv' := [(4, .int s0), (0, .ref x0), (1, .int x1), (2, .int x2), (3, .int x3)]) X dd_PQ_put_25 (by decide) rfl ?_
  refine z_iload X dd_PQ_put_27 0 rfl ?_
  refine z_if_eq (tgt := 46) X dd_PQ_put_29 (by decide) (fun q5 => ?_) (fun q5 => ?_)
  · rw [if_pos q5] at h
    refine z_sub [] rfl ?_
    exact t_PQ_put_46 X H h
  · rw [if_neg q5] at h
    refine z_iload_n X dd_PQ_put_32 rfl 4 rfl ?_
    refine z_sipush (v := (-9999)) X dd_PQ_put_33 (by decide) ?_
    refine z_icmp_lt (tgt := 46) X dd_PQ_put_36 (by decide) (fun q6 => ?_) (fun q6 => ?_)
    · rw [if_pos q6] at h
      refine z_sub [] rfl ?_
      exact t_PQ_put_46 X H h
    · rw [if_neg q6] at h
      refine z_iload_n X dd_PQ_put_39 rfl 4 rfl ?_
      refine z_sipush (v := 9999) X dd_PQ_put_40 (by decide) ?_
      refine z_icmp_le (tgt := 50) X dd_PQ_put_43 (by decide) (fun q7 => ?_) (fun q7 => ?_)
      · rw [if_pos q7] at h
        refine z_aload_n X dd_PQ_put_50 rfl 1 rfl ?_
        obtain ⟨v8, ev8, h⟩ := zb h
        refine z_get (j := 1) X dd_PQ_put_51 kc_11 ki_11 (by decide) km_690 (zgr_v ev8) ?_
        refine z_iload_n X dd_PQ_put_54 rfl 2 rfl ?_
        refine z_iload_n X dd_PQ_put_55 rfl 3 rfl ?_
        refine z_iload_n X dd_PQ_put_56 rfl 4 rfl ?_
        obtain ⟨w10, ew10, h⟩ := zb h
        obtain ⟨q9, eq9, h⟩ := zb h
        refine z_callVi X [.int x1, .int x2, .int x3] rfl dd_PQ_put_57 (c_Graph_changeColumn l eq9) (cwV 3 X.1.2.2.2.2 (zg_V km_759 km_760 km_761 km_126 km_762) rfl rfl rfl (by decide +kernel) ⟨Nat.le_of_ble_eq_true rfl, Nat.le_of_ble_eq_true rfl⟩) (zob_s ew10) kc_0 rfl (Nat.le_of_ble_eq_true rfl) ⟨Nat.le_of_ble_eq_true rfl, Nat.le_of_ble_eq_true rfl⟩ ?_
        obtain rfl := Option.some.inj h
        exact z_iret X H.1 H.2.1 H.2.2.1 dd_PQ_put_60
      · rw [if_neg q7] at h
        refine z_sub [] rfl ?_
        exact t_PQ_put_46 X H h
set_option maxRecDepth 100000 in
set_option maxHeartbeats 4000000 in
theorem t_PQ_put_24  (X : zX p s m args cd D cid B bb_PQ_put 5 rr_PQ zT) (H : zH s meth B n0 (some (.int)) "put") {nf : Nat} {x0 : Nat} {x1 : Int32} {x2 : Int32} {x3 : Int32} {c : Zc} {res : Int32 × Zc} (h : f_PQ_put_24 nf x0 x1 x2 x3 c = some res) : Zz p l e (zRm 1 24 0 0) s m args below meth cd (MQ below (zQi D cid B res.1 res.2 n0 0) args s 0 0 (fun q => B ≤ q)) D cid B 5 0 0 c 24 [(0, .ref x0), (1, .int x1), (2, .int x2), (3, .int x3)] [] := by
  unfold f_PQ_put_24 at h
  refine z_iconst (v := 0) X dd_PQ_put_24 (by decide) ?_
  exact t_PQ_put_25 X H h
set_option maxRecDepth 100000 in
set_option maxHeartbeats 4000000 in
theorem c_PQ_put (l : Launch) {nf : Nat} {a0 : Nat} {a1 : Int32} {a2 : Int32} {a3 : Int32} {c : Zc} {res : Int32 × Zc} (h : f_PQ_put nf a0 a1 a2 a3 c = some res) : zM l yy_PQ_put ww_PQ_put 1 24 0 0 [.ref a0, .int a1, .int a2, .int a3] c (fun D cid B => zQi D cid B res.1 res.2 c.length 0) := by
  refine z_met (cc := bb_PQ_put) (maxL := 5) (ret := (some (.int))) (by decide +kernel) rfl (Nat.le_of_ble_eq_true rfl) ?_
  intro p e s m args below meth cd D cid B X h1 h2 h3 h4
  have X : zX p s m args cd D cid B bb_PQ_put 5 rr_PQ zT := X
  have H : zH s meth B c.length (some (.int)) "put" := ⟨h1, h2, h4, h3⟩
  unfold f_PQ_put at h
  show Zz p l e (zRm 1 24 0 0) s m args below meth cd _ D cid B 5 0 0 c 0 [(0, .ref a0), (1, .int a1), (2, .int a2), (3, .int a3)] []
  refine z_aload_n X dd_PQ_put_0 rfl 0 rfl ?_
  obtain ⟨v1, ev1, h⟩ := zb h
  refine z_get (j := 1) X dd_PQ_put_1 kc_11 ki_11 (by decide) km_690 (zgr_v ev1) ?_
  refine z_iload_n X dd_PQ_put_4 rfl 1 rfl ?_
  obtain ⟨w3, ew3, h⟩ := zb h
  obtain ⟨q2, eq2, h⟩ := zb h
  refine z_callVi X [.int a1] rfl dd_PQ_put_5 (c_Graph_isNode l eq2) (cwV 1 X.1.2.2.2.2 (zg_V km_747 km_748 km_749 km_126 km_750) rfl rfl rfl (by decide +kernel) ⟨Nat.le_of_ble_eq_true rfl, Nat.le_of_ble_eq_true rfl⟩) (zob_s ew3) kc_0 rfl (Nat.le_of_ble_eq_true rfl) ⟨Nat.le_of_ble_eq_true rfl, Nat.le_of_ble_eq_true rfl⟩ ?_
  refine z_if_eq (tgt := 24) X dd_PQ_put_8 (by decide) (fun q4 => ?_) (fun q4 => ?_)
  · rw [if_pos q4] at h
    exact t_PQ_put_24 X H h
  · rw [if_neg q4] at h
    refine z_iload_n X dd_PQ_put_11 rfl 2 rfl ?_
    refine z_if_lt (tgt := 24) X dd_PQ_put_12 (by decide) (fun q11 => ?_) (fun q11 => ?_)
    · rw [if_pos q11] at h
      exact t_PQ_put_24 X H h
    · rw [if_neg q11] at h
      refine z_iload_n X dd_PQ_put_15 rfl 2 rfl ?_
      refine z_iconst (v := 4) X dd_PQ_put_16 (by decide) ?_
      refine z_icmp_ge (tgt := 24) X dd_PQ_put_17 (by decide) (fun q12 => ?_) (fun q12 => ?_)
      · rw [if_pos q12] at h
        exact t_PQ_put_24 X H h
      · rw [if_neg q12] at h
        refine z_iconst (v := 1) X dd_PQ_put_20 (by decide) ?_
        refine z_goto (tgt := 25) X dd_PQ_put_21 (by decide) ?_
        exact t_PQ_put_25 X H h
theorem dd_PQ_arc_0 : decode bb_PQ_arc 0 = .ok (.aload_n 0, 1) := by decide +kernel
theorem dd_PQ_arc_1 : decode bb_PQ_arc 1 = .ok (.getfield 16, 3) := by decide +kernel
theorem dd_PQ_arc_4 : decode bb_PQ_arc 4 = .ok (.iload_n 1, 1) := by decide +kernel
theorem dd_PQ_arc_5 : decode bb_PQ_arc 5 = .ok (.invokevirtual 90, 3) := by decide +kernel
theorem dd_PQ_arc_8 : decode bb_PQ_arc 8 = .ok (.ifCond .eq 28, 3) := by decide +kernel
theorem dd_PQ_arc_11 : decode bb_PQ_arc 11 = .ok (.aload_n 0, 1) := by decide +kernel
theorem dd_PQ_arc_12 : decode bb_PQ_arc 12 = .ok (.getfield 16, 3) := by decide +kernel
theorem dd_PQ_arc_15 : decode bb_PQ_arc 15 = .ok (.iload_n 2, 1) := by decide +kernel
theorem dd_PQ_arc_16 : decode bb_PQ_arc 16 = .ok (.invokevirtual 90, 3) := by decide +kernel
theorem dd_PQ_arc_19 : decode bb_PQ_arc 19 = .ok (.ifCond .eq 17, 3) := by decide +kernel
theorem dd_PQ_arc_22 : decode bb_PQ_arc 22 = .ok (.iload_n 3, 1) := by decide +kernel
theorem dd_PQ_arc_23 : decode bb_PQ_arc 23 = .ok (.ifCond .lt 13, 3) := by decide +kernel
theorem dd_PQ_arc_26 : decode bb_PQ_arc 26 = .ok (.iload_n 3, 1) := by decide +kernel
theorem dd_PQ_arc_27 : decode bb_PQ_arc 27 = .ok (.bipush 8, 2) := by decide +kernel
theorem dd_PQ_arc_29 : decode bb_PQ_arc 29 = .ok (.if_icmp .ge 7, 3) := by decide +kernel
theorem dd_PQ_arc_32 : decode bb_PQ_arc 32 = .ok (.iconst 1, 1) := by decide +kernel
theorem dd_PQ_arc_33 : decode bb_PQ_arc 33 = .ok (.goto 4, 3) := by decide +kernel
theorem dd_PQ_arc_36 : decode bb_PQ_arc 36 = .ok (.iconst 0, 1) := by decide +kernel
theorem dd_PQ_arc_37 : decode bb_PQ_arc 37 = .ok (.istore 5, 2) := by decide +kernel
theorem dd_PQ_arc_39 : decode bb_PQ_arc 39 = .ok (.iload 5, 2) := by decide +kernel
theorem dd_PQ_arc_41 : decode bb_PQ_arc 41 = .ok (.ifCond .eq 15, 3) := by decide +kernel
theorem dd_PQ_arc_44 : decode bb_PQ_arc 44 = .ok (.iload 4, 2) := by decide +kernel
theorem dd_PQ_arc_46 : decode bb_PQ_arc 46 = .ok (.ifCond .lt 10, 3) := by decide +kernel
theorem dd_PQ_arc_49 : decode bb_PQ_arc 49 = .ok (.iload 4, 2) := by decide +kernel
theorem dd_PQ_arc_51 : decode bb_PQ_arc 51 = .ok (.bipush 99, 2) := by decide +kernel
theorem dd_PQ_arc_53 : decode bb_PQ_arc 53 = .ok (.if_icmp .le 5, 3) := by decide +kernel
theorem dd_PQ_arc_56 : decode bb_PQ_arc 56 = .ok (.iconst (-1), 1) := by decide +kernel
theorem dd_PQ_arc_57 : decode bb_PQ_arc 57 = .ok (.ireturn, 1) := by decide +kernel
theorem dd_PQ_arc_58 : decode bb_PQ_arc 58 = .ok (.aload_n 0, 1) := by decide +kernel
theorem dd_PQ_arc_59 : decode bb_PQ_arc 59 = .ok (.getfield 16, 3) := by decide +kernel
theorem dd_PQ_arc_62 : decode bb_PQ_arc 62 = .ok (.iload_n 1, 1) := by decide +kernel
theorem dd_PQ_arc_63 : decode bb_PQ_arc 63 = .ok (.iload_n 2, 1) := by decide +kernel
theorem dd_PQ_arc_64 : decode bb_PQ_arc 64 = .ok (.iload_n 3, 1) := by decide +kernel
theorem dd_PQ_arc_65 : decode bb_PQ_arc 65 = .ok (.iload 4, 2) := by decide +kernel
theorem dd_PQ_arc_67 : decode bb_PQ_arc 67 = .ok (.invokevirtual 102, 3) := by decide +kernel
theorem dd_PQ_arc_70 : decode bb_PQ_arc 70 = .ok (.ireturn, 1) := by decide +kernel
def f_PQ_arc_56 (nf : Nat)  (c : Zc) : Option (Int32 × Zc) :=
  some ((-1), c)
def f_PQ_arc_37 (nf : Nat) (x0 : Nat) (x1 : Int32) (x2 : Int32) (x3 : Int32) (x4 : Int32) (s0 : Int32) (c : Zc) : Option (Int32 × Zc) :=
  if s0 = 0 then (f_PQ_arc_56 nf  c) else (if x4 < 0 then (f_PQ_arc_56 nf  c) else (if x4 ≤ 99 then ((zgr c x0 11 1).bind fun v8 => (zob c v8 0).bind fun w10 => (f_Graph_addArc nf v8 x1 x2 x3 x4 c).bind fun q9 => some (q9.1, q9.2)) else (f_PQ_arc_56 nf  c)))
def f_PQ_arc_36 (nf : Nat) (x0 : Nat) (x1 : Int32) (x2 : Int32) (x3 : Int32) (x4 : Int32) (c : Zc) : Option (Int32 × Zc) :=
  f_PQ_arc_37 nf x0 x1 x2 x3 x4 0 c
def f_PQ_arc (nf : Nat) (a0 : Nat) (a1 : Int32) (a2 : Int32) (a3 : Int32) (a4 : Int32) (c : Zc) : Option (Int32 × Zc) :=
  (zgr c a0 11 1).bind fun v1 => (zob c v1 0).bind fun w3 => (f_Graph_isNode nf v1 a1 c).bind fun q2 => if q2.1 = 0 then (f_PQ_arc_36 nf a0 a1 a2 a3 a4 q2.2) else ((zgr q2.2 a0 11 1).bind fun v11 => (zob q2.2 v11 0).bind fun w13 => (f_Graph_isNode nf v11 a2 q2.2).bind fun q12 => if q12.1 = 0 then (f_PQ_arc_36 nf a0 a1 a2 a3 a4 q12.2) else (if a3 < 0 then (f_PQ_arc_36 nf a0 a1 a2 a3 a4 q12.2) else (if 8 ≤ a3 then (f_PQ_arc_36 nf a0 a1 a2 a3 a4 q12.2) else (f_PQ_arc_37 nf a0 a1 a2 a3 a4 1 q12.2))))
set_option maxRecDepth 100000 in
set_option maxHeartbeats 4000000 in
theorem t_PQ_arc_56  (X : zX p s m args cd D cid B bb_PQ_arc 6 rr_PQ zT) (H : zH s meth B n0 (some (.int)) "arc") {nf : Nat}  {c : Zc} {res : Int32 × Zc} (h : f_PQ_arc_56 nf  c = some res) : Zz p l e (zRm 1 25 0 0) s m args below meth cd (MQ below (zQi D cid B res.1 res.2 n0 0) args s 0 0 (fun q => B ≤ q)) D cid B 6 0 0 c 56 [] [] := by
  unfold f_PQ_arc_56 at h
  refine z_iconst (v := (-1)) X dd_PQ_arc_56 (by decide) ?_
  obtain rfl := Option.some.inj h
  exact z_iret X H.1 H.2.1 H.2.2.1 dd_PQ_arc_57
set_option maxRecDepth 100000 in
set_option maxHeartbeats 4000000 in
theorem t_PQ_arc_37  (X : zX p s m args cd D cid B bb_PQ_arc 6 rr_PQ zT) (H : zH s meth B n0 (some (.int)) "arc") {nf : Nat} {x0 : Nat} {x1 : Int32} {x2 : Int32} {x3 : Int32} {x4 : Int32} {s0 : Int32} {c : Zc} {res : Int32 × Zc} (h : f_PQ_arc_37 nf x0 x1 x2 x3 x4 s0 c = some res) : Zz p l e (zRm 1 25 0 0) s m args below meth cd (MQ below (zQi D cid B res.1 res.2 n0 0) args s 0 0 (fun q => B ≤ q)) D cid B 6 0 0 c 37 [(0, .ref x0), (1, .int x1), (2, .int x2), (3, .int x3), (4, .int x4)] [.int s0] := by
  unfold f_PQ_arc_37 at h
  refine z_istore (lv' := [(5, .int s0), (0, .ref x0), (1, .int x1), (2, .int x2), (3, .int x3), (4, .int x4)]) X dd_PQ_arc_37 (by decide) rfl ?_
  refine z_iload X dd_PQ_arc_39 0 rfl ?_
  refine z_if_eq (tgt := 56) X dd_PQ_arc_41 (by decide) (fun q5 => ?_) (fun q5 => ?_)
  · rw [if_pos q5] at h
    refine z_sub [] rfl ?_
    exact t_PQ_arc_56 X H h
  · rw [if_neg q5] at h
    refine z_iload X dd_PQ_arc_44 5 rfl ?_
    refine z_if_lt (tgt := 56) X dd_PQ_arc_46 (by decide) (fun q6 => ?_) (fun q6 => ?_)
    · rw [if_pos q6] at h
      refine z_sub [] rfl ?_
      exact t_PQ_arc_56 X H h
    · rw [if_neg q6] at h
      refine z_iload X dd_PQ_arc_49 5 rfl ?_
      refine z_bipush (v := 99) X dd_PQ_arc_51 (by decide) ?_
      refine z_icmp_le (tgt := 58) X dd_PQ_arc_53 (by decide) (fun q7 => ?_) (fun q7 => ?_)
      · rw [if_pos q7] at h
        refine z_aload_n X dd_PQ_arc_58 rfl 1 rfl ?_
        obtain ⟨v8, ev8, h⟩ := zb h
        refine z_get (j := 1) X dd_PQ_arc_59 kc_11 ki_11 (by decide) km_690 (zgr_v ev8) ?_
        refine z_iload_n X dd_PQ_arc_62 rfl 2 rfl ?_
        refine z_iload_n X dd_PQ_arc_63 rfl 3 rfl ?_
        refine z_iload_n X dd_PQ_arc_64 rfl 4 rfl ?_
        refine z_iload X dd_PQ_arc_65 5 rfl ?_
        obtain ⟨w10, ew10, h⟩ := zb h
        obtain ⟨q9, eq9, h⟩ := zb h
        refine z_callVi X [.int x1, .int x2, .int x3, .int x4] rfl dd_PQ_arc_67 (c_Graph_addArc l eq9) (cwV 4 X.1.2.2.2.2 (zg_V km_767 km_768 km_769 km_126 km_770) rfl rfl rfl (by decide +kernel) ⟨Nat.le_of_ble_eq_true rfl, Nat.le_of_ble_eq_true rfl⟩) (zob_s ew10) kc_0 rfl (Nat.le_of_ble_eq_true rfl) ⟨Nat.le_of_ble_eq_true rfl, Nat.le_of_ble_eq_true rfl⟩ ?_
        obtain rfl := Option.some.inj h
        exact z_iret X H.1 H.2.1 H.2.2.1 dd_PQ_arc_70
      · rw [if_neg q7] at h
        refine z_sub [] rfl ?_
        exact t_PQ_arc_56 X H h
set_option maxRecDepth 100000 in
set_option maxHeartbeats 4000000 in
theorem t_PQ_arc_36  (X : zX p s m args cd D cid B bb_PQ_arc 6 rr_PQ zT) (H : zH s meth B n0 (some (.int)) "arc") {nf : Nat} {x0 : Nat} {x1 : Int32} {x2 : Int32} {x3 : Int32} {x4 : Int32} {c : Zc} {res : Int32 × Zc} (h : f_PQ_arc_36 nf x0 x1 x2 x3 x4 c = some res) : Zz p l e (zRm 1 25 0 0) s m args below meth cd (MQ below (zQi D cid B res.1 res.2 n0 0) args s 0 0 (fun q => B ≤ q)) D cid B 6 0 0 c 36 [(0, .ref x0), (1, .int x1), (2, .int x2), (3, .int x3), (4, .int x4)] [] := by
  unfold f_PQ_arc_36 at h
  refine z_iconst (v := 0) X dd_PQ_arc_36 (by decide) ?_
  exact t_PQ_arc_37 X H h
set_option maxRecDepth 100000 in
set_option maxHeartbeats 4000000 in
theorem c_PQ_arc (l : Launch) {nf : Nat} {a0 : Nat} {a1 : Int32} {a2 : Int32} {a3 : Int32} {a4 : Int32} {c : Zc} {res : Int32 × Zc} (h : f_PQ_arc nf a0 a1 a2 a3 a4 c = some res) : zM l yy_PQ_arc ww_PQ_arc 1 25 0 0 [.ref a0, .int a1, .int a2, .int a3, .int a4] c (fun D cid B => zQi D cid B res.1 res.2 c.length 0) := by
  refine z_met (cc := bb_PQ_arc) (maxL := 6) (ret := (some (.int))) (by decide +kernel) rfl (Nat.le_of_ble_eq_true rfl) ?_
  intro p e s m args below meth cd D cid B X h1 h2 h3 h4
  have X : zX p s m args cd D cid B bb_PQ_arc 6 rr_PQ zT := X
  have H : zH s meth B c.length (some (.int)) "arc" := ⟨h1, h2, h4, h3⟩
  unfold f_PQ_arc at h
  show Zz p l e (zRm 1 25 0 0) s m args below meth cd _ D cid B 6 0 0 c 0 [(0, .ref a0), (1, .int a1), (2, .int a2), (3, .int a3), (4, .int a4)] []
  refine z_aload_n X dd_PQ_arc_0 rfl 0 rfl ?_
  obtain ⟨v1, ev1, h⟩ := zb h
  refine z_get (j := 1) X dd_PQ_arc_1 kc_11 ki_11 (by decide) km_690 (zgr_v ev1) ?_
  refine z_iload_n X dd_PQ_arc_4 rfl 1 rfl ?_
  obtain ⟨w3, ew3, h⟩ := zb h
  obtain ⟨q2, eq2, h⟩ := zb h
  refine z_callVi X [.int a1] rfl dd_PQ_arc_5 (c_Graph_isNode l eq2) (cwV 1 X.1.2.2.2.2 (zg_V km_747 km_748 km_749 km_126 km_750) rfl rfl rfl (by decide +kernel) ⟨Nat.le_of_ble_eq_true rfl, Nat.le_of_ble_eq_true rfl⟩) (zob_s ew3) kc_0 rfl (Nat.le_of_ble_eq_true rfl) ⟨Nat.le_of_ble_eq_true rfl, Nat.le_of_ble_eq_true rfl⟩ ?_
  refine z_if_eq (tgt := 36) X dd_PQ_arc_8 (by decide) (fun q4 => ?_) (fun q4 => ?_)
  · rw [if_pos q4] at h
    exact t_PQ_arc_36 X H h
  · rw [if_neg q4] at h
    refine z_aload_n X dd_PQ_arc_11 rfl 0 rfl ?_
    obtain ⟨v11, ev11, h⟩ := zb h
    refine z_get (j := 1) X dd_PQ_arc_12 kc_11 ki_11 (by decide) km_690 (zgr_v ev11) ?_
    refine z_iload_n X dd_PQ_arc_15 rfl 2 rfl ?_
    obtain ⟨w13, ew13, h⟩ := zb h
    obtain ⟨q12, eq12, h⟩ := zb h
    refine z_callVi X [.int a2] rfl dd_PQ_arc_16 (c_Graph_isNode l eq12) (cwV 1 X.1.2.2.2.2 (zg_V km_747 km_748 km_749 km_126 km_750) rfl rfl rfl (by decide +kernel) ⟨Nat.le_of_ble_eq_true rfl, Nat.le_of_ble_eq_true rfl⟩) (zob_s ew13) kc_0 rfl (Nat.le_of_ble_eq_true rfl) ⟨Nat.le_of_ble_eq_true rfl, Nat.le_of_ble_eq_true rfl⟩ ?_
    refine z_if_eq (tgt := 36) X dd_PQ_arc_19 (by decide) (fun q14 => ?_) (fun q14 => ?_)
    · rw [if_pos q14] at h
      exact t_PQ_arc_36 X H h
    · rw [if_neg q14] at h
      refine z_iload_n X dd_PQ_arc_22 rfl 3 rfl ?_
      refine z_if_lt (tgt := 36) X dd_PQ_arc_23 (by decide) (fun q15 => ?_) (fun q15 => ?_)
      · rw [if_pos q15] at h
        exact t_PQ_arc_36 X H h
      · rw [if_neg q15] at h
        refine z_iload_n X dd_PQ_arc_26 rfl 3 rfl ?_
        refine z_bipush (v := 8) X dd_PQ_arc_27 (by decide) ?_
        refine z_icmp_ge (tgt := 36) X dd_PQ_arc_29 (by decide) (fun q16 => ?_) (fun q16 => ?_)
        · rw [if_pos q16] at h
          exact t_PQ_arc_36 X H h
        · rw [if_neg q16] at h
          refine z_iconst (v := 1) X dd_PQ_arc_32 (by decide) ?_
          refine z_goto (tgt := 37) X dd_PQ_arc_33 (by decide) ?_
          exact t_PQ_arc_37 X H h
theorem dd_PQ_drop_0 : decode bb_PQ_drop 0 = .ok (.aload_n 0, 1) := by decide +kernel
theorem dd_PQ_drop_1 : decode bb_PQ_drop 1 = .ok (.getfield 16, 3) := by decide +kernel
theorem dd_PQ_drop_4 : decode bb_PQ_drop 4 = .ok (.iload_n 1, 1) := by decide +kernel
theorem dd_PQ_drop_5 : decode bb_PQ_drop 5 = .ok (.invokevirtual 106, 3) := by decide +kernel
theorem dd_PQ_drop_8 : decode bb_PQ_drop 8 = .ok (.ifCond .ne 5, 3) := by decide +kernel
theorem dd_PQ_drop_11 : decode bb_PQ_drop 11 = .ok (.iconst (-1), 1) := by decide +kernel
theorem dd_PQ_drop_12 : decode bb_PQ_drop 12 = .ok (.ireturn, 1) := by decide +kernel
theorem dd_PQ_drop_13 : decode bb_PQ_drop 13 = .ok (.aload_n 0, 1) := by decide +kernel
theorem dd_PQ_drop_14 : decode bb_PQ_drop 14 = .ok (.getfield 16, 3) := by decide +kernel
theorem dd_PQ_drop_17 : decode bb_PQ_drop 17 = .ok (.iload_n 1, 1) := by decide +kernel
theorem dd_PQ_drop_18 : decode bb_PQ_drop 18 = .ok (.invokevirtual 109, 3) := by decide +kernel
theorem dd_PQ_drop_21 : decode bb_PQ_drop 21 = .ok (.aload_n 0, 1) := by decide +kernel
theorem dd_PQ_drop_22 : decode bb_PQ_drop 22 = .ok (.getfield 16, 3) := by decide +kernel
theorem dd_PQ_drop_25 : decode bb_PQ_drop 25 = .ok (.getfield 112, 3) := by decide +kernel
theorem dd_PQ_drop_28 : decode bb_PQ_drop 28 = .ok (.ireturn, 1) := by decide +kernel
def f_PQ_drop (nf : Nat) (a0 : Nat) (a1 : Int32) (c : Zc) : Option (Int32 × Zc) :=
  (zgr c a0 11 1).bind fun v1 => (zob c v1 0).bind fun w3 => (f_Graph_isArc nf v1 a1 c).bind fun q2 => if q2.1 = 0 then (some ((-1), q2.2)) else ((zgr q2.2 a0 11 1).bind fun v5 => (zob q2.2 v5 0).bind fun w7 => (f_Graph_removeArc nf v5 a1 q2.2).bind fun q6 => (zgr q6 a0 11 1).bind fun v8 => (zgi q6 v8 0 8).bind fun v9 => some (v9, q6))
set_option maxRecDepth 100000 in
set_option maxHeartbeats 4000000 in
theorem c_PQ_drop (l : Launch) {nf : Nat} {a0 : Nat} {a1 : Int32} {c : Zc} {res : Int32 × Zc} (h : f_PQ_drop nf a0 a1 c = some res) : zM l yy_PQ_drop ww_PQ_drop 1 21 0 0 [.ref a0, .int a1] c (fun D cid B => zQi D cid B res.1 res.2 c.length 0) := by
  refine z_met (cc := bb_PQ_drop) (maxL := 2) (ret := (some (.int))) (by decide +kernel) rfl (Nat.le_of_ble_eq_true rfl) ?_
  intro p e s m args below meth cd D cid B X h1 h2 h3 h4
  have X : zX p s m args cd D cid B bb_PQ_drop 2 rr_PQ zT := X
  have H : zH s meth B c.length (some (.int)) "drop" := ⟨h1, h2, h4, h3⟩
  unfold f_PQ_drop at h
  show Zz p l e (zRm 1 21 0 0) s m args below meth cd _ D cid B 2 0 0 c 0 [(0, .ref a0), (1, .int a1)] []
  refine z_aload_n X dd_PQ_drop_0 rfl 0 rfl ?_
  obtain ⟨v1, ev1, h⟩ := zb h
  refine z_get (j := 1) X dd_PQ_drop_1 kc_11 ki_11 (by decide) km_690 (zgr_v ev1) ?_
  refine z_iload_n X dd_PQ_drop_4 rfl 1 rfl ?_
  obtain ⟨w3, ew3, h⟩ := zb h
  obtain ⟨q2, eq2, h⟩ := zb h
  refine z_callVi X [.int a1] rfl dd_PQ_drop_5 (c_Graph_isArc l eq2) (cwV 1 X.1.2.2.2.2 (zg_V km_775 km_776 km_777 km_126 km_778) rfl rfl rfl (by decide +kernel) ⟨Nat.le_of_ble_eq_true rfl, Nat.le_of_ble_eq_true rfl⟩) (zob_s ew3) kc_0 rfl (Nat.le_of_ble_eq_true rfl) ⟨Nat.le_of_ble_eq_true rfl, Nat.le_of_ble_eq_true rfl⟩ ?_
  refine z_if_ne (tgt := 13) X dd_PQ_drop_8 (by decide) (fun q4 => ?_) (fun q4 => ?_)
  · rw [if_neg q4] at h
    refine z_aload_n X dd_PQ_drop_13 rfl 0 rfl ?_
    obtain ⟨v5, ev5, h⟩ := zb h
    refine z_get (j := 1) X dd_PQ_drop_14 kc_11 ki_11 (by decide) km_690 (zgr_v ev5) ?_
    refine z_iload_n X dd_PQ_drop_17 rfl 1 rfl ?_
    obtain ⟨w7, ew7, h⟩ := zb h
    obtain ⟨q6, eq6, h⟩ := zb h
    refine z_callVv X [.int a1] rfl dd_PQ_drop_18 (c_Graph_removeArc l eq6) (cwV 1 X.1.2.2.2.2 (zg_V km_779 km_780 km_781 km_126 km_782) rfl rfl rfl (by decide +kernel) ⟨Nat.le_of_ble_eq_true rfl, Nat.le_of_ble_eq_true rfl⟩) (zob_s ew7) kc_0 rfl (Nat.le_of_ble_eq_true rfl) ⟨Nat.le_of_ble_eq_true rfl, Nat.le_of_ble_eq_true rfl⟩ ?_
    refine z_aload_n X dd_PQ_drop_21 rfl 0 rfl ?_
    obtain ⟨v8, ev8, h⟩ := zb h
    refine z_get (j := 1) X dd_PQ_drop_22 kc_11 ki_11 (by decide) km_690 (zgr_v ev8) ?_
    obtain ⟨v9, ev9, h⟩ := zb h
    refine z_get (j := 8) X dd_PQ_drop_25 kc_0 ki_0 (by decide) km_179 (zgi_v ev9) ?_
    obtain rfl := Option.some.inj h
    exact z_iret X H.1 H.2.1 H.2.2.1 dd_PQ_drop_28
  · rw [if_pos q4] at h
    refine z_iconst (v := (-1)) X dd_PQ_drop_11 (by decide) ?_
    obtain rfl := Option.some.inj h
    exact z_iret X H.1 H.2.1 H.2.2.1 dd_PQ_drop_12
theorem dd_PQ_told_0 : decode bb_PQ_told 0 = .ok (.iload_n 1, 1) := by decide +kernel
theorem dd_PQ_told_1 : decode bb_PQ_told 1 = .ok (.ifCond .ne 11, 3) := by decide +kernel
theorem dd_PQ_told_4 : decode bb_PQ_told 4 = .ok (.aload_n 0, 1) := by decide +kernel
theorem dd_PQ_told_5 : decode bb_PQ_told 5 = .ok (.getfield 16, 3) := by decide +kernel
theorem dd_PQ_told_8 : decode bb_PQ_told 8 = .ok (.getfield 115, 3) := by decide +kernel
theorem dd_PQ_told_11 : decode bb_PQ_told 11 = .ok (.ireturn, 1) := by decide +kernel
theorem dd_PQ_told_12 : decode bb_PQ_told 12 = .ok (.iload_n 1, 1) := by decide +kernel
theorem dd_PQ_told_13 : decode bb_PQ_told 13 = .ok (.iconst 1, 1) := by decide +kernel
theorem dd_PQ_told_14 : decode bb_PQ_told 14 = .ok (.if_icmp .ne 11, 3) := by decide +kernel
theorem dd_PQ_told_17 : decode bb_PQ_told 17 = .ok (.aload_n 0, 1) := by decide +kernel
theorem dd_PQ_told_18 : decode bb_PQ_told 18 = .ok (.getfield 16, 3) := by decide +kernel
theorem dd_PQ_told_21 : decode bb_PQ_told 21 = .ok (.getfield 112, 3) := by decide +kernel
theorem dd_PQ_told_24 : decode bb_PQ_told 24 = .ok (.ireturn, 1) := by decide +kernel
theorem dd_PQ_told_25 : decode bb_PQ_told 25 = .ok (.iload_n 1, 1) := by decide +kernel
theorem dd_PQ_told_26 : decode bb_PQ_told 26 = .ok (.iconst 2, 1) := by decide +kernel
theorem dd_PQ_told_27 : decode bb_PQ_told 27 = .ok (.if_icmp .ne 11, 3) := by decide +kernel
theorem dd_PQ_told_30 : decode bb_PQ_told 30 = .ok (.aload_n 0, 1) := by decide +kernel
theorem dd_PQ_told_31 : decode bb_PQ_told 31 = .ok (.getfield 50, 3) := by decide +kernel
theorem dd_PQ_told_34 : decode bb_PQ_told 34 = .ok (.invokevirtual 118, 3) := by decide +kernel
theorem dd_PQ_told_37 : decode bb_PQ_told 37 = .ok (.ireturn, 1) := by decide +kernel
theorem dd_PQ_told_38 : decode bb_PQ_told 38 = .ok (.iload_n 1, 1) := by decide +kernel
theorem dd_PQ_told_39 : decode bb_PQ_told 39 = .ok (.iconst 3, 1) := by decide +kernel
theorem dd_PQ_told_40 : decode bb_PQ_told 40 = .ok (.if_icmp .lt 30, 3) := by decide +kernel
theorem dd_PQ_told_43 : decode bb_PQ_told 43 = .ok (.iload_n 1, 1) := by decide +kernel
theorem dd_PQ_told_44 : decode bb_PQ_told 44 = .ok (.bipush 9, 2) := by decide +kernel
theorem dd_PQ_told_46 : decode bb_PQ_told 46 = .ok (.if_icmp .gt 24, 3) := by decide +kernel
theorem dd_PQ_told_49 : decode bb_PQ_told 49 = .ok (.aload_n 0, 1) := by decide +kernel
theorem dd_PQ_told_50 : decode bb_PQ_told 50 = .ok (.getfield 16, 3) := by decide +kernel
theorem dd_PQ_told_53 : decode bb_PQ_told 53 = .ok (.iload_n 2, 1) := by decide +kernel
theorem dd_PQ_told_54 : decode bb_PQ_told 54 = .ok (.invokevirtual 90, 3) := by decide +kernel
theorem dd_PQ_told_57 : decode bb_PQ_told 57 = .ok (.ifCond .eq 13, 3) := by decide +kernel
theorem dd_PQ_told_60 : decode bb_PQ_told 60 = .ok (.aload_n 0, 1) := by decide +kernel
theorem dd_PQ_told_61 : decode bb_PQ_told 61 = .ok (.getfield 16, 3) := by decide +kernel
theorem dd_PQ_told_64 : decode bb_PQ_told 64 = .ok (.iload_n 1, 1) := by decide +kernel
theorem dd_PQ_told_65 : decode bb_PQ_told 65 = .ok (.iload_n 2, 1) := by decide +kernel
theorem dd_PQ_told_66 : decode bb_PQ_told 66 = .ok (.invokevirtual 122, 3) := by decide +kernel
theorem dd_PQ_told_69 : decode bb_PQ_told 69 = .ok (.ireturn, 1) := by decide +kernel
theorem dd_PQ_told_70 : decode bb_PQ_told 70 = .ok (.iload_n 1, 1) := by decide +kernel
theorem dd_PQ_told_71 : decode bb_PQ_told 71 = .ok (.bipush 10, 2) := by decide +kernel
theorem dd_PQ_told_73 : decode bb_PQ_told 73 = .ok (.if_icmp .lt 30, 3) := by decide +kernel
theorem dd_PQ_told_76 : decode bb_PQ_told 76 = .ok (.iload_n 1, 1) := by decide +kernel
theorem dd_PQ_told_77 : decode bb_PQ_told 77 = .ok (.bipush 13, 2) := by decide +kernel
theorem dd_PQ_told_79 : decode bb_PQ_told 79 = .ok (.if_icmp .gt 24, 3) := by decide +kernel
theorem dd_PQ_told_82 : decode bb_PQ_told 82 = .ok (.aload_n 0, 1) := by decide +kernel
theorem dd_PQ_told_83 : decode bb_PQ_told 83 = .ok (.getfield 16, 3) := by decide +kernel
theorem dd_PQ_told_86 : decode bb_PQ_told 86 = .ok (.iload_n 2, 1) := by decide +kernel
theorem dd_PQ_told_87 : decode bb_PQ_told 87 = .ok (.invokevirtual 106, 3) := by decide +kernel
theorem dd_PQ_told_90 : decode bb_PQ_told 90 = .ok (.ifCond .eq 13, 3) := by decide +kernel
theorem dd_PQ_told_93 : decode bb_PQ_told 93 = .ok (.aload_n 0, 1) := by decide +kernel
theorem dd_PQ_told_94 : decode bb_PQ_told 94 = .ok (.getfield 16, 3) := by decide +kernel
theorem dd_PQ_told_97 : decode bb_PQ_told 97 = .ok (.iload_n 1, 1) := by decide +kernel
theorem dd_PQ_told_98 : decode bb_PQ_told 98 = .ok (.iload_n 2, 1) := by decide +kernel
theorem dd_PQ_told_99 : decode bb_PQ_told 99 = .ok (.invokevirtual 125, 3) := by decide +kernel
theorem dd_PQ_told_102 : decode bb_PQ_told 102 = .ok (.ireturn, 1) := by decide +kernel
theorem dd_PQ_told_103 : decode bb_PQ_told 103 = .ok (.sipush 10000, 3) := by decide +kernel
theorem dd_PQ_told_106 : decode bb_PQ_told 106 = .ok (.ireturn, 1) := by decide +kernel
def f_PQ_told_103 (nf : Nat)  (c : Zc) : Option (Int32 × Zc) :=
  some (10000, c)
def f_PQ_told_70 (nf : Nat) (x0 : Nat) (x1 : Int32) (x2 : Int32) (c : Zc) : Option (Int32 × Zc) :=
  if x1 < 10 then (f_PQ_told_103 nf  c) else (if 13 < x1 then (f_PQ_told_103 nf  c) else ((zgr c x0 11 1).bind fun v7 => (zob c v7 0).bind fun w9 => (f_Graph_isArc nf v7 x2 c).bind fun q8 => if q8.1 = 0 then (f_PQ_told_103 nf  q8.2) else ((zgr q8.2 x0 11 1).bind fun v11 => (zob q8.2 v11 0).bind fun w13 => (f_Graph_ofArc nf v11 x1 x2 q8.2).bind fun q12 => some (q12.1, q12.2))))
def f_PQ_told (nf : Nat) (a0 : Nat) (a1 : Int32) (a2 : Int32) (c : Zc) : Option (Int32 × Zc) :=
  if a1 = 0 then ((zgr c a0 11 1).bind fun v27 => (zgi c v27 0 7).bind fun v28 => some (v28, c)) else (if a1 = 1 then ((zgr c a0 11 1).bind fun v25 => (zgi c v25 0 8).bind fun v26 => some (v26, c)) else (if a1 = 2 then ((zgr c a0 11 5).bind fun v22 => (zob c v22 8).bind fun w24 => (f_RuleBook_standing nf v22 c).bind fun q23 => some (q23.1, q23.2)) else (if a1 < 3 then (f_PQ_told_70 nf a0 a1 a2 c) else (if 9 < a1 then (f_PQ_told_70 nf a0 a1 a2 c) else ((zgr c a0 11 1).bind fun v15 => (zob c v15 0).bind fun w17 => (f_Graph_isNode nf v15 a2 c).bind fun q16 => if q16.1 = 0 then (f_PQ_told_70 nf a0 a1 a2 q16.2) else ((zgr q16.2 a0 11 1).bind fun v19 => (zob q16.2 v19 0).bind fun w21 => (f_Graph_ofNode nf v19 a1 a2 q16.2).bind fun q20 => some (q20.1, q20.2)))))))
set_option maxRecDepth 100000 in
set_option maxHeartbeats 4000000 in
theorem t_PQ_told_103  (X : zX p s m args cd D cid B bb_PQ_told 3 rr_PQ zT) (H : zH s meth B n0 (some (.int)) "told") {nf : Nat}  {c : Zc} {res : Int32 × Zc} (h : f_PQ_told_103 nf  c = some res) : Zz p l e (zRm 1 24 0 0) s m args below meth cd (MQ below (zQi D cid B res.1 res.2 n0 0) args s 0 0 (fun q => B ≤ q)) D cid B 3 0 0 c 103 [] [] := by
  unfold f_PQ_told_103 at h
  refine z_sipush (v := 10000) X dd_PQ_told_103 (by decide) ?_
  obtain rfl := Option.some.inj h
  exact z_iret X H.1 H.2.1 H.2.2.1 dd_PQ_told_106
set_option maxRecDepth 100000 in
set_option maxHeartbeats 4000000 in
theorem t_PQ_told_70  (X : zX p s m args cd D cid B bb_PQ_told 3 rr_PQ zT) (H : zH s meth B n0 (some (.int)) "told") {nf : Nat} {x0 : Nat} {x1 : Int32} {x2 : Int32} {c : Zc} {res : Int32 × Zc} (h : f_PQ_told_70 nf x0 x1 x2 c = some res) : Zz p l e (zRm 1 24 0 0) s m args below meth cd (MQ below (zQi D cid B res.1 res.2 n0 0) args s 0 0 (fun q => B ≤ q)) D cid B 3 0 0 c 70 [(0, .ref x0), (1, .int x1), (2, .int x2)] [] := by
  unfold f_PQ_told_70 at h
  refine z_iload_n X dd_PQ_told_70 rfl 1 rfl ?_
  refine z_bipush (v := 10) X dd_PQ_told_71 (by decide) ?_
  refine z_icmp_lt (tgt := 103) X dd_PQ_told_73 (by decide) (fun q5 => ?_) (fun q5 => ?_)
  · rw [if_pos q5] at h
    refine z_sub [] rfl ?_
    exact t_PQ_told_103 X H h
  · rw [if_neg q5] at h
    refine z_iload_n X dd_PQ_told_76 rfl 1 rfl ?_
    refine z_bipush (v := 13) X dd_PQ_told_77 (by decide) ?_
    refine z_icmp_gt (tgt := 103) X dd_PQ_told_79 (by decide) (fun q6 => ?_) (fun q6 => ?_)
    · rw [if_pos q6] at h
      refine z_sub [] rfl ?_
      exact t_PQ_told_103 X H h
    · rw [if_neg q6] at h
      refine z_aload_n X dd_PQ_told_82 rfl 0 rfl ?_
      obtain ⟨v7, ev7, h⟩ := zb h
      refine z_get (j := 1) X dd_PQ_told_83 kc_11 ki_11 (by decide) km_690 (zgr_v ev7) ?_
      refine z_iload_n X dd_PQ_told_86 rfl 2 rfl ?_
      obtain ⟨w9, ew9, h⟩ := zb h
      obtain ⟨q8, eq8, h⟩ := zb h
      refine z_callVi X [.int x2] rfl dd_PQ_told_87 (c_Graph_isArc l eq8) (cwV 1 X.1.2.2.2.2 (zg_V km_775 km_776 km_777 km_126 km_778) rfl rfl rfl (by decide +kernel) ⟨Nat.le_of_ble_eq_true rfl, Nat.le_of_ble_eq_true rfl⟩) (zob_s ew9) kc_0 rfl (Nat.le_of_ble_eq_true rfl) ⟨Nat.le_of_ble_eq_true rfl, Nat.le_of_ble_eq_true rfl⟩ ?_
      refine z_if_eq (tgt := 103) X dd_PQ_told_90 (by decide) (fun q10 => ?_) (fun q10 => ?_)
      · rw [if_pos q10] at h
        refine z_sub [] rfl ?_
        exact t_PQ_told_103 X H h
      · rw [if_neg q10] at h
        refine z_aload_n X dd_PQ_told_93 rfl 0 rfl ?_
        obtain ⟨v11, ev11, h⟩ := zb h
        refine z_get (j := 1) X dd_PQ_told_94 kc_11 ki_11 (by decide) km_690 (zgr_v ev11) ?_
        refine z_iload_n X dd_PQ_told_97 rfl 1 rfl ?_
        refine z_iload_n X dd_PQ_told_98 rfl 2 rfl ?_
        obtain ⟨w13, ew13, h⟩ := zb h
        obtain ⟨q12, eq12, h⟩ := zb h
        refine z_callVi X [.int x1, .int x2] rfl dd_PQ_told_99 (c_Graph_ofArc l eq12) (cwV 2 X.1.2.2.2.2 (zg_V km_795 km_796 km_797 km_126 km_798) rfl rfl rfl (by decide +kernel) ⟨Nat.le_of_ble_eq_true rfl, Nat.le_of_ble_eq_true rfl⟩) (zob_s ew13) kc_0 rfl (Nat.le_of_ble_eq_true rfl) ⟨Nat.le_of_ble_eq_true rfl, Nat.le_of_ble_eq_true rfl⟩ ?_
        obtain rfl := Option.some.inj h
        exact z_iret X H.1 H.2.1 H.2.2.1 dd_PQ_told_102
set_option maxRecDepth 100000 in
set_option maxHeartbeats 4000000 in
theorem c_PQ_told (l : Launch) {nf : Nat} {a0 : Nat} {a1 : Int32} {a2 : Int32} {c : Zc} {res : Int32 × Zc} (h : f_PQ_told nf a0 a1 a2 c = some res) : zM l yy_PQ_told ww_PQ_told 1 24 0 0 [.ref a0, .int a1, .int a2] c (fun D cid B => zQi D cid B res.1 res.2 c.length 0) := by
  refine z_met (cc := bb_PQ_told) (maxL := 3) (ret := (some (.int))) (by decide +kernel) rfl (Nat.le_of_ble_eq_true rfl) ?_
  intro p e s m args below meth cd D cid B X h1 h2 h3 h4
  have X : zX p s m args cd D cid B bb_PQ_told 3 rr_PQ zT := X
  have H : zH s meth B c.length (some (.int)) "told" := ⟨h1, h2, h4, h3⟩
  unfold f_PQ_told at h
  show Zz p l e (zRm 1 24 0 0) s m args below meth cd _ D cid B 3 0 0 c 0 [(0, .ref a0), (1, .int a1), (2, .int a2)] []
  refine z_iload_n X dd_PQ_told_0 rfl 1 rfl ?_
  refine z_if_ne (tgt := 12) X dd_PQ_told_1 (by decide) (fun q1 => ?_) (fun q1 => ?_)
  · rw [if_neg q1] at h
    refine z_iload_n X dd_PQ_told_12 rfl 1 rfl ?_
    refine z_iconst (v := 1) X dd_PQ_told_13 (by decide) ?_
    refine z_icmp_ne (tgt := 25) X dd_PQ_told_14 (by decide) (fun q2 => ?_) (fun q2 => ?_)
    · rw [if_neg q2] at h
      refine z_iload_n X dd_PQ_told_25 rfl 1 rfl ?_
      refine z_iconst (v := 2) X dd_PQ_told_26 (by decide) ?_
      refine z_icmp_ne (tgt := 38) X dd_PQ_told_27 (by decide) (fun q3 => ?_) (fun q3 => ?_)
      · rw [if_neg q3] at h
        refine z_iload_n X dd_PQ_told_38 rfl 1 rfl ?_
        refine z_iconst (v := 3) X dd_PQ_told_39 (by decide) ?_
        refine z_icmp_lt (tgt := 70) X dd_PQ_told_40 (by decide) (fun q4 => ?_) (fun q4 => ?_)
        · rw [if_pos q4] at h
          exact t_PQ_told_70 X H h
        · rw [if_neg q4] at h
          refine z_iload_n X dd_PQ_told_43 rfl 1 rfl ?_
          refine z_bipush (v := 9) X dd_PQ_told_44 (by decide) ?_
          refine z_icmp_gt (tgt := 70) X dd_PQ_told_46 (by decide) (fun q14 => ?_) (fun q14 => ?_)
          · rw [if_pos q14] at h
            exact t_PQ_told_70 X H h
          · rw [if_neg q14] at h
            refine z_aload_n X dd_PQ_told_49 rfl 0 rfl ?_
            obtain ⟨v15, ev15, h⟩ := zb h
            refine z_get (j := 1) X dd_PQ_told_50 kc_11 ki_11 (by decide) km_690 (zgr_v ev15) ?_
            refine z_iload_n X dd_PQ_told_53 rfl 2 rfl ?_
            obtain ⟨w17, ew17, h⟩ := zb h
            obtain ⟨q16, eq16, h⟩ := zb h
            refine z_callVi X [.int a2] rfl dd_PQ_told_54 (c_Graph_isNode l eq16) (cwV 1 X.1.2.2.2.2 (zg_V km_747 km_748 km_749 km_126 km_750) rfl rfl rfl (by decide +kernel) ⟨Nat.le_of_ble_eq_true rfl, Nat.le_of_ble_eq_true rfl⟩) (zob_s ew17) kc_0 rfl (Nat.le_of_ble_eq_true rfl) ⟨Nat.le_of_ble_eq_true rfl, Nat.le_of_ble_eq_true rfl⟩ ?_
            refine z_if_eq (tgt := 70) X dd_PQ_told_57 (by decide) (fun q18 => ?_) (fun q18 => ?_)
            · rw [if_pos q18] at h
              exact t_PQ_told_70 X H h
            · rw [if_neg q18] at h
              refine z_aload_n X dd_PQ_told_60 rfl 0 rfl ?_
              obtain ⟨v19, ev19, h⟩ := zb h
              refine z_get (j := 1) X dd_PQ_told_61 kc_11 ki_11 (by decide) km_690 (zgr_v ev19) ?_
              refine z_iload_n X dd_PQ_told_64 rfl 1 rfl ?_
              refine z_iload_n X dd_PQ_told_65 rfl 2 rfl ?_
              obtain ⟨w21, ew21, h⟩ := zb h
              obtain ⟨q20, eq20, h⟩ := zb h
              refine z_callVi X [.int a1, .int a2] rfl dd_PQ_told_66 (c_Graph_ofNode l eq20) (cwV 2 X.1.2.2.2.2 (zg_V km_791 km_792 km_793 km_126 km_794) rfl rfl rfl (by decide +kernel) ⟨Nat.le_of_ble_eq_true rfl, Nat.le_of_ble_eq_true rfl⟩) (zob_s ew21) kc_0 rfl (Nat.le_of_ble_eq_true rfl) ⟨Nat.le_of_ble_eq_true rfl, Nat.le_of_ble_eq_true rfl⟩ ?_
              obtain rfl := Option.some.inj h
              exact z_iret X H.1 H.2.1 H.2.2.1 dd_PQ_told_69
      · rw [if_pos q3] at h
        refine z_aload_n X dd_PQ_told_30 rfl 0 rfl ?_
        obtain ⟨v22, ev22, h⟩ := zb h
        refine z_get (j := 5) X dd_PQ_told_31 kc_11 ki_11 (by decide) km_694 (zgr_v ev22) ?_
        obtain ⟨w24, ew24, h⟩ := zb h
        obtain ⟨q23, eq23, h⟩ := zb h
        refine z_callVi X [] rfl dd_PQ_told_34 (c_RuleBook_standing l eq23) (cwV 0 X.1.2.2.2.2 (zg_V km_787 km_788 km_789 km_135 km_790) rfl rfl rfl (by decide +kernel) ⟨Nat.le_of_ble_eq_true rfl, Nat.le_of_ble_eq_true rfl⟩) (zob_s ew24) kc_8 rfl (Nat.le_of_ble_eq_true rfl) ⟨Nat.le_of_ble_eq_true rfl, Nat.le_of_ble_eq_true rfl⟩ ?_
        obtain rfl := Option.some.inj h
        exact z_iret X H.1 H.2.1 H.2.2.1 dd_PQ_told_37
    · rw [if_pos q2] at h
      refine z_aload_n X dd_PQ_told_17 rfl 0 rfl ?_
      obtain ⟨v25, ev25, h⟩ := zb h
      refine z_get (j := 1) X dd_PQ_told_18 kc_11 ki_11 (by decide) km_690 (zgr_v ev25) ?_
      obtain ⟨v26, ev26, h⟩ := zb h
      refine z_get (j := 8) X dd_PQ_told_21 kc_0 ki_0 (by decide) km_179 (zgi_v ev26) ?_
      obtain rfl := Option.some.inj h
      exact z_iret X H.1 H.2.1 H.2.2.1 dd_PQ_told_24
  · rw [if_pos q1] at h
    refine z_aload_n X dd_PQ_told_4 rfl 0 rfl ?_
    obtain ⟨v27, ev27, h⟩ := zb h
    refine z_get (j := 1) X dd_PQ_told_5 kc_11 ki_11 (by decide) km_690 (zgr_v ev27) ?_
    obtain ⟨v28, ev28, h⟩ := zb h
    refine z_get (j := 7) X dd_PQ_told_8 kc_0 ki_0 (by decide) km_177 (zgi_v ev28) ?_
    obtain rfl := Option.some.inj h
    exact z_iret X H.1 H.2.1 H.2.2.1 dd_PQ_told_11
theorem dd_PQ_bare_0 : decode bb_PQ_bare 0 = .ok (.aload_n 0, 1) := by decide +kernel
theorem dd_PQ_bare_1 : decode bb_PQ_bare 1 = .ok (.getfield 16, 3) := by decide +kernel
theorem dd_PQ_bare_4 : decode bb_PQ_bare 4 = .ok (.iload_n 1, 1) := by decide +kernel
theorem dd_PQ_bare_5 : decode bb_PQ_bare 5 = .ok (.invokevirtual 90, 3) := by decide +kernel
theorem dd_PQ_bare_8 : decode bb_PQ_bare 8 = .ok (.ifCond .ne 5, 3) := by decide +kernel
theorem dd_PQ_bare_11 : decode bb_PQ_bare 11 = .ok (.iconst (-1), 1) := by decide +kernel
theorem dd_PQ_bare_12 : decode bb_PQ_bare 12 = .ok (.ireturn, 1) := by decide +kernel
theorem dd_PQ_bare_13 : decode bb_PQ_bare 13 = .ok (.aload_n 0, 1) := by decide +kernel
theorem dd_PQ_bare_14 : decode bb_PQ_bare 14 = .ok (.getfield 16, 3) := by decide +kernel
theorem dd_PQ_bare_17 : decode bb_PQ_bare 17 = .ok (.iload_n 1, 1) := by decide +kernel
theorem dd_PQ_bare_18 : decode bb_PQ_bare 18 = .ok (.invokevirtual 128, 3) := by decide +kernel
theorem dd_PQ_bare_21 : decode bb_PQ_bare 21 = .ok (.ireturn, 1) := by decide +kernel
def f_PQ_bare (nf : Nat) (a0 : Nat) (a1 : Int32) (c : Zc) : Option (Int32 × Zc) :=
  (zgr c a0 11 1).bind fun v1 => (zob c v1 0).bind fun w3 => (f_Graph_isNode nf v1 a1 c).bind fun q2 => if q2.1 = 0 then (some ((-1), q2.2)) else ((zgr q2.2 a0 11 1).bind fun v5 => (zob q2.2 v5 0).bind fun w7 => (f_Graph_strip nf v5 a1 q2.2).bind fun q6 => some (q6.1, q6.2))
set_option maxRecDepth 100000 in
set_option maxHeartbeats 4000000 in
theorem c_PQ_bare (l : Launch) {nf : Nat} {a0 : Nat} {a1 : Int32} {c : Zc} {res : Int32 × Zc} (h : f_PQ_bare nf a0 a1 c = some res) : zM l yy_PQ_bare ww_PQ_bare 2 44 0 0 [.ref a0, .int a1] c (fun D cid B => zQi D cid B res.1 res.2 c.length 0) := by
  refine z_met (cc := bb_PQ_bare) (maxL := 2) (ret := (some (.int))) (by decide +kernel) rfl (Nat.le_of_ble_eq_true rfl) ?_
  intro p e s m args below meth cd D cid B X h1 h2 h3 h4
  have X : zX p s m args cd D cid B bb_PQ_bare 2 rr_PQ zT := X
  have H : zH s meth B c.length (some (.int)) "bare" := ⟨h1, h2, h4, h3⟩
  unfold f_PQ_bare at h
  show Zz p l e (zRm 2 44 0 0) s m args below meth cd _ D cid B 2 0 0 c 0 [(0, .ref a0), (1, .int a1)] []
  refine z_aload_n X dd_PQ_bare_0 rfl 0 rfl ?_
  obtain ⟨v1, ev1, h⟩ := zb h
  refine z_get (j := 1) X dd_PQ_bare_1 kc_11 ki_11 (by decide) km_690 (zgr_v ev1) ?_
  refine z_iload_n X dd_PQ_bare_4 rfl 1 rfl ?_
  obtain ⟨w3, ew3, h⟩ := zb h
  obtain ⟨q2, eq2, h⟩ := zb h
  refine z_callVi X [.int a1] rfl dd_PQ_bare_5 (c_Graph_isNode l eq2) (cwV 1 X.1.2.2.2.2 (zg_V km_747 km_748 km_749 km_126 km_750) rfl rfl rfl (by decide +kernel) ⟨Nat.le_of_ble_eq_true rfl, Nat.le_of_ble_eq_true rfl⟩) (zob_s ew3) kc_0 rfl (Nat.le_of_ble_eq_true rfl) ⟨Nat.le_of_ble_eq_true rfl, Nat.le_of_ble_eq_true rfl⟩ ?_
  refine z_if_ne (tgt := 13) X dd_PQ_bare_8 (by decide) (fun q4 => ?_) (fun q4 => ?_)
  · rw [if_neg q4] at h
    refine z_aload_n X dd_PQ_bare_13 rfl 0 rfl ?_
    obtain ⟨v5, ev5, h⟩ := zb h
    refine z_get (j := 1) X dd_PQ_bare_14 kc_11 ki_11 (by decide) km_690 (zgr_v ev5) ?_
    refine z_iload_n X dd_PQ_bare_17 rfl 1 rfl ?_
    obtain ⟨w7, ew7, h⟩ := zb h
    obtain ⟨q6, eq6, h⟩ := zb h
    refine z_callVi X [.int a1] rfl dd_PQ_bare_18 (c_Graph_strip l eq6) (cwV 1 X.1.2.2.2.2 (zg_V km_803 km_804 km_805 km_126 km_806) rfl rfl rfl (by decide +kernel) ⟨Nat.le_of_ble_eq_true rfl, Nat.le_of_ble_eq_true rfl⟩) (zob_s ew7) kc_0 rfl (Nat.le_of_ble_eq_true rfl) ⟨Nat.le_of_ble_eq_true rfl, Nat.le_of_ble_eq_true rfl⟩ ?_
    obtain rfl := Option.some.inj h
    exact z_iret X H.1 H.2.1 H.2.2.1 dd_PQ_bare_21
  · rw [if_pos q4] at h
    refine z_iconst (v := (-1)) X dd_PQ_bare_11 (by decide) ?_
    obtain rfl := Option.some.inj h
    exact z_iret X H.1 H.2.1 H.2.2.1 dd_PQ_bare_12
theorem dd_PQ_question_0 : decode bb_PQ_question 0 = .ok (.iload_n 1, 1) := by decide +kernel
theorem dd_PQ_question_1 : decode bb_PQ_question 1 = .ok (.ifCond .lt 8, 3) := by decide +kernel
theorem dd_PQ_question_4 : decode bb_PQ_question 4 = .ok (.iload_n 1, 1) := by decide +kernel
theorem dd_PQ_question_5 : decode bb_PQ_question 5 = .ok (.iconst 4, 1) := by decide +kernel
theorem dd_PQ_question_6 : decode bb_PQ_question 6 = .ok (.if_icmp .lt 5, 3) := by decide +kernel
theorem dd_PQ_question_9 : decode bb_PQ_question 9 = .ok (.iconst (-1), 1) := by decide +kernel
theorem dd_PQ_question_10 : decode bb_PQ_question 10 = .ok (.ireturn, 1) := by decide +kernel
theorem dd_PQ_question_11 : decode bb_PQ_question 11 = .ok (.aload_n 0, 1) := by decide +kernel
theorem dd_PQ_question_12 : decode bb_PQ_question 12 = .ok (.getfield 32, 3) := by decide +kernel
theorem dd_PQ_question_15 : decode bb_PQ_question 15 = .ok (.aload_n 0, 1) := by decide +kernel
theorem dd_PQ_question_16 : decode bb_PQ_question 16 = .ok (.getfield 9, 3) := by decide +kernel
theorem dd_PQ_question_19 : decode bb_PQ_question 19 = .ok (.aload_n 0, 1) := by decide +kernel
theorem dd_PQ_question_20 : decode bb_PQ_question 20 = .ok (.getfield 77, 3) := by decide +kernel
theorem dd_PQ_question_23 : decode bb_PQ_question 23 = .ok (.aload_n 0, 1) := by decide +kernel
theorem dd_PQ_question_24 : decode bb_PQ_question 24 = .ok (.getfield 23, 3) := by decide +kernel
theorem dd_PQ_question_27 : decode bb_PQ_question 27 = .ok (.iconst 0, 1) := by decide +kernel
theorem dd_PQ_question_28 : decode bb_PQ_question 28 = .ok (.invokevirtual 131, 3) := by decide +kernel
theorem dd_PQ_question_31 : decode bb_PQ_question 31 = .ok (.istore_n 2, 1) := by decide +kernel
theorem dd_PQ_question_32 : decode bb_PQ_question 32 = .ok (.aload_n 0, 1) := by decide +kernel
theorem dd_PQ_question_33 : decode bb_PQ_question 33 = .ok (.iconst 0, 1) := by decide +kernel
theorem dd_PQ_question_34 : decode bb_PQ_question 34 = .ok (.putfield 77, 3) := by decide +kernel
theorem dd_PQ_question_37 : decode bb_PQ_question 37 = .ok (.iload_n 2, 1) := by decide +kernel
theorem dd_PQ_question_38 : decode bb_PQ_question 38 = .ok (.ifCond .eq 8, 3) := by decide +kernel
theorem dd_PQ_question_41 : decode bb_PQ_question 41 = .ok (.bipush (-10), 2) := by decide +kernel
theorem dd_PQ_question_43 : decode bb_PQ_question 43 = .ok (.iload_n 2, 1) := by decide +kernel
theorem dd_PQ_question_44 : decode bb_PQ_question 44 = .ok (.isub, 1) := by decide +kernel
theorem dd_PQ_question_45 : decode bb_PQ_question 45 = .ok (.ireturn, 1) := by decide +kernel
theorem dd_PQ_question_46 : decode bb_PQ_question 46 = .ok (.aload_n 0, 1) := by decide +kernel
theorem dd_PQ_question_47 : decode bb_PQ_question 47 = .ok (.getfield 63, 3) := by decide +kernel
theorem dd_PQ_question_50 : decode bb_PQ_question 50 = .ok (.iload_n 1, 1) := by decide +kernel
theorem dd_PQ_question_51 : decode bb_PQ_question 51 = .ok (.aaload, 1) := by decide +kernel
theorem dd_PQ_question_52 : decode bb_PQ_question 52 = .ok (.astore_n 3, 1) := by decide +kernel
theorem dd_PQ_question_53 : decode bb_PQ_question 53 = .ok (.aload_n 0, 1) := by decide +kernel
theorem dd_PQ_question_54 : decode bb_PQ_question 54 = .ok (.getfield 63, 3) := by decide +kernel
theorem dd_PQ_question_57 : decode bb_PQ_question 57 = .ok (.iload_n 1, 1) := by decide +kernel
theorem dd_PQ_question_58 : decode bb_PQ_question 58 = .ok (.aload_n 0, 1) := by decide +kernel
theorem dd_PQ_question_59 : decode bb_PQ_question 59 = .ok (.getfield 23, 3) := by decide +kernel
theorem dd_PQ_question_62 : decode bb_PQ_question 62 = .ok (.aastore, 1) := by decide +kernel
theorem dd_PQ_question_63 : decode bb_PQ_question 63 = .ok (.aload_n 0, 1) := by decide +kernel
theorem dd_PQ_question_64 : decode bb_PQ_question 64 = .ok (.aload_n 3, 1) := by decide +kernel
theorem dd_PQ_question_65 : decode bb_PQ_question 65 = .ok (.putfield 23, 3) := by decide +kernel
theorem dd_PQ_question_68 : decode bb_PQ_question 68 = .ok (.aload_n 0, 1) := by decide +kernel
theorem dd_PQ_question_69 : decode bb_PQ_question 69 = .ok (.getfield 73, 3) := by decide +kernel
theorem dd_PQ_question_72 : decode bb_PQ_question 72 = .ok (.iload_n 1, 1) := by decide +kernel
theorem dd_PQ_question_73 : decode bb_PQ_question 73 = .ok (.iconst (-1), 1) := by decide +kernel
theorem dd_PQ_question_74 : decode bb_PQ_question 74 = .ok (.iastore, 1) := by decide +kernel
theorem dd_PQ_question_75 : decode bb_PQ_question 75 = .ok (.aload_n 0, 1) := by decide +kernel
theorem dd_PQ_question_76 : decode bb_PQ_question 76 = .ok (.getfield 63, 3) := by decide +kernel
theorem dd_PQ_question_79 : decode bb_PQ_question 79 = .ok (.iload_n 1, 1) := by decide +kernel
theorem dd_PQ_question_80 : decode bb_PQ_question 80 = .ok (.aaload, 1) := by decide +kernel
theorem dd_PQ_question_81 : decode bb_PQ_question 81 = .ok (.getfield 135, 3) := by decide +kernel
theorem dd_PQ_question_84 : decode bb_PQ_question 84 = .ok (.ireturn, 1) := by decide +kernel
def f_PQ_question_9 (nf : Nat)  (c : Zc) : Option (Int32 × Zc) :=
  some ((-1), c)
def f_PQ_question (nf : Nat) (a0 : Nat) (a1 : Int32) (c : Zc) : Option (Int32 × Zc) :=
  if a1 < 0 then (f_PQ_question_9 nf  c) else (if a1 < 4 then ((zgr c a0 11 3).bind fun v3 => (zgr c a0 11 0).bind fun v4 => (zgi c a0 11 10).bind fun v5 => (zgr c a0 11 2).bind fun v6 => (zob c v3 5).bind fun w8 => (f_Reader_read nf v3 v4 v5 v6 0 c).bind fun q7 => (zpv q7.2 a0 11 10 (.int 0)).bind fun c9 => if q7.1 = 0 then ((zgr c9 a0 11 7).bind fun v11 => (zar c9 v11 4 a1).bind fun v12 => (zgr c9 a0 11 7).bind fun v13 => (zgr c9 a0 11 2).bind fun v14 => (zsr c9 v13 4 2 a1 v14).bind fun c15 => (zpv c15 a0 11 2 (.ref v12)).bind fun c16 => (zgr c16 a0 11 9).bind fun v17 => (zsi c16 v17 0 a1 (-1)).bind fun c18 => (zgr c18 a0 11 7).bind fun v19 => (zar c18 v19 4 a1).bind fun v20 => (zgi c18 v20 2 15).bind fun v21 => some (v21, c18)) else (some (((-10) - q7.1), c9))) else (f_PQ_question_9 nf  c))
set_option maxRecDepth 100000 in
set_option maxHeartbeats 4000000 in
theorem t_PQ_question_9  (X : zX p s m args cd D cid B bb_PQ_question 4 rr_PQ zT) (H : zH s meth B n0 (some (.int)) "question") {nf : Nat}  {c : Zc} {res : Int32 × Zc} (h : f_PQ_question_9 nf  c = some res) : Zz p l e (zRm 10 229 0 0) s m args below meth cd (MQ below (zQi D cid B res.1 res.2 n0 0) args s 0 0 (fun q => B ≤ q)) D cid B 4 0 0 c 9 [] [] := by
  unfold f_PQ_question_9 at h
  refine z_iconst (v := (-1)) X dd_PQ_question_9 (by decide) ?_
  obtain rfl := Option.some.inj h
  exact z_iret X H.1 H.2.1 H.2.2.1 dd_PQ_question_10
set_option maxRecDepth 100000 in
set_option maxHeartbeats 4000000 in
theorem c_PQ_question (l : Launch) {nf : Nat} {a0 : Nat} {a1 : Int32} {c : Zc} {res : Int32 × Zc} (h : f_PQ_question nf a0 a1 c = some res) : zM l yy_PQ_question ww_PQ_question 10 229 0 0 [.ref a0, .int a1] c (fun D cid B => zQi D cid B res.1 res.2 c.length 0) := by
  refine z_met (cc := bb_PQ_question) (maxL := 4) (ret := (some (.int))) (by decide +kernel) rfl (Nat.le_of_ble_eq_true rfl) ?_
  intro p e s m args below meth cd D cid B X h1 h2 h3 h4
  have X : zX p s m args cd D cid B bb_PQ_question 4 rr_PQ zT := X
  have H : zH s meth B c.length (some (.int)) "question" := ⟨h1, h2, h4, h3⟩
  unfold f_PQ_question at h
  show Zz p l e (zRm 10 229 0 0) s m args below meth cd _ D cid B 4 0 0 c 0 [(0, .ref a0), (1, .int a1)] []
  refine z_iload_n X dd_PQ_question_0 rfl 1 rfl ?_
  refine z_if_lt (tgt := 9) X dd_PQ_question_1 (by decide) (fun q1 => ?_) (fun q1 => ?_)
  · rw [if_pos q1] at h
    refine z_sub [] rfl ?_
    exact t_PQ_question_9 X H h
  · rw [if_neg q1] at h
    refine z_iload_n X dd_PQ_question_4 rfl 1 rfl ?_
    refine z_iconst (v := 4) X dd_PQ_question_5 (by decide) ?_
    refine z_icmp_lt (tgt := 11) X dd_PQ_question_6 (by decide) (fun q2 => ?_) (fun q2 => ?_)
    · rw [if_pos q2] at h
      refine z_aload_n X dd_PQ_question_11 rfl 0 rfl ?_
      obtain ⟨v3, ev3, h⟩ := zb h
      refine z_get (j := 3) X dd_PQ_question_12 kc_11 ki_11 (by decide) km_692 (zgr_v ev3) ?_
      refine z_aload_n X dd_PQ_question_15 rfl 0 rfl ?_
      obtain ⟨v4, ev4, h⟩ := zb h
      refine z_get (j := 0) X dd_PQ_question_16 kc_11 ki_11 (by decide) km_689 (zgr_v ev4) ?_
      refine z_aload_n X dd_PQ_question_19 rfl 0 rfl ?_
      obtain ⟨v5, ev5, h⟩ := zb h
      refine z_get (j := 10) X dd_PQ_question_20 kc_11 ki_11 (by decide) km_699 (zgi_v ev5) ?_
      refine z_aload_n X dd_PQ_question_23 rfl 0 rfl ?_
      obtain ⟨v6, ev6, h⟩ := zb h
      refine z_get (j := 2) X dd_PQ_question_24 kc_11 ki_11 (by decide) km_691 (zgr_v ev6) ?_
      refine z_iconst (v := 0) X dd_PQ_question_27 (by decide) ?_
      obtain ⟨w8, ew8, h⟩ := zb h
      obtain ⟨q7, eq7, h⟩ := zb h
      refine z_callVi X [.ref v4, .int v5, .ref v6, .int 0] rfl dd_PQ_question_28 (c_Reader_read l eq7) (cwV 4 X.1.2.2.2.2 (zg_V km_812 km_813 km_814 km_130 km_815) rfl rfl rfl (by decide +kernel) ⟨Nat.le_of_ble_eq_true rfl, Nat.le_of_ble_eq_true rfl⟩) (zob_s ew8) kc_5 rfl (Nat.le_of_ble_eq_true rfl) ⟨Nat.le_of_ble_eq_true rfl, Nat.le_of_ble_eq_true rfl⟩ ?_
      refine z_istore_n (lv' := [(2, .int q7.1), (0, .ref a0), (1, .int a1)]) X dd_PQ_question_31 rfl (by decide) rfl ?_
      refine z_aload_n X dd_PQ_question_32 rfl 1 rfl ?_
      refine z_iconst (v := 0) X dd_PQ_question_33 (by decide) ?_
      obtain ⟨c9, ec9, h⟩ := zb h
      refine z_put (j := 10) X dd_PQ_question_34 kc_11 ki_11 tt_PQ tk_PQ nn_PQ (by decide) km_699 rfl (tk_PQ 10 (by decide)) rfl rfl ec9 ?_
      refine z_iload_n X dd_PQ_question_37 rfl 0 rfl ?_
      refine z_if_eq (tgt := 46) X dd_PQ_question_38 (by decide) (fun q10 => ?_) (fun q10 => ?_)
      · rw [if_pos q10] at h
        refine z_aload_n X dd_PQ_question_46 rfl 1 rfl ?_
        obtain ⟨v11, ev11, h⟩ := zb h
        refine z_get (j := 7) X dd_PQ_question_47 kc_11 ki_11 (by decide) km_696 (zgr_v ev11) ?_
        refine z_iload_n X dd_PQ_question_50 rfl 2 rfl ?_
        obtain ⟨v12, ev12, h⟩ := zb h
        refine z_aaload X dd_PQ_question_51 rfl ev12 ?_
        refine z_astore_n (lv' := [(3, .ref v12), (2, .int q7.1), (0, .ref a0), (1, .int a1)]) X dd_PQ_question_52 rfl (by decide) rfl ?_
        refine z_aload_n X dd_PQ_question_53 rfl 2 rfl ?_
        obtain ⟨v13, ev13, h⟩ := zb h
        refine z_get (j := 7) X dd_PQ_question_54 kc_11 ki_11 (by decide) km_696 (zgr_v ev13) ?_
        refine z_iload_n X dd_PQ_question_57 rfl 3 rfl ?_
        refine z_aload_n X dd_PQ_question_58 rfl 2 rfl ?_
        obtain ⟨v14, ev14, h⟩ := zb h
        refine z_get (j := 2) X dd_PQ_question_59 kc_11 ki_11 (by decide) km_691 (zgr_v ev14) ?_
        obtain ⟨c15, ec15, h⟩ := zb h
        refine z_aastore X dd_PQ_question_62 kc_2 rfl ec15 ?_
        refine z_aload_n X dd_PQ_question_63 rfl 2 rfl ?_
        refine z_aload_n X dd_PQ_question_64 rfl 0 rfl ?_
        obtain ⟨c16, ec16, h⟩ := zb h
        refine z_put (j := 2) X dd_PQ_question_65 kc_11 ki_11 tt_PQ tk_PQ nn_PQ (by decide) km_691 rfl (tk_PQ 2 (by decide)) rfl rfl ec16 ?_
        refine z_aload_n X dd_PQ_question_68 rfl 2 rfl ?_
        obtain ⟨v17, ev17, h⟩ := zb h
        refine z_get (j := 9) X dd_PQ_question_69 kc_11 ki_11 (by decide) km_698 (zgr_v ev17) ?_
        refine z_iload_n X dd_PQ_question_72 rfl 3 rfl ?_
        refine z_iconst (v := (-1)) X dd_PQ_question_73 (by decide) ?_
        obtain ⟨c18, ec18, h⟩ := zb h
        refine z_iastore X dd_PQ_question_74 rfl ec18 ?_
        refine z_aload_n X dd_PQ_question_75 rfl 2 rfl ?_
        obtain ⟨v19, ev19, h⟩ := zb h
        refine z_get (j := 7) X dd_PQ_question_76 kc_11 ki_11 (by decide) km_696 (zgr_v ev19) ?_
        refine z_iload_n X dd_PQ_question_79 rfl 3 rfl ?_
        obtain ⟨v20, ev20, h⟩ := zb h
        refine z_aaload X dd_PQ_question_80 rfl ev20 ?_
        obtain ⟨v21, ev21, h⟩ := zb h
        refine z_get (j := 15) X dd_PQ_question_81 kc_2 ki_2 (by decide) km_346 (zgi_v ev21) ?_
        obtain rfl := Option.some.inj h
        exact z_iret X H.1 H.2.1 H.2.2.1 dd_PQ_question_84
      · rw [if_neg q10] at h
        refine z_bipush (v := (-10)) X dd_PQ_question_41 (by decide) ?_
        refine z_iload_n X dd_PQ_question_43 rfl 0 rfl ?_
        refine z_isub X dd_PQ_question_44 ?_
        obtain rfl := Option.some.inj h
        exact z_iret X H.1 H.2.1 H.2.2.1 dd_PQ_question_45
    · rw [if_neg q2] at h
      refine z_sub [] rfl ?_
      exact t_PQ_question_9 X H h
theorem dd_PQ_rule_0 : decode bb_PQ_rule 0 = .ok (.aload_n 0, 1) := by decide +kernel
theorem dd_PQ_rule_1 : decode bb_PQ_rule 1 = .ok (.getfield 32, 3) := by decide +kernel
theorem dd_PQ_rule_4 : decode bb_PQ_rule 4 = .ok (.aload_n 0, 1) := by decide +kernel
theorem dd_PQ_rule_5 : decode bb_PQ_rule 5 = .ok (.getfield 9, 3) := by decide +kernel
theorem dd_PQ_rule_8 : decode bb_PQ_rule 8 = .ok (.aload_n 0, 1) := by decide +kernel
theorem dd_PQ_rule_9 : decode bb_PQ_rule 9 = .ok (.getfield 77, 3) := by decide +kernel
theorem dd_PQ_rule_12 : decode bb_PQ_rule 12 = .ok (.aload_n 0, 1) := by decide +kernel
theorem dd_PQ_rule_13 : decode bb_PQ_rule 13 = .ok (.getfield 23, 3) := by decide +kernel
theorem dd_PQ_rule_16 : decode bb_PQ_rule 16 = .ok (.iconst 1, 1) := by decide +kernel
theorem dd_PQ_rule_17 : decode bb_PQ_rule 17 = .ok (.invokevirtual 131, 3) := by decide +kernel
theorem dd_PQ_rule_20 : decode bb_PQ_rule 20 = .ok (.istore_n 1, 1) := by decide +kernel
theorem dd_PQ_rule_21 : decode bb_PQ_rule 21 = .ok (.aload_n 0, 1) := by decide +kernel
theorem dd_PQ_rule_22 : decode bb_PQ_rule 22 = .ok (.iconst 0, 1) := by decide +kernel
theorem dd_PQ_rule_23 : decode bb_PQ_rule 23 = .ok (.putfield 77, 3) := by decide +kernel
theorem dd_PQ_rule_26 : decode bb_PQ_rule 26 = .ok (.iload_n 1, 1) := by decide +kernel
theorem dd_PQ_rule_27 : decode bb_PQ_rule 27 = .ok (.ifCond .eq 8, 3) := by decide +kernel
theorem dd_PQ_rule_30 : decode bb_PQ_rule 30 = .ok (.bipush (-10), 2) := by decide +kernel
theorem dd_PQ_rule_32 : decode bb_PQ_rule 32 = .ok (.iload_n 1, 1) := by decide +kernel
theorem dd_PQ_rule_33 : decode bb_PQ_rule 33 = .ok (.isub, 1) := by decide +kernel
theorem dd_PQ_rule_34 : decode bb_PQ_rule 34 = .ok (.ireturn, 1) := by decide +kernel
theorem dd_PQ_rule_35 : decode bb_PQ_rule 35 = .ok (.aload_n 0, 1) := by decide +kernel
theorem dd_PQ_rule_36 : decode bb_PQ_rule 36 = .ok (.getfield 23, 3) := by decide +kernel
theorem dd_PQ_rule_39 : decode bb_PQ_rule 39 = .ok (.getfield 138, 3) := by decide +kernel
theorem dd_PQ_rule_42 : decode bb_PQ_rule 42 = .ok (.istore_n 2, 1) := by decide +kernel
theorem dd_PQ_rule_43 : decode bb_PQ_rule 43 = .ok (.aload_n 0, 1) := by decide +kernel
theorem dd_PQ_rule_44 : decode bb_PQ_rule 44 = .ok (.aload_n 0, 1) := by decide +kernel
theorem dd_PQ_rule_45 : decode bb_PQ_rule 45 = .ok (.getfield 50, 3) := by decide +kernel
theorem dd_PQ_rule_48 : decode bb_PQ_rule 48 = .ok (.aload_n 0, 1) := by decide +kernel
theorem dd_PQ_rule_49 : decode bb_PQ_rule 49 = .ok (.getfield 23, 3) := by decide +kernel
theorem dd_PQ_rule_52 : decode bb_PQ_rule 52 = .ok (.invokevirtual 141, 3) := by decide +kernel
theorem dd_PQ_rule_55 : decode bb_PQ_rule 55 = .ok (.putfield 23, 3) := by decide +kernel
theorem dd_PQ_rule_58 : decode bb_PQ_rule 58 = .ok (.aload_n 0, 1) := by decide +kernel
theorem dd_PQ_rule_59 : decode bb_PQ_rule 59 = .ok (.getfield 16, 3) := by decide +kernel
theorem dd_PQ_rule_62 : decode bb_PQ_rule 62 = .ok (.dup, 1) := by decide +kernel
theorem dd_PQ_rule_63 : decode bb_PQ_rule 63 = .ok (.getfield 145, 3) := by decide +kernel
theorem dd_PQ_rule_66 : decode bb_PQ_rule 66 = .ok (.iconst 1, 1) := by decide +kernel
theorem dd_PQ_rule_67 : decode bb_PQ_rule 67 = .ok (.iadd, 1) := by decide +kernel
theorem dd_PQ_rule_68 : decode bb_PQ_rule 68 = .ok (.putfield 145, 3) := by decide +kernel
theorem dd_PQ_rule_71 : decode bb_PQ_rule 71 = .ok (.iload_n 2, 1) := by decide +kernel
theorem dd_PQ_rule_72 : decode bb_PQ_rule 72 = .ok (.ireturn, 1) := by decide +kernel
def f_PQ_rule (nf : Nat) (a0 : Nat) (c : Zc) : Option (Int32 × Zc) :=
  (zgr c a0 11 3).bind fun v1 => (zgr c a0 11 0).bind fun v2 => (zgi c a0 11 10).bind fun v3 => (zgr c a0 11 2).bind fun v4 => (zob c v1 5).bind fun w6 => (f_Reader_read nf v1 v2 v3 v4 1 c).bind fun q5 => (zpv q5.2 a0 11 10 (.int 0)).bind fun c7 => if q5.1 = 0 then ((zgr c7 a0 11 2).bind fun v9 => (zgi c7 v9 2 1).bind fun v10 => (zgr c7 a0 11 5).bind fun v11 => (zgr c7 a0 11 2).bind fun v12 => (zob c7 v11 8).bind fun w14 => (f_RuleBook_replace nf v11 v12 c7).bind fun q13 => (zpv q13.2 a0 11 2 (.ref q13.1)).bind fun c15 => (zgr c15 a0 11 1).bind fun v16 => (zgi c15 v16 0 9).bind fun v17 => (zpv c15 v16 0 9 (.int (v17 + 1))).bind fun c18 => some (v10, c18)) else (some (((-10) - q5.1), c7))
set_option maxRecDepth 100000 in
set_option maxHeartbeats 4000000 in
theorem c_PQ_rule (l : Launch) {nf : Nat} {a0 : Nat} {c : Zc} {res : Int32 × Zc} (h : f_PQ_rule nf a0 c = some res) : zM l yy_PQ_rule ww_PQ_rule 10 229 0 0 [.ref a0] c (fun D cid B => zQi D cid B res.1 res.2 c.length 0) := by
  refine z_met (cc := bb_PQ_rule) (maxL := 3) (ret := (some (.int))) (by decide +kernel) rfl (Nat.le_of_ble_eq_true rfl) ?_
  intro p e s m args below meth cd D cid B X h1 h2 h3 h4
  have X : zX p s m args cd D cid B bb_PQ_rule 3 rr_PQ zT := X
  have H : zH s meth B c.length (some (.int)) "rule" := ⟨h1, h2, h4, h3⟩
  unfold f_PQ_rule at h
  show Zz p l e (zRm 10 229 0 0) s m args below meth cd _ D cid B 3 0 0 c 0 [(0, .ref a0)] []
  refine z_aload_n X dd_PQ_rule_0 rfl 0 rfl ?_
  obtain ⟨v1, ev1, h⟩ := zb h
  refine z_get (j := 3) X dd_PQ_rule_1 kc_11 ki_11 (by decide) km_692 (zgr_v ev1) ?_
  refine z_aload_n X dd_PQ_rule_4 rfl 0 rfl ?_
  obtain ⟨v2, ev2, h⟩ := zb h
  refine z_get (j := 0) X dd_PQ_rule_5 kc_11 ki_11 (by decide) km_689 (zgr_v ev2) ?_
  refine z_aload_n X dd_PQ_rule_8 rfl 0 rfl ?_
  obtain ⟨v3, ev3, h⟩ := zb h
  refine z_get (j := 10) X dd_PQ_rule_9 kc_11 ki_11 (by decide) km_699 (zgi_v ev3) ?_
  refine z_aload_n X dd_PQ_rule_12 rfl 0 rfl ?_
  obtain ⟨v4, ev4, h⟩ := zb h
  refine z_get (j := 2) X dd_PQ_rule_13 kc_11 ki_11 (by decide) km_691 (zgr_v ev4) ?_
  refine z_iconst (v := 1) X dd_PQ_rule_16 (by decide) ?_
  obtain ⟨w6, ew6, h⟩ := zb h
  obtain ⟨q5, eq5, h⟩ := zb h
  refine z_callVi X [.ref v2, .int v3, .ref v4, .int 1] rfl dd_PQ_rule_17 (c_Reader_read l eq5) (cwV 4 X.1.2.2.2.2 (zg_V km_812 km_813 km_814 km_130 km_815) rfl rfl rfl (by decide +kernel) ⟨Nat.le_of_ble_eq_true rfl, Nat.le_of_ble_eq_true rfl⟩) (zob_s ew6) kc_5 rfl (Nat.le_of_ble_eq_true rfl) ⟨Nat.le_of_ble_eq_true rfl, Nat.le_of_ble_eq_true rfl⟩ ?_
  refine z_istore_n (lv' := [(1, .int q5.1), (0, .ref a0)]) X dd_PQ_rule_20 rfl (by decide) rfl ?_
  refine z_aload_n X dd_PQ_rule_21 rfl 1 rfl ?_
  refine z_iconst (v := 0) X dd_PQ_rule_22 (by decide) ?_
  obtain ⟨c7, ec7, h⟩ := zb h
  refine z_put (j := 10) X dd_PQ_rule_23 kc_11 ki_11 tt_PQ tk_PQ nn_PQ (by decide) km_699 rfl (tk_PQ 10 (by decide)) rfl rfl ec7 ?_
  refine z_iload_n X dd_PQ_rule_26 rfl 0 rfl ?_
  refine z_if_eq (tgt := 35) X dd_PQ_rule_27 (by decide) (fun q8 => ?_) (fun q8 => ?_)
  · rw [if_pos q8] at h
    refine z_aload_n X dd_PQ_rule_35 rfl 1 rfl ?_
    obtain ⟨v9, ev9, h⟩ := zb h
    refine z_get (j := 2) X dd_PQ_rule_36 kc_11 ki_11 (by decide) km_691 (zgr_v ev9) ?_
    obtain ⟨v10, ev10, h⟩ := zb h
    refine z_get (j := 1) X dd_PQ_rule_39 kc_2 ki_2 (by decide) km_305 (zgi_v ev10) ?_
    refine z_istore_n (lv' := [(2, .int v10), (1, .int q5.1), (0, .ref a0)]) X dd_PQ_rule_42 rfl (by decide) rfl ?_
    refine z_aload_n X dd_PQ_rule_43 rfl 2 rfl ?_
    refine z_aload_n X dd_PQ_rule_44 rfl 2 rfl ?_
    obtain ⟨v11, ev11, h⟩ := zb h
    refine z_get (j := 5) X dd_PQ_rule_45 kc_11 ki_11 (by decide) km_694 (zgr_v ev11) ?_
    refine z_aload_n X dd_PQ_rule_48 rfl 2 rfl ?_
    obtain ⟨v12, ev12, h⟩ := zb h
    refine z_get (j := 2) X dd_PQ_rule_49 kc_11 ki_11 (by decide) km_691 (zgr_v ev12) ?_
    obtain ⟨w14, ew14, h⟩ := zb h
    obtain ⟨q13, eq13, h⟩ := zb h
    refine z_callVr X [.ref v12] rfl dd_PQ_rule_52 (c_RuleBook_replace l eq13) (cwV 1 X.1.2.2.2.2 (zg_V km_1234 km_1235 km_1236 km_135 km_1237) rfl rfl rfl (by decide +kernel) ⟨Nat.le_of_ble_eq_true rfl, Nat.le_of_ble_eq_true rfl⟩) (zob_s ew14) kc_8 rfl (Nat.le_of_ble_eq_true rfl) ⟨Nat.le_of_ble_eq_true rfl, Nat.le_of_ble_eq_true rfl⟩ ?_
    obtain ⟨c15, ec15, h⟩ := zb h
    refine z_put (j := 2) X dd_PQ_rule_55 kc_11 ki_11 tt_PQ tk_PQ nn_PQ (by decide) km_691 rfl (tk_PQ 2 (by decide)) rfl rfl ec15 ?_
    refine z_aload_n X dd_PQ_rule_58 rfl 2 rfl ?_
    obtain ⟨v16, ev16, h⟩ := zb h
    refine z_get (j := 1) X dd_PQ_rule_59 kc_11 ki_11 (by decide) km_690 (zgr_v ev16) ?_
    refine z_dup X dd_PQ_rule_62 rfl ?_
    obtain ⟨v17, ev17, h⟩ := zb h
    refine z_get (j := 9) X dd_PQ_rule_63 kc_0 ki_0 (by decide) km_183 (zgi_v ev17) ?_
    refine z_iconst (v := 1) X dd_PQ_rule_66 (by decide) ?_
    refine z_iadd X dd_PQ_rule_67 ?_
    obtain ⟨c18, ec18, h⟩ := zb h
    refine z_put (j := 9) X dd_PQ_rule_68 kc_0 ki_0 tt_Graph tk_Graph nn_Graph (by decide) km_183 rfl (tk_Graph 9 (by decide)) rfl rfl ec18 ?_
    refine z_iload_n X dd_PQ_rule_71 rfl 0 rfl ?_
    obtain rfl := Option.some.inj h
    exact z_iret X H.1 H.2.1 H.2.2.1 dd_PQ_rule_72
  · rw [if_neg q8] at h
    refine z_bipush (v := (-10)) X dd_PQ_rule_30 (by decide) ?_
    refine z_iload_n X dd_PQ_rule_32 rfl 0 rfl ?_
    refine z_isub X dd_PQ_rule_33 ?_
    obtain rfl := Option.some.inj h
    exact z_iret X H.1 H.2.1 H.2.2.1 dd_PQ_rule_34
end ZzM
