section ZzM
variable {p : Program} {l : Launch} {e : Env} {s : State} {m : MethodId} {args : Array Value} {below : List Frame} {meth : Method} {cd : Code} {Q : State → Prop} {D : va_G} {cid : Nat → ClassId} {B n0 : Nat}
theorem dd_Mo_collect_0 : decode bb_Mo_collect 0 = .ok (.aload_n 0, 1) := by decide +kernel
theorem dd_Mo_collect_1 : decode bb_Mo_collect 1 = .ok (.iconst 0, 1) := by decide +kernel
theorem dd_Mo_collect_2 : decode bb_Mo_collect 2 = .ok (.putfield 515, 3) := by decide +kernel
theorem dd_Mo_collect_5 : decode bb_Mo_collect 5 = .ok (.aload_n 0, 1) := by decide +kernel
theorem dd_Mo_collect_6 : decode bb_Mo_collect 6 = .ok (.invokevirtual 506, 3) := by decide +kernel
theorem dd_Mo_collect_9 : decode bb_Mo_collect 9 = .ok (.aload_n 0, 1) := by decide +kernel
theorem dd_Mo_collect_10 : decode bb_Mo_collect 10 = .ok (.getfield 450, 3) := by decide +kernel
theorem dd_Mo_collect_13 : decode bb_Mo_collect 13 = .ok (.ifCond .le 7, 3) := by decide +kernel
theorem dd_Mo_collect_16 : decode bb_Mo_collect 16 = .ok (.iconst 1, 1) := by decide +kernel
theorem dd_Mo_collect_17 : decode bb_Mo_collect 17 = .ok (.goto 4, 3) := by decide +kernel
theorem dd_Mo_collect_20 : decode bb_Mo_collect 20 = .ok (.iconst 0, 1) := by decide +kernel
theorem dd_Mo_collect_21 : decode bb_Mo_collect 21 = .ok (.istore_n 1, 1) := by decide +kernel
theorem dd_Mo_collect_22 : decode bb_Mo_collect 22 = .ok (.iload_n 1, 1) := by decide +kernel
theorem dd_Mo_collect_23 : decode bb_Mo_collect 23 = .ok (.ifCond .eq 107, 3) := by decide +kernel
theorem dd_Mo_collect_26 : decode bb_Mo_collect 26 = .ok (.aload_n 0, 1) := by decide +kernel
theorem dd_Mo_collect_27 : decode bb_Mo_collect 27 = .ok (.invokevirtual 509, 3) := by decide +kernel
theorem dd_Mo_collect_30 : decode bb_Mo_collect 30 = .ok (.ifCond .eq 91, 3) := by decide +kernel
theorem dd_Mo_collect_33 : decode bb_Mo_collect 33 = .ok (.iconst 0, 1) := by decide +kernel
theorem dd_Mo_collect_34 : decode bb_Mo_collect 34 = .ok (.istore_n 2, 1) := by decide +kernel
theorem dd_Mo_collect_35 : decode bb_Mo_collect 35 = .ok (.iload_n 2, 1) := by decide +kernel
theorem dd_Mo_collect_36 : decode bb_Mo_collect 36 = .ok (.aload_n 0, 1) := by decide +kernel
theorem dd_Mo_collect_37 : decode bb_Mo_collect 37 = .ok (.getfield 116, 3) := by decide +kernel
theorem dd_Mo_collect_40 : decode bb_Mo_collect 40 = .ok (.aload_n 0, 1) := by decide +kernel
theorem dd_Mo_collect_41 : decode bb_Mo_collect 41 = .ok (.getfield 331, 3) := by decide +kernel
theorem dd_Mo_collect_44 : decode bb_Mo_collect 44 = .ok (.iaload, 1) := by decide +kernel
theorem dd_Mo_collect_45 : decode bb_Mo_collect 45 = .ok (.if_icmp .ge 66, 3) := by decide +kernel
theorem dd_Mo_collect_48 : decode bb_Mo_collect 48 = .ok (.bipush 8, 2) := by decide +kernel
theorem dd_Mo_collect_50 : decode bb_Mo_collect 50 = .ok (.aload_n 0, 1) := by decide +kernel
theorem dd_Mo_collect_51 : decode bb_Mo_collect 51 = .ok (.getfield 331, 3) := by decide +kernel
theorem dd_Mo_collect_54 : decode bb_Mo_collect 54 = .ok (.imul, 1) := by decide +kernel
theorem dd_Mo_collect_55 : decode bb_Mo_collect 55 = .ok (.iload_n 2, 1) := by decide +kernel
theorem dd_Mo_collect_56 : decode bb_Mo_collect 56 = .ok (.iadd, 1) := by decide +kernel
theorem dd_Mo_collect_57 : decode bb_Mo_collect 57 = .ok (.istore_n 3, 1) := by decide +kernel
theorem dd_Mo_collect_58 : decode bb_Mo_collect 58 = .ok (.aload_n 0, 1) := by decide +kernel
theorem dd_Mo_collect_59 : decode bb_Mo_collect 59 = .ok (.getfield 204, 3) := by decide +kernel
theorem dd_Mo_collect_62 : decode bb_Mo_collect 62 = .ok (.bipush 8, 2) := by decide +kernel
theorem dd_Mo_collect_64 : decode bb_Mo_collect 64 = .ok (.aload_n 0, 1) := by decide +kernel
theorem dd_Mo_collect_65 : decode bb_Mo_collect 65 = .ok (.getfield 515, 3) := by decide +kernel
theorem dd_Mo_collect_68 : decode bb_Mo_collect 68 = .ok (.imul, 1) := by decide +kernel
theorem dd_Mo_collect_69 : decode bb_Mo_collect 69 = .ok (.iload_n 2, 1) := by decide +kernel
theorem dd_Mo_collect_70 : decode bb_Mo_collect 70 = .ok (.iadd, 1) := by decide +kernel
theorem dd_Mo_collect_71 : decode bb_Mo_collect 71 = .ok (.aload_n 0, 1) := by decide +kernel
theorem dd_Mo_collect_72 : decode bb_Mo_collect 72 = .ok (.getfield 119, 3) := by decide +kernel
theorem dd_Mo_collect_75 : decode bb_Mo_collect 75 = .ok (.iload_n 3, 1) := by decide +kernel
theorem dd_Mo_collect_76 : decode bb_Mo_collect 76 = .ok (.iaload, 1) := by decide +kernel
theorem dd_Mo_collect_77 : decode bb_Mo_collect 77 = .ok (.bipush 109, 2) := by decide +kernel
theorem dd_Mo_collect_79 : decode bb_Mo_collect 79 = .ok (.if_icmp .ne 7, 3) := by decide +kernel
theorem dd_Mo_collect_82 : decode bb_Mo_collect 82 = .ok (.iconst 1, 1) := by decide +kernel
theorem dd_Mo_collect_83 : decode bb_Mo_collect 83 = .ok (.goto 21, 3) := by decide +kernel
theorem dd_Mo_collect_86 : decode bb_Mo_collect 86 = .ok (.aload_n 0, 1) := by decide +kernel
theorem dd_Mo_collect_87 : decode bb_Mo_collect 87 = .ok (.aload_n 0, 1) := by decide +kernel
theorem dd_Mo_collect_88 : decode bb_Mo_collect 88 = .ok (.getfield 122, 3) := by decide +kernel
theorem dd_Mo_collect_91 : decode bb_Mo_collect 91 = .ok (.iload_n 3, 1) := by decide +kernel
theorem dd_Mo_collect_92 : decode bb_Mo_collect 92 = .ok (.iaload, 1) := by decide +kernel
theorem dd_Mo_collect_93 : decode bb_Mo_collect 93 = .ok (.sipush 512, 3) := by decide +kernel
theorem dd_Mo_collect_96 : decode bb_Mo_collect 96 = .ok (.aload_n 0, 1) := by decide +kernel
theorem dd_Mo_collect_97 : decode bb_Mo_collect 97 = .ok (.getfield 331, 3) := by decide +kernel
theorem dd_Mo_collect_100 : decode bb_Mo_collect 100 = .ok (.imul, 1) := by decide +kernel
theorem dd_Mo_collect_101 : decode bb_Mo_collect 101 = .ok (.invokevirtual 485, 3) := by decide +kernel
theorem dd_Mo_collect_104 : decode bb_Mo_collect 104 = .ok (.iastore, 1) := by decide +kernel
theorem dd_Mo_collect_105 : decode bb_Mo_collect 105 = .ok (.iinc 2 1, 3) := by decide +kernel
theorem dd_Mo_collect_108 : decode bb_Mo_collect 108 = .ok (.goto (-73), 3) := by decide +kernel
theorem dd_Mo_collect_111 : decode bb_Mo_collect 111 = .ok (.aload_n 0, 1) := by decide +kernel
theorem dd_Mo_collect_112 : decode bb_Mo_collect 112 = .ok (.dup, 1) := by decide +kernel
theorem dd_Mo_collect_113 : decode bb_Mo_collect 113 = .ok (.getfield 515, 3) := by decide +kernel
theorem dd_Mo_collect_116 : decode bb_Mo_collect 116 = .ok (.iconst 1, 1) := by decide +kernel
theorem dd_Mo_collect_117 : decode bb_Mo_collect 117 = .ok (.iadd, 1) := by decide +kernel
theorem dd_Mo_collect_118 : decode bb_Mo_collect 118 = .ok (.putfield 515, 3) := by decide +kernel
theorem dd_Mo_collect_121 : decode bb_Mo_collect 121 = .ok (.aload_n 0, 1) := by decide +kernel
theorem dd_Mo_collect_122 : decode bb_Mo_collect 122 = .ok (.iconst 0, 1) := by decide +kernel
theorem dd_Mo_collect_123 : decode bb_Mo_collect 123 = .ok (.invokevirtual 466, 3) := by decide +kernel
theorem dd_Mo_collect_126 : decode bb_Mo_collect 126 = .ok (.istore_n 1, 1) := by decide +kernel
theorem dd_Mo_collect_127 : decode bb_Mo_collect 127 = .ok (.goto (-105), 3) := by decide +kernel
theorem dd_Mo_collect_130 : decode bb_Mo_collect 130 = .ok (.return_, 1) := by decide +kernel
def f_Mo_collect_121 (nf : Nat) (x0 : Nat) (c : Zc) : Option ((Nat × Int32 × Zc) ⊕ (Zc)) :=
  (zob c x0 12).bind fun w11 => (f_Mo_goesOn nf x0 0 c).bind fun q10 => some (.inl (x0, q10.1, q10.2))
def f_Mo_collect_104 (nf : Nat) (x0 : Nat) (x2 : Int32) (s0 : Nat) (s1 : Int32) (s2 : Int32) (c : Zc) : Option ((Nat × Int32 × Zc) ⊕ (Nat × Zc)) :=
  (zsi c s0 0 s1 s2).bind fun c27 => some (.inl (x0, (x2 + 1), c27))
def g_Mo_collect_35 (nf : Nat) (x0 : Nat) (x2 : Int32) (c : Zc) : Option ((Nat × Int32 × Zc) ⊕ (Nat × Zc)) :=
  (zgr c x0 12 43).bind fun v12 => (zgi c x0 12 25).bind fun v13 => (zai c v12 0 v13).bind fun v14 => if v14 ≤ x2 then (some (.inr (x0, c))) else ((zgi c x0 12 25).bind fun v16 => (zgr c x0 12 78).bind fun v17 => (zgi c x0 12 81).bind fun v18 => (zgr c x0 12 44).bind fun v19 => (zai c v19 0 ((8 * v16) + x2)).bind fun v20 => if v20 = 109 then (f_Mo_collect_104 nf x0 x2 v17 ((8 * v18) + x2) 1 c) else ((zgr c x0 12 45).bind fun v22 => (zai c v22 0 ((8 * v16) + x2)).bind fun v23 => (zgi c x0 12 25).bind fun v24 => (zob c x0 12).bind fun w26 => (f_Mo_work nf x0 v23 (512 * v24) c).bind fun q25 => f_Mo_collect_104 nf x0 x2 v17 ((8 * v18) + x2) q25.1 q25.2))
def f_Mo_collect_35 (nf : Nat) (x0 : Nat) (x2 : Int32) (c : Zc) : Option ((Nat × Int32 × Zc) ⊕ (Zc)) :=
  (zlp (fun a => g_Mo_collect_35 nf a.1 a.2.1 a.2.2) nf (x0, x2, c)).bind fun b => (zgi b.2 b.1 12 81).bind fun v28 => (zpv b.2 b.1 12 81 (.int (v28 + 1))).bind fun c29 => f_Mo_collect_121 nf b.1 c29
def g_Mo_collect_22 (nf : Nat) (x0 : Nat) (x1 : Int32) (c : Zc) : Option ((Nat × Int32 × Zc) ⊕ (Zc)) :=
  if x1 = 0 then (some (.inr c)) else ((zob c x0 12).bind fun w8 => (f_Mo_holds nf x0 c).bind fun q7 => if q7.1 = 0 then (f_Mo_collect_121 nf x0 q7.2) else (f_Mo_collect_35 nf x0 0 q7.2))
def f_Mo_collect_22 (nf : Nat) (x0 : Nat) (x1 : Int32) (c : Zc) : Option (Zc) :=
  (zlp (fun a => g_Mo_collect_22 nf a.1 a.2.1 a.2.2) nf (x0, x1, c)).bind fun b => some b
def f_Mo_collect_21 (nf : Nat) (x0 : Nat) (s0 : Int32) (c : Zc) : Option (Zc) :=
  f_Mo_collect_22 nf x0 s0 c
def f_Mo_collect (nf : Nat) (a0 : Nat) (c : Zc) : Option (Zc) :=
  (zpv c a0 12 81 (.int 0)).bind fun c1 => (zob c1 a0 12).bind fun w3 => (f_Mo_firstRow nf a0 c1).bind fun q2 => (zgi q2 a0 12 0).bind fun v4 => if v4 ≤ 0 then (f_Mo_collect_21 nf a0 0 q2) else (f_Mo_collect_21 nf a0 1 q2)
set_option maxRecDepth 100000 in
set_option maxHeartbeats 4000000 in
theorem t_Mo_collect_121  (X : zX p s m args cd D cid B bb_Mo_collect 4 rr_Mo zT) (H : zH s meth B n0 none "collect") {nf : Nat} {x0 : Nat} {c : Zc} {r : (Nat × Int32 × Zc) ⊕ (Zc)} (h : f_Mo_collect_121 nf x0 c = some r) (k0 : ∀ a, r = .inl a → (fun a : Nat × Int32 × Zc => Zz p l e (zRm 5 114 0 0) s m args below meth cd Q D cid B 4 0 0 a.2.2 22 [(0, .ref a.1), (1, .int a.2.1)] []) a) (k1 : ∀ b, r = .inr b → (fun b : Zc => Zz p l e (zRm 5 114 0 0) s m args below meth cd Q D cid B 4 0 0 b 130 [] []) b) : Zz p l e (zRm 5 114 0 0) s m args below meth cd Q D cid B 4 0 0 c 121 [(0, .ref x0)] [] := by
  unfold f_Mo_collect_121 at h
  refine z_aload_n X dd_Mo_collect_121 rfl 0 rfl ?_
  refine z_iconst (v := 0) X dd_Mo_collect_122 (by decide) ?_
  obtain ⟨w11, ew11, h⟩ := zb h
  obtain ⟨q10, eq10, h⟩ := zb h
  refine z_callVi X [.int 0] rfl dd_Mo_collect_123 (c_Mo_goesOn l eq10) (cwV 1 X.1.2.2.2.2 (zg_V km_2121 km_2123 km_117 km_138 km_2124) rfl rfl rfl (by decide +kernel) ⟨Nat.le_of_ble_eq_true rfl, Nat.le_of_ble_eq_true rfl⟩) (zob_s ew11) kc_12 rfl (Nat.le_of_ble_eq_true rfl) ⟨Nat.le_of_ble_eq_true rfl, Nat.le_of_ble_eq_true rfl⟩ ?_
  refine z_istore_n (lv' := [(1, .int q10.1), (0, .ref x0)]) X dd_Mo_collect_126 rfl (by decide) rfl ?_
  refine z_goto (tgt := 22) X dd_Mo_collect_127 (by decide) ?_
  refine z_sub [1, 0] rfl ?_
  obtain rfl := Option.some.inj h
  exact k0 _ rfl
set_option maxRecDepth 100000 in
set_option maxHeartbeats 4000000 in
theorem t_Mo_collect_104  (X : zX p s m args cd D cid B bb_Mo_collect 4 rr_Mo zT) (H : zH s meth B n0 none "collect") {nf : Nat} {x0 : Nat} {x2 : Int32} {s0 : Nat} {s1 : Int32} {s2 : Int32} {c : Zc} {r : (Nat × Int32 × Zc) ⊕ (Nat × Zc)} (h : f_Mo_collect_104 nf x0 x2 s0 s1 s2 c = some r) (k0 : ∀ a, r = .inl a → (fun a : Nat × Int32 × Zc => Zz p l e (zRm 5 114 0 0) s m args below meth cd Q D cid B 4 0 0 a.2.2 35 [(0, .ref a.1), (2, .int a.2.1)] []) a) (k1 : ∀ b, r = .inr b → (fun b : Nat × Zc => Zz p l e (zRm 5 114 0 0) s m args below meth cd Q D cid B 4 0 0 b.2 111 [(0, .ref b.1)] []) b) : Zz p l e (zRm 5 114 0 0) s m args below meth cd Q D cid B 4 0 0 c 104 [(0, .ref x0), (2, .int x2)] [.int s2, .int s1, .ref s0] := by
  unfold f_Mo_collect_104 at h
  obtain ⟨c27, ec27, h⟩ := zb h
  refine z_iastore X dd_Mo_collect_104 rfl ec27 ?_
  refine z_iinc (v := (x2 + 1)) (lv' := [(2, .int (x2 + 1)), (0, .ref x0)]) X dd_Mo_collect_105 1 rfl rfl (by decide) rfl ?_
  refine z_goto (tgt := 35) X dd_Mo_collect_108 (by decide) ?_
  refine z_sub [1, 0] rfl ?_
  obtain rfl := Option.some.inj h
  exact k0 _ rfl
set_option maxRecDepth 100000 in
set_option maxHeartbeats 4000000 in
theorem u_Mo_collect_35  (X : zX p s m args cd D cid B bb_Mo_collect 4 rr_Mo zT) (H : zH s meth B n0 none "collect") {nf : Nat} {x0 : Nat} {x2 : Int32} {c : Zc} {r : (Nat × Int32 × Zc) ⊕ (Nat × Zc)} (h : g_Mo_collect_35 nf x0 x2 c = some r) (k0 : ∀ a, r = .inl a → (fun a : Nat × Int32 × Zc => Zz p l e (zRm 5 114 0 0) s m args below meth cd Q D cid B 4 0 0 a.2.2 35 [(0, .ref a.1), (2, .int a.2.1)] []) a) (k1 : ∀ b, r = .inr b → (fun b : Nat × Zc => Zz p l e (zRm 5 114 0 0) s m args below meth cd Q D cid B 4 0 0 b.2 111 [(0, .ref b.1)] []) b) : Zz p l e (zRm 5 114 0 0) s m args below meth cd Q D cid B 4 0 0 c 35 [(0, .ref x0), (2, .int x2)] [] := by
  unfold g_Mo_collect_35 at h
  refine z_iload_n X dd_Mo_collect_35 rfl 1 rfl ?_
  refine z_aload_n X dd_Mo_collect_36 rfl 0 rfl ?_
  obtain ⟨v12, ev12, h⟩ := zb h
  refine z_get (j := 43) X dd_Mo_collect_37 kc_12 ki_12 (by decide) km_1564 (zgr_v ev12) ?_
  refine z_aload_n X dd_Mo_collect_40 rfl 0 rfl ?_
  obtain ⟨v13, ev13, h⟩ := zb h
  refine z_get (j := 25) X dd_Mo_collect_41 kc_12 ki_12 (by decide) km_1546 (zgi_v ev13) ?_
  obtain ⟨v14, ev14, h⟩ := zb h
  refine z_iaload X dd_Mo_collect_44 rfl ev14 ?_
  refine z_icmp_ge (tgt := 111) X dd_Mo_collect_45 (by decide) (fun q15 => ?_) (fun q15 => ?_)
  · rw [if_pos q15] at h
    refine z_sub [0] rfl ?_
    obtain rfl := Option.some.inj h
    exact k1 _ rfl
  · rw [if_neg q15] at h
    refine z_bipush (v := 8) X dd_Mo_collect_48 (by decide) ?_
    refine z_aload_n X dd_Mo_collect_50 rfl 0 rfl ?_
    obtain ⟨v16, ev16, h⟩ := zb h
    refine z_get (j := 25) X dd_Mo_collect_51 kc_12 ki_12 (by decide) km_1546 (zgi_v ev16) ?_
    refine z_imul X dd_Mo_collect_54 ?_
    refine z_iload_n X dd_Mo_collect_55 rfl 1 rfl ?_
    refine z_iadd X dd_Mo_collect_56 ?_
    refine z_istore_n (lv' := [(3, .int ((8 * v16) + x2)), (0, .ref x0), (2, .int x2)]) X dd_Mo_collect_57 rfl (by decide) rfl ?_
    refine z_aload_n X dd_Mo_collect_58 rfl 1 rfl ?_
    obtain ⟨v17, ev17, h⟩ := zb h
    refine z_get (j := 78) X dd_Mo_collect_59 kc_12 ki_12 (by decide) km_1599 (zgr_v ev17) ?_
    refine z_bipush (v := 8) X dd_Mo_collect_62 (by decide) ?_
    refine z_aload_n X dd_Mo_collect_64 rfl 1 rfl ?_
    obtain ⟨v18, ev18, h⟩ := zb h
    refine z_get (j := 81) X dd_Mo_collect_65 kc_12 ki_12 (by decide) km_1602 (zgi_v ev18) ?_
    refine z_imul X dd_Mo_collect_68 ?_
    refine z_iload_n X dd_Mo_collect_69 rfl 2 rfl ?_
    refine z_iadd X dd_Mo_collect_70 ?_
    refine z_aload_n X dd_Mo_collect_71 rfl 1 rfl ?_
    obtain ⟨v19, ev19, h⟩ := zb h
    refine z_get (j := 44) X dd_Mo_collect_72 kc_12 ki_12 (by decide) km_1565 (zgr_v ev19) ?_
    refine z_iload_n X dd_Mo_collect_75 rfl 0 rfl ?_
    obtain ⟨v20, ev20, h⟩ := zb h
    refine z_iaload X dd_Mo_collect_76 rfl ev20 ?_
    refine z_bipush (v := 109) X dd_Mo_collect_77 (by decide) ?_
    refine z_icmp_ne (tgt := 86) X dd_Mo_collect_79 (by decide) (fun q21 => ?_) (fun q21 => ?_)
    · rw [if_neg q21] at h
      refine z_aload_n X dd_Mo_collect_86 rfl 1 rfl ?_
      refine z_aload_n X dd_Mo_collect_87 rfl 1 rfl ?_
      obtain ⟨v22, ev22, h⟩ := zb h
      refine z_get (j := 45) X dd_Mo_collect_88 kc_12 ki_12 (by decide) km_1566 (zgr_v ev22) ?_
      refine z_iload_n X dd_Mo_collect_91 rfl 0 rfl ?_
      obtain ⟨v23, ev23, h⟩ := zb h
      refine z_iaload X dd_Mo_collect_92 rfl ev23 ?_
      refine z_sipush (v := 512) X dd_Mo_collect_93 (by decide) ?_
      refine z_aload_n X dd_Mo_collect_96 rfl 1 rfl ?_
      obtain ⟨v24, ev24, h⟩ := zb h
      refine z_get (j := 25) X dd_Mo_collect_97 kc_12 ki_12 (by decide) km_1546 (zgi_v ev24) ?_
      refine z_imul X dd_Mo_collect_100 ?_
      obtain ⟨w26, ew26, h⟩ := zb h
      obtain ⟨q25, eq25, h⟩ := zb h
      refine z_callVi X [.int v23, .int (512 * v24)] rfl dd_Mo_collect_101 (c_Mo_work l eq25) (cwV 2 X.1.2.2.2.2 (zg_V km_2113 km_2115 km_115 km_138 km_2116) rfl rfl rfl (by decide +kernel) ⟨Nat.le_of_ble_eq_true rfl, Nat.le_of_ble_eq_true rfl⟩) (zob_s ew26) kc_12 rfl (Nat.le_of_ble_eq_true rfl) ⟨Nat.le_of_ble_eq_true rfl, Nat.le_of_ble_eq_true rfl⟩ ?_
      refine z_sub [1, 2] rfl ?_
      exact t_Mo_collect_104 X H h k0 k1
    · rw [if_pos q21] at h
      refine z_iconst (v := 1) X dd_Mo_collect_82 (by decide) ?_
      refine z_goto (tgt := 104) X dd_Mo_collect_83 (by decide) ?_
      refine z_sub [1, 2] rfl ?_
      exact t_Mo_collect_104 X H h k0 k1
set_option maxRecDepth 100000 in
set_option maxHeartbeats 4000000 in
theorem t_Mo_collect_35  (X : zX p s m args cd D cid B bb_Mo_collect 4 rr_Mo zT) (H : zH s meth B n0 none "collect") {nf : Nat} {x0 : Nat} {x2 : Int32} {c : Zc} {r : (Nat × Int32 × Zc) ⊕ (Zc)} (h : f_Mo_collect_35 nf x0 x2 c = some r) (k0 : ∀ a, r = .inl a → (fun a : Nat × Int32 × Zc => Zz p l e (zRm 5 114 0 0) s m args below meth cd Q D cid B 4 0 0 a.2.2 22 [(0, .ref a.1), (1, .int a.2.1)] []) a) (k1 : ∀ b, r = .inr b → (fun b : Zc => Zz p l e (zRm 5 114 0 0) s m args below meth cd Q D cid B 4 0 0 b 130 [] []) b) : Zz p l e (zRm 5 114 0 0) s m args below meth cd Q D cid B 4 0 0 c 35 [(0, .ref x0), (2, .int x2)] [] := by
  unfold f_Mo_collect_35 at h
  obtain ⟨b, eb, h⟩ := zb h
  refine zlp_ok (P := fun a : Nat × Int32 × Zc => Zz p l e (zRm 5 114 0 0) s m args below meth cd _ D cid B 4 0 0 a.2.2 35 [(0, .ref a.1), (2, .int a.2.1)] []) (G := fun b : Nat × Zc => Zz p l e (zRm 5 114 0 0) s m args below meth cd _ D cid B 4 0 0 b.2 111 [(0, .ref b.1)] []) (fun a r ha k0 k1 => u_Mo_collect_35 X H ha k0 k1) nf _ b eb ?_
  refine z_aload_n X dd_Mo_collect_111 rfl 0 rfl ?_
  refine z_dup X dd_Mo_collect_112 rfl ?_
  obtain ⟨v28, ev28, h⟩ := zb h
  refine z_get (j := 81) X dd_Mo_collect_113 kc_12 ki_12 (by decide) km_1602 (zgi_v ev28) ?_
  refine z_iconst (v := 1) X dd_Mo_collect_116 (by decide) ?_
  refine z_iadd X dd_Mo_collect_117 ?_
  obtain ⟨c29, ec29, h⟩ := zb h
  refine z_put (j := 81) X dd_Mo_collect_118 kc_12 ki_12 tt_Mo tk_Mo nn_Mo (by decide) km_1602 rfl (tk_Mo 81 (by decide)) rfl rfl ec29 ?_
  exact t_Mo_collect_121 X H h k0 k1
set_option maxRecDepth 100000 in
set_option maxHeartbeats 4000000 in
theorem u_Mo_collect_22  (X : zX p s m args cd D cid B bb_Mo_collect 4 rr_Mo zT) (H : zH s meth B n0 none "collect") {nf : Nat} {x0 : Nat} {x1 : Int32} {c : Zc} {r : (Nat × Int32 × Zc) ⊕ (Zc)} (h : g_Mo_collect_22 nf x0 x1 c = some r) (k0 : ∀ a, r = .inl a → (fun a : Nat × Int32 × Zc => Zz p l e (zRm 5 114 0 0) s m args below meth cd Q D cid B 4 0 0 a.2.2 22 [(0, .ref a.1), (1, .int a.2.1)] []) a) (k1 : ∀ b, r = .inr b → (fun b : Zc => Zz p l e (zRm 5 114 0 0) s m args below meth cd Q D cid B 4 0 0 b 130 [] []) b) : Zz p l e (zRm 5 114 0 0) s m args below meth cd Q D cid B 4 0 0 c 22 [(0, .ref x0), (1, .int x1)] [] := by
  unfold g_Mo_collect_22 at h
  refine z_iload_n X dd_Mo_collect_22 rfl 1 rfl ?_
  refine z_if_eq (tgt := 130) X dd_Mo_collect_23 (by decide) (fun q6 => ?_) (fun q6 => ?_)
  · rw [if_pos q6] at h
    refine z_sub [] rfl ?_
    obtain rfl := Option.some.inj h
    exact k1 _ rfl
  · rw [if_neg q6] at h
    refine z_aload_n X dd_Mo_collect_26 rfl 0 rfl ?_
    obtain ⟨w8, ew8, h⟩ := zb h
    obtain ⟨q7, eq7, h⟩ := zb h
    refine z_callVi X [] rfl dd_Mo_collect_27 (c_Mo_holds l eq7) (cwV 0 X.1.2.2.2.2 (zg_V km_2101 km_2103 km_112 km_138 km_2104) rfl rfl rfl (by decide +kernel) ⟨Nat.le_of_ble_eq_true rfl, Nat.le_of_ble_eq_true rfl⟩) (zob_s ew8) kc_12 rfl (Nat.le_of_ble_eq_true rfl) ⟨Nat.le_of_ble_eq_true rfl, Nat.le_of_ble_eq_true rfl⟩ ?_
    refine z_if_eq (tgt := 121) X dd_Mo_collect_30 (by decide) (fun q9 => ?_) (fun q9 => ?_)
    · rw [if_pos q9] at h
      refine z_sub [0] rfl ?_
      exact t_Mo_collect_121 X H h k0 k1
    · rw [if_neg q9] at h
      refine z_iconst (v := 0) X dd_Mo_collect_33 (by decide) ?_
      refine z_istore_n (lv' := [(2, .int 0), (0, .ref x0), (1, .int x1)]) X dd_Mo_collect_34 rfl (by decide) rfl ?_
      refine z_sub [1, 0] rfl ?_
      exact t_Mo_collect_35 X H h k0 k1
set_option maxRecDepth 100000 in
set_option maxHeartbeats 4000000 in
theorem t_Mo_collect_22  (X : zX p s m args cd D cid B bb_Mo_collect 4 rr_Mo zT) (H : zH s meth B n0 none "collect") {nf : Nat} {x0 : Nat} {x1 : Int32} {c : Zc} {res : Zc} (h : f_Mo_collect_22 nf x0 x1 c = some res) : Zz p l e (zRm 5 114 0 0) s m args below meth cd (MQ below (zQv D cid B res n0 0) args s 0 0 (fun q => B ≤ q)) D cid B 4 0 0 c 22 [(0, .ref x0), (1, .int x1)] [] := by
  unfold f_Mo_collect_22 at h
  obtain ⟨b, eb, h⟩ := zb h
  refine zlp_ok (P := fun a : Nat × Int32 × Zc => Zz p l e (zRm 5 114 0 0) s m args below meth cd _ D cid B 4 0 0 a.2.2 22 [(0, .ref a.1), (1, .int a.2.1)] []) (G := fun b : Zc => Zz p l e (zRm 5 114 0 0) s m args below meth cd _ D cid B 4 0 0 b 130 [] []) (fun a r ha k0 k1 => u_Mo_collect_22 X H ha k0 k1) nf _ b eb ?_
  obtain rfl := Option.some.inj h
  exact z_vret X H.1 H.2.1 H.2.2.1 dd_Mo_collect_130
set_option maxRecDepth 100000 in
set_option maxHeartbeats 4000000 in
theorem t_Mo_collect_21  (X : zX p s m args cd D cid B bb_Mo_collect 4 rr_Mo zT) (H : zH s meth B n0 none "collect") {nf : Nat} {x0 : Nat} {s0 : Int32} {c : Zc} {res : Zc} (h : f_Mo_collect_21 nf x0 s0 c = some res) : Zz p l e (zRm 5 114 0 0) s m args below meth cd (MQ below (zQv D cid B res n0 0) args s 0 0 (fun q => B ≤ q)) D cid B 4 0 0 c 21 [(0, .ref x0)] [.int s0] := by
  unfold f_Mo_collect_21 at h
  refine z_istore_n (lv' := [(1, .int s0), (0, .ref x0)]) X dd_Mo_collect_21 rfl (by decide) rfl ?_
  refine z_sub [1, 0] rfl ?_
  exact t_Mo_collect_22 X H h
set_option maxRecDepth 100000 in
set_option maxHeartbeats 4000000 in
theorem c_Mo_collect (l : Launch) {nf : Nat} {a0 : Nat} {c : Zc} {res : Zc} (h : f_Mo_collect nf a0 c = some res) : zM l yy_Mo_collect ww_Mo_collect 5 114 0 0 [.ref a0] c (fun D cid B => zQv D cid B res c.length 0) := by
  refine z_met (cc := bb_Mo_collect) (maxL := 4) (ret := none) (by decide +kernel) rfl (Nat.le_of_ble_eq_true rfl) ?_
  intro p e s m args below meth cd D cid B X h1 h2 h3 h4
  have X : zX p s m args cd D cid B bb_Mo_collect 4 rr_Mo zT := X
  have H : zH s meth B c.length none "collect" := ⟨h1, h2, h4, h3⟩
  unfold f_Mo_collect at h
  show Zz p l e (zRm 5 114 0 0) s m args below meth cd _ D cid B 4 0 0 c 0 [(0, .ref a0)] []
  refine z_aload_n X dd_Mo_collect_0 rfl 0 rfl ?_
  refine z_iconst (v := 0) X dd_Mo_collect_1 (by decide) ?_
  obtain ⟨c1, ec1, h⟩ := zb h
  refine z_put (j := 81) X dd_Mo_collect_2 kc_12 ki_12 tt_Mo tk_Mo nn_Mo (by decide) km_1602 rfl (tk_Mo 81 (by decide)) rfl rfl ec1 ?_
  refine z_aload_n X dd_Mo_collect_5 rfl 0 rfl ?_
  obtain ⟨w3, ew3, h⟩ := zb h
  obtain ⟨q2, eq2, h⟩ := zb h
  refine z_callVv X [] rfl dd_Mo_collect_6 (c_Mo_firstRow l eq2) (cwV 0 X.1.2.2.2.2 (zg_V km_2097 km_2099 km_111 km_138 km_2100) rfl rfl rfl (by decide +kernel) ⟨Nat.le_of_ble_eq_true rfl, Nat.le_of_ble_eq_true rfl⟩) (zob_s ew3) kc_12 rfl (Nat.le_of_ble_eq_true rfl) ⟨Nat.le_of_ble_eq_true rfl, Nat.le_of_ble_eq_true rfl⟩ ?_
  refine z_aload_n X dd_Mo_collect_9 rfl 0 rfl ?_
  obtain ⟨v4, ev4, h⟩ := zb h
  refine z_get (j := 0) X dd_Mo_collect_10 kc_12 ki_12 (by decide) km_1521 (zgi_v ev4) ?_
  refine z_if_le (tgt := 20) X dd_Mo_collect_13 (by decide) (fun q5 => ?_) (fun q5 => ?_)
  · rw [if_pos q5] at h
    refine z_iconst (v := 0) X dd_Mo_collect_20 (by decide) ?_
    exact t_Mo_collect_21 X H h
  · rw [if_neg q5] at h
    refine z_iconst (v := 1) X dd_Mo_collect_16 (by decide) ?_
    refine z_goto (tgt := 21) X dd_Mo_collect_17 (by decide) ?_
    exact t_Mo_collect_21 X H h
theorem dd_Mo_together_0 : decode bb_Mo_together 0 = .ok (.aload_n 0, 1) := by decide +kernel
theorem dd_Mo_together_1 : decode bb_Mo_together 1 = .ok (.getfield 119, 3) := by decide +kernel
theorem dd_Mo_together_4 : decode bb_Mo_together 4 = .ok (.bipush 8, 2) := by decide +kernel
theorem dd_Mo_together_6 : decode bb_Mo_together 6 = .ok (.aload_n 0, 1) := by decide +kernel
theorem dd_Mo_together_7 : decode bb_Mo_together 7 = .ok (.getfield 331, 3) := by decide +kernel
theorem dd_Mo_together_10 : decode bb_Mo_together 10 = .ok (.imul, 1) := by decide +kernel
theorem dd_Mo_together_11 : decode bb_Mo_together 11 = .ok (.iload_n 3, 1) := by decide +kernel
theorem dd_Mo_together_12 : decode bb_Mo_together 12 = .ok (.iadd, 1) := by decide +kernel
theorem dd_Mo_together_13 : decode bb_Mo_together 13 = .ok (.iaload, 1) := by decide +kernel
theorem dd_Mo_together_14 : decode bb_Mo_together 14 = .ok (.istore 4, 2) := by decide +kernel
theorem dd_Mo_together_16 : decode bb_Mo_together 16 = .ok (.aload_n 0, 1) := by decide +kernel
theorem dd_Mo_together_17 : decode bb_Mo_together 17 = .ok (.getfield 204, 3) := by decide +kernel
theorem dd_Mo_together_20 : decode bb_Mo_together 20 = .ok (.bipush 8, 2) := by decide +kernel
theorem dd_Mo_together_22 : decode bb_Mo_together 22 = .ok (.aload_n 0, 1) := by decide +kernel
theorem dd_Mo_together_23 : decode bb_Mo_together 23 = .ok (.getfield 207, 3) := by decide +kernel
theorem dd_Mo_together_26 : decode bb_Mo_together 26 = .ok (.iload_n 1, 1) := by decide +kernel
theorem dd_Mo_together_27 : decode bb_Mo_together 27 = .ok (.iaload, 1) := by decide +kernel
theorem dd_Mo_together_28 : decode bb_Mo_together 28 = .ok (.imul, 1) := by decide +kernel
theorem dd_Mo_together_29 : decode bb_Mo_together 29 = .ok (.iload_n 3, 1) := by decide +kernel
theorem dd_Mo_together_30 : decode bb_Mo_together 30 = .ok (.iadd, 1) := by decide +kernel
theorem dd_Mo_together_31 : decode bb_Mo_together 31 = .ok (.iaload, 1) := by decide +kernel
theorem dd_Mo_together_32 : decode bb_Mo_together 32 = .ok (.istore 5, 2) := by decide +kernel
theorem dd_Mo_together_34 : decode bb_Mo_together 34 = .ok (.iload 4, 2) := by decide +kernel
theorem dd_Mo_together_36 : decode bb_Mo_together 36 = .ok (.ifCond .ne 6, 3) := by decide +kernel
theorem dd_Mo_together_39 : decode bb_Mo_together 39 = .ok (.iload 5, 2) := by decide +kernel
theorem dd_Mo_together_41 : decode bb_Mo_together 41 = .ok (.ireturn, 1) := by decide +kernel
theorem dd_Mo_together_42 : decode bb_Mo_together 42 = .ok (.iload 4, 2) := by decide +kernel
theorem dd_Mo_together_44 : decode bb_Mo_together 44 = .ok (.bipush 109, 2) := by decide +kernel
theorem dd_Mo_together_46 : decode bb_Mo_together 46 = .ok (.if_icmp .ne 7, 3) := by decide +kernel
theorem dd_Mo_together_49 : decode bb_Mo_together 49 = .ok (.iload_n 2, 1) := by decide +kernel
theorem dd_Mo_together_50 : decode bb_Mo_together 50 = .ok (.iload_n 1, 1) := by decide +kernel
theorem dd_Mo_together_51 : decode bb_Mo_together 51 = .ok (.isub, 1) := by decide +kernel
theorem dd_Mo_together_52 : decode bb_Mo_together 52 = .ok (.ireturn, 1) := by decide +kernel
theorem dd_Mo_together_53 : decode bb_Mo_together 53 = .ok (.lconst 0, 1) := by decide +kernel
theorem dd_Mo_together_54 : decode bb_Mo_together 54 = .ok (.lstore 6, 2) := by decide +kernel
theorem dd_Mo_together_56 : decode bb_Mo_together 56 = .ok (.iload 5, 2) := by decide +kernel
theorem dd_Mo_together_58 : decode bb_Mo_together 58 = .ok (.istore 8, 2) := by decide +kernel
theorem dd_Mo_together_60 : decode bb_Mo_together 60 = .ok (.iload 5, 2) := by decide +kernel
theorem dd_Mo_together_62 : decode bb_Mo_together 62 = .ok (.istore 9, 2) := by decide +kernel
theorem dd_Mo_together_64 : decode bb_Mo_together 64 = .ok (.iload_n 1, 1) := by decide +kernel
theorem dd_Mo_together_65 : decode bb_Mo_together 65 = .ok (.istore 10, 2) := by decide +kernel
theorem dd_Mo_together_67 : decode bb_Mo_together 67 = .ok (.iload 10, 2) := by decide +kernel
theorem dd_Mo_together_69 : decode bb_Mo_together 69 = .ok (.iload_n 2, 1) := by decide +kernel
theorem dd_Mo_together_70 : decode bb_Mo_together 70 = .ok (.if_icmp .ge 68, 3) := by decide +kernel
theorem dd_Mo_together_73 : decode bb_Mo_together 73 = .ok (.aload_n 0, 1) := by decide +kernel
theorem dd_Mo_together_74 : decode bb_Mo_together 74 = .ok (.getfield 204, 3) := by decide +kernel
theorem dd_Mo_together_77 : decode bb_Mo_together 77 = .ok (.bipush 8, 2) := by decide +kernel
theorem dd_Mo_together_79 : decode bb_Mo_together 79 = .ok (.aload_n 0, 1) := by decide +kernel
theorem dd_Mo_together_80 : decode bb_Mo_together 80 = .ok (.getfield 207, 3) := by decide +kernel
theorem dd_Mo_together_83 : decode bb_Mo_together 83 = .ok (.iload 10, 2) := by decide +kernel
theorem dd_Mo_together_85 : decode bb_Mo_together 85 = .ok (.iaload, 1) := by decide +kernel
theorem dd_Mo_together_86 : decode bb_Mo_together 86 = .ok (.imul, 1) := by decide +kernel
theorem dd_Mo_together_87 : decode bb_Mo_together 87 = .ok (.iload_n 3, 1) := by decide +kernel
theorem dd_Mo_together_88 : decode bb_Mo_together 88 = .ok (.iadd, 1) := by decide +kernel
theorem dd_Mo_together_89 : decode bb_Mo_together 89 = .ok (.iaload, 1) := by decide +kernel
theorem dd_Mo_together_90 : decode bb_Mo_together 90 = .ok (.istore 11, 2) := by decide +kernel
theorem dd_Mo_together_92 : decode bb_Mo_together 92 = .ok (.lload 6, 2) := by decide +kernel
theorem dd_Mo_together_94 : decode bb_Mo_together 94 = .ok (.iload 11, 2) := by decide +kernel
theorem dd_Mo_together_96 : decode bb_Mo_together 96 = .ok (.i2l, 1) := by decide +kernel
theorem dd_Mo_together_97 : decode bb_Mo_together 97 = .ok (.ladd, 1) := by decide +kernel
theorem dd_Mo_together_98 : decode bb_Mo_together 98 = .ok (.lstore 6, 2) := by decide +kernel
theorem dd_Mo_together_100 : decode bb_Mo_together 100 = .ok (.iload 11, 2) := by decide +kernel
theorem dd_Mo_together_102 : decode bb_Mo_together 102 = .ok (.iload 8, 2) := by decide +kernel
theorem dd_Mo_together_104 : decode bb_Mo_together 104 = .ok (.if_icmp .ge 8, 3) := by decide +kernel
theorem dd_Mo_together_107 : decode bb_Mo_together 107 = .ok (.iload 11, 2) := by decide +kernel
theorem dd_Mo_together_109 : decode bb_Mo_together 109 = .ok (.goto 5, 3) := by decide +kernel
theorem dd_Mo_together_112 : decode bb_Mo_together 112 = .ok (.iload 8, 2) := by decide +kernel
theorem dd_Mo_together_114 : decode bb_Mo_together 114 = .ok (.istore 8, 2) := by decide +kernel
theorem dd_Mo_together_116 : decode bb_Mo_together 116 = .ok (.iload 11, 2) := by decide +kernel
theorem dd_Mo_together_118 : decode bb_Mo_together 118 = .ok (.iload 9, 2) := by decide +kernel
theorem dd_Mo_together_120 : decode bb_Mo_together 120 = .ok (.if_icmp .le 8, 3) := by decide +kernel
theorem dd_Mo_together_123 : decode bb_Mo_together 123 = .ok (.iload 11, 2) := by decide +kernel
theorem dd_Mo_together_125 : decode bb_Mo_together 125 = .ok (.goto 5, 3) := by decide +kernel
theorem dd_Mo_together_128 : decode bb_Mo_together 128 = .ok (.iload 9, 2) := by decide +kernel
theorem dd_Mo_together_130 : decode bb_Mo_together 130 = .ok (.istore 9, 2) := by decide +kernel
theorem dd_Mo_together_132 : decode bb_Mo_together 132 = .ok (.iinc 10 1, 3) := by decide +kernel
theorem dd_Mo_together_135 : decode bb_Mo_together 135 = .ok (.goto (-68), 3) := by decide +kernel
theorem dd_Mo_together_138 : decode bb_Mo_together 138 = .ok (.iload 4, 2) := by decide +kernel
theorem dd_Mo_together_140 : decode bb_Mo_together 140 = .ok (.bipush 110, 2) := by decide +kernel
theorem dd_Mo_together_142 : decode bb_Mo_together 142 = .ok (.if_icmp .ne 11, 3) := by decide +kernel
theorem dd_Mo_together_145 : decode bb_Mo_together 145 = .ok (.lload 6, 2) := by decide +kernel
theorem dd_Mo_together_147 : decode bb_Mo_together 147 = .ok (.invokestatic 482, 3) := by decide +kernel
theorem dd_Mo_together_150 : decode bb_Mo_together 150 = .ok (.goto 17, 3) := by decide +kernel
theorem dd_Mo_together_153 : decode bb_Mo_together 153 = .ok (.iload 4, 2) := by decide +kernel
theorem dd_Mo_together_155 : decode bb_Mo_together 155 = .ok (.bipush 111, 2) := by decide +kernel
theorem dd_Mo_together_157 : decode bb_Mo_together 157 = .ok (.if_icmp .ne 8, 3) := by decide +kernel
theorem dd_Mo_together_160 : decode bb_Mo_together 160 = .ok (.iload 8, 2) := by decide +kernel
theorem dd_Mo_together_162 : decode bb_Mo_together 162 = .ok (.goto 5, 3) := by decide +kernel
theorem dd_Mo_together_165 : decode bb_Mo_together 165 = .ok (.iload 9, 2) := by decide +kernel
theorem dd_Mo_together_167 : decode bb_Mo_together 167 = .ok (.ireturn, 1) := by decide +kernel
def f_Mo_together_130 (nf : Nat) (x0 : Nat) (x2 : Int32) (x3 : Int32) (x4 : Int32) (x6 : Int64) (x8 : Int32) (x10 : Int32) (s0 : Int32) (c : Zc) : Option ((Nat × Int32 × Int32 × Int32 × Int64 × Int32 × Int32 × Int32 × Zc) ⊕ (Int32 × Int64 × Int32 × Int32 × Zc)) :=
  some (.inl (x0, x2, x3, x4, x6, x8, s0, (x10 + 1), c))
def f_Mo_together_114 (nf : Nat) (x0 : Nat) (x2 : Int32) (x3 : Int32) (x4 : Int32) (x6 : Int64) (x9 : Int32) (x10 : Int32) (x11 : Int32) (s0 : Int32) (c : Zc) : Option ((Nat × Int32 × Int32 × Int32 × Int64 × Int32 × Int32 × Int32 × Zc) ⊕ (Int32 × Int64 × Int32 × Int32 × Zc)) :=
  if x11 ≤ x9 then (f_Mo_together_130 nf x0 x2 x3 x4 x6 s0 x10 x9 c) else (f_Mo_together_130 nf x0 x2 x3 x4 x6 s0 x10 x11 c)
def g_Mo_together_67 (nf : Nat) (x0 : Nat) (x2 : Int32) (x3 : Int32) (x4 : Int32) (x6 : Int64) (x8 : Int32) (x9 : Int32) (x10 : Int32) (c : Zc) : Option ((Nat × Int32 × Int32 × Int32 × Int64 × Int32 × Int32 × Int32 × Zc) ⊕ (Int32 × Int64 × Int32 × Int32 × Zc)) :=
  if x2 ≤ x10 then (some (.inr (x4, x6, x8, x9, c))) else ((zgr c x0 12 78).bind fun v11 => (zgr c x0 12 79).bind fun v12 => (zai c v12 0 x10).bind fun v13 => (zai c v11 0 ((8 * v13) + x3)).bind fun v14 => if x8 ≤ v14 then (f_Mo_together_114 nf x0 x2 x3 x4 (x6 + (Int32.toInt64 v14)) x9 x10 v14 x8 c) else (f_Mo_together_114 nf x0 x2 x3 x4 (x6 + (Int32.toInt64 v14)) x9 x10 v14 v14 c))
def f_Mo_together_167 (nf : Nat) (s0 : Int32) (c : Zc) : Option (Int32 × Zc) :=
  some (s0, c)
def f_Mo_together_67 (nf : Nat) (x0 : Nat) (x2 : Int32) (x3 : Int32) (x4 : Int32) (x6 : Int64) (x8 : Int32) (x9 : Int32) (x10 : Int32) (c : Zc) : Option (Int32 × Zc) :=
  (zlp (fun a => g_Mo_together_67 nf a.1 a.2.1 a.2.2.1 a.2.2.2.1 a.2.2.2.2.1 a.2.2.2.2.2.1 a.2.2.2.2.2.2.1 a.2.2.2.2.2.2.2.1 a.2.2.2.2.2.2.2.2) nf (x0, x2, x3, x4, x6, x8, x9, x10, c)).bind fun b => if b.1 = 110 then ((f_Mo_bounded nf b.2.1 b.2.2.2.2).bind fun q19 => f_Mo_together_167 nf q19.1 q19.2) else (if b.1 = 111 then (f_Mo_together_167 nf b.2.2.1 b.2.2.2.2) else (f_Mo_together_167 nf b.2.2.2.1 b.2.2.2.2))
def f_Mo_together (nf : Nat) (a0 : Nat) (a1 : Int32) (a2 : Int32) (a3 : Int32) (c : Zc) : Option (Int32 × Zc) :=
  (zgr c a0 12 44).bind fun v1 => (zgi c a0 12 25).bind fun v2 => (zai c v1 0 ((8 * v2) + a3)).bind fun v3 => (zgr c a0 12 78).bind fun v4 => (zgr c a0 12 79).bind fun v5 => (zai c v5 0 a1).bind fun v6 => (zai c v4 0 ((8 * v6) + a3)).bind fun v7 => if v3 = 0 then (some (v7, c)) else (if v3 = 109 then (some ((a2 - a1), c)) else (f_Mo_together_67 nf a0 a2 a3 v3 0 v7 v7 a1 c))
set_option maxRecDepth 100000 in
set_option maxHeartbeats 4000000 in
theorem t_Mo_together_130  (X : zX p s m args cd D cid B bb_Mo_together 12 rr_Mo zT) (H : zH s meth B n0 (some (.int)) "together") {nf : Nat} {x0 : Nat} {x2 : Int32} {x3 : Int32} {x4 : Int32} {x6 : Int64} {x8 : Int32} {x10 : Int32} {s0 : Int32} {c : Zc} {r : (Nat × Int32 × Int32 × Int32 × Int64 × Int32 × Int32 × Int32 × Zc) ⊕ (Int32 × Int64 × Int32 × Int32 × Zc)} (h : f_Mo_together_130 nf x0 x2 x3 x4 x6 x8 x10 s0 c = some r) (k0 : ∀ a, r = .inl a → (fun a : Nat × Int32 × Int32 × Int32 × Int64 × Int32 × Int32 × Int32 × Zc => Zz p l e (zRm 1 21 0 0) s m args below meth cd Q D cid B 12 0 0 a.2.2.2.2.2.2.2.2 67 [(0, .ref a.1), (2, .int a.2.1), (3, .int a.2.2.1), (4, .int a.2.2.2.1), (6, .long a.2.2.2.2.1), (8, .int a.2.2.2.2.2.1), (9, .int a.2.2.2.2.2.2.1), (10, .int a.2.2.2.2.2.2.2.1)] []) a) (k1 : ∀ b, r = .inr b → (fun b : Int32 × Int64 × Int32 × Int32 × Zc => Zz p l e (zRm 1 21 0 0) s m args below meth cd Q D cid B 12 0 0 b.2.2.2.2 138 [(4, .int b.1), (6, .long b.2.1), (8, .int b.2.2.1), (9, .int b.2.2.2.1)] []) b) : Zz p l e (zRm 1 21 0 0) s m args below meth cd Q D cid B 12 0 0 c 130 [(0, .ref x0), (2, .int x2), (3, .int x3), (4, .int x4), (6, .long x6), (8, .int x8), (10, .int x10)] [.int s0] := by
  unfold f_Mo_together_130 at h
  refine z_istore (lv' := [(9, .int s0), (0, .ref x0), (2, .int x2), (3, .int x3), (4, .int x4), (6, .long x6), (8, .int x8), (10, .int x10)]) X dd_Mo_together_130 (by decide) rfl ?_
  refine z_iinc (v := (x10 + 1)) (lv' := [(10, .int (x10 + 1)), (9, .int s0), (0, .ref x0), (2, .int x2), (3, .int x3), (4, .int x4), (6, .long x6), (8, .int x8)]) X dd_Mo_together_132 7 rfl rfl (by decide) rfl ?_
  refine z_goto (tgt := 67) X dd_Mo_together_135 (by decide) ?_
  refine z_sub [2, 3, 4, 5, 6, 7, 1, 0] rfl ?_
  obtain rfl := Option.some.inj h
  exact k0 _ rfl
set_option maxRecDepth 100000 in
set_option maxHeartbeats 4000000 in
theorem t_Mo_together_114  (X : zX p s m args cd D cid B bb_Mo_together 12 rr_Mo zT) (H : zH s meth B n0 (some (.int)) "together") {nf : Nat} {x0 : Nat} {x2 : Int32} {x3 : Int32} {x4 : Int32} {x6 : Int64} {x9 : Int32} {x10 : Int32} {x11 : Int32} {s0 : Int32} {c : Zc} {r : (Nat × Int32 × Int32 × Int32 × Int64 × Int32 × Int32 × Int32 × Zc) ⊕ (Int32 × Int64 × Int32 × Int32 × Zc)} (h : f_Mo_together_114 nf x0 x2 x3 x4 x6 x9 x10 x11 s0 c = some r) (k0 : ∀ a, r = .inl a → (fun a : Nat × Int32 × Int32 × Int32 × Int64 × Int32 × Int32 × Int32 × Zc => Zz p l e (zRm 1 21 0 0) s m args below meth cd Q D cid B 12 0 0 a.2.2.2.2.2.2.2.2 67 [(0, .ref a.1), (2, .int a.2.1), (3, .int a.2.2.1), (4, .int a.2.2.2.1), (6, .long a.2.2.2.2.1), (8, .int a.2.2.2.2.2.1), (9, .int a.2.2.2.2.2.2.1), (10, .int a.2.2.2.2.2.2.2.1)] []) a) (k1 : ∀ b, r = .inr b → (fun b : Int32 × Int64 × Int32 × Int32 × Zc => Zz p l e (zRm 1 21 0 0) s m args below meth cd Q D cid B 12 0 0 b.2.2.2.2 138 [(4, .int b.1), (6, .long b.2.1), (8, .int b.2.2.1), (9, .int b.2.2.2.1)] []) b) : Zz p l e (zRm 1 21 0 0) s m args below meth cd Q D cid B 12 0 0 c 114 [(0, .ref x0), (2, .int x2), (3, .int x3), (4, .int x4), (6, .long x6), (9, .int x9), (10, .int x10), (11, .int x11)] [.int s0] := by
  unfold f_Mo_together_114 at h
  refine z_istore (lv' := [(8, .int s0), (0, .ref x0), (2, .int x2), (3, .int x3), (4, .int x4), (6, .long x6), (9, .int x9), (10, .int x10), (11, .int x11)]) X dd_Mo_together_114 (by decide) rfl ?_
  refine z_iload X dd_Mo_together_116 8 rfl ?_
  refine z_iload X dd_Mo_together_118 6 rfl ?_
  refine z_icmp_le (tgt := 128) X dd_Mo_together_120 (by decide) (fun q16 => ?_) (fun q16 => ?_)
  · rw [if_pos q16] at h
    refine z_iload X dd_Mo_together_128 6 rfl ?_
    refine z_sub [1, 2, 3, 4, 5, 0, 7] rfl ?_
    exact t_Mo_together_130 X H h k0 k1
  · rw [if_neg q16] at h
    refine z_iload X dd_Mo_together_123 8 rfl ?_
    refine z_goto (tgt := 130) X dd_Mo_together_125 (by decide) ?_
    refine z_sub [1, 2, 3, 4, 5, 0, 7] rfl ?_
    exact t_Mo_together_130 X H h k0 k1
set_option maxRecDepth 100000 in
set_option maxHeartbeats 4000000 in
theorem u_Mo_together_67  (X : zX p s m args cd D cid B bb_Mo_together 12 rr_Mo zT) (H : zH s meth B n0 (some (.int)) "together") {nf : Nat} {x0 : Nat} {x2 : Int32} {x3 : Int32} {x4 : Int32} {x6 : Int64} {x8 : Int32} {x9 : Int32} {x10 : Int32} {c : Zc} {r : (Nat × Int32 × Int32 × Int32 × Int64 × Int32 × Int32 × Int32 × Zc) ⊕ (Int32 × Int64 × Int32 × Int32 × Zc)} (h : g_Mo_together_67 nf x0 x2 x3 x4 x6 x8 x9 x10 c = some r) (k0 : ∀ a, r = .inl a → (fun a : Nat × Int32 × Int32 × Int32 × Int64 × Int32 × Int32 × Int32 × Zc => Zz p l e (zRm 1 21 0 0) s m args below meth cd Q D cid B 12 0 0 a.2.2.2.2.2.2.2.2 67 [(0, .ref a.1), (2, .int a.2.1), (3, .int a.2.2.1), (4, .int a.2.2.2.1), (6, .long a.2.2.2.2.1), (8, .int a.2.2.2.2.2.1), (9, .int a.2.2.2.2.2.2.1), (10, .int a.2.2.2.2.2.2.2.1)] []) a) (k1 : ∀ b, r = .inr b → (fun b : Int32 × Int64 × Int32 × Int32 × Zc => Zz p l e (zRm 1 21 0 0) s m args below meth cd Q D cid B 12 0 0 b.2.2.2.2 138 [(4, .int b.1), (6, .long b.2.1), (8, .int b.2.2.1), (9, .int b.2.2.2.1)] []) b) : Zz p l e (zRm 1 21 0 0) s m args below meth cd Q D cid B 12 0 0 c 67 [(0, .ref x0), (2, .int x2), (3, .int x3), (4, .int x4), (6, .long x6), (8, .int x8), (9, .int x9), (10, .int x10)] [] := by
  unfold g_Mo_together_67 at h
  refine z_iload X dd_Mo_together_67 7 rfl ?_
  refine z_iload_n X dd_Mo_together_69 rfl 1 rfl ?_
  refine z_icmp_ge (tgt := 138) X dd_Mo_together_70 (by decide) (fun q10 => ?_) (fun q10 => ?_)
  · rw [if_pos q10] at h
    refine z_sub [3, 4, 5, 6] rfl ?_
    obtain rfl := Option.some.inj h
    exact k1 _ rfl
  · rw [if_neg q10] at h
    refine z_aload_n X dd_Mo_together_73 rfl 0 rfl ?_
    obtain ⟨v11, ev11, h⟩ := zb h
    refine z_get (j := 78) X dd_Mo_together_74 kc_12 ki_12 (by decide) km_1599 (zgr_v ev11) ?_
    refine z_bipush (v := 8) X dd_Mo_together_77 (by decide) ?_
    refine z_aload_n X dd_Mo_together_79 rfl 0 rfl ?_
    obtain ⟨v12, ev12, h⟩ := zb h
    refine z_get (j := 79) X dd_Mo_together_80 kc_12 ki_12 (by decide) km_1600 (zgr_v ev12) ?_
    refine z_iload X dd_Mo_together_83 7 rfl ?_
    obtain ⟨v13, ev13, h⟩ := zb h
    refine z_iaload X dd_Mo_together_85 rfl ev13 ?_
    refine z_imul X dd_Mo_together_86 ?_
    refine z_iload_n X dd_Mo_together_87 rfl 2 rfl ?_
    refine z_iadd X dd_Mo_together_88 ?_
    obtain ⟨v14, ev14, h⟩ := zb h
    refine z_iaload X dd_Mo_together_89 rfl ev14 ?_
    refine z_istore (lv' := [(11, .int v14), (0, .ref x0), (2, .int x2), (3, .int x3), (4, .int x4), (6, .long x6), (8, .int x8), (9, .int x9), (10, .int x10)]) X dd_Mo_together_90 (by decide) rfl ?_
    refine z_lload X dd_Mo_together_92 5 rfl ?_
    refine z_iload X dd_Mo_together_94 0 rfl ?_
    refine z_i2l X dd_Mo_together_96 ?_
    refine z_ladd X dd_Mo_together_97 ?_
    refine z_lstore (lv' := [(6, .long (x6 + (Int32.toInt64 v14))), (11, .int v14), (0, .ref x0), (2, .int x2), (3, .int x3), (4, .int x4), (8, .int x8), (9, .int x9), (10, .int x10)]) X dd_Mo_together_98 (by decide) rfl ?_
    refine z_iload X dd_Mo_together_100 1 rfl ?_
    refine z_iload X dd_Mo_together_102 6 rfl ?_
    refine z_icmp_ge (tgt := 112) X dd_Mo_together_104 (by decide) (fun q15 => ?_) (fun q15 => ?_)
    · rw [if_pos q15] at h
      refine z_iload X dd_Mo_together_112 6 rfl ?_
      refine z_sub [2, 3, 4, 5, 0, 7, 8, 1] rfl ?_
      exact t_Mo_together_114 X H h k0 k1
    · rw [if_neg q15] at h
      refine z_iload X dd_Mo_together_107 1 rfl ?_
      refine z_goto (tgt := 114) X dd_Mo_together_109 (by decide) ?_
      refine z_sub [2, 3, 4, 5, 0, 7, 8, 1] rfl ?_
      exact t_Mo_together_114 X H h k0 k1
set_option maxRecDepth 100000 in
set_option maxHeartbeats 4000000 in
theorem t_Mo_together_167  (X : zX p s m args cd D cid B bb_Mo_together 12 rr_Mo zT) (H : zH s meth B n0 (some (.int)) "together") {nf : Nat} {s0 : Int32} {c : Zc} {res : Int32 × Zc} (h : f_Mo_together_167 nf s0 c = some res) : Zz p l e (zRm 1 21 0 0) s m args below meth cd (MQ below (zQi D cid B res.1 res.2 n0 0) args s 0 0 (fun q => B ≤ q)) D cid B 12 0 0 c 167 [] [.int s0] := by
  unfold f_Mo_together_167 at h
  obtain rfl := Option.some.inj h
  exact z_iret X H.1 H.2.1 H.2.2.1 dd_Mo_together_167
set_option maxRecDepth 100000 in
set_option maxHeartbeats 4000000 in
theorem t_Mo_together_67  (X : zX p s m args cd D cid B bb_Mo_together 12 rr_Mo zT) (H : zH s meth B n0 (some (.int)) "together") {nf : Nat} {x0 : Nat} {x2 : Int32} {x3 : Int32} {x4 : Int32} {x6 : Int64} {x8 : Int32} {x9 : Int32} {x10 : Int32} {c : Zc} {res : Int32 × Zc} (h : f_Mo_together_67 nf x0 x2 x3 x4 x6 x8 x9 x10 c = some res) : Zz p l e (zRm 1 21 0 0) s m args below meth cd (MQ below (zQi D cid B res.1 res.2 n0 0) args s 0 0 (fun q => B ≤ q)) D cid B 12 0 0 c 67 [(0, .ref x0), (2, .int x2), (3, .int x3), (4, .int x4), (6, .long x6), (8, .int x8), (9, .int x9), (10, .int x10)] [] := by
  unfold f_Mo_together_67 at h
  obtain ⟨b, eb, h⟩ := zb h
  refine zlp_ok (P := fun a : Nat × Int32 × Int32 × Int32 × Int64 × Int32 × Int32 × Int32 × Zc => Zz p l e (zRm 1 21 0 0) s m args below meth cd _ D cid B 12 0 0 a.2.2.2.2.2.2.2.2 67 [(0, .ref a.1), (2, .int a.2.1), (3, .int a.2.2.1), (4, .int a.2.2.2.1), (6, .long a.2.2.2.2.1), (8, .int a.2.2.2.2.2.1), (9, .int a.2.2.2.2.2.2.1), (10, .int a.2.2.2.2.2.2.2.1)] []) (G := fun b : Int32 × Int64 × Int32 × Int32 × Zc => Zz p l e (zRm 1 21 0 0) s m args below meth cd _ D cid B 12 0 0 b.2.2.2.2 138 [(4, .int b.1), (6, .long b.2.1), (8, .int b.2.2.1), (9, .int b.2.2.2.1)] []) (fun a r ha k0 k1 => u_Mo_together_67 X H ha k0 k1) nf _ b eb ?_
  refine z_iload X dd_Mo_together_138 0 rfl ?_
  refine z_bipush (v := 110) X dd_Mo_together_140 (by decide) ?_
  refine z_icmp_ne (tgt := 153) X dd_Mo_together_142 (by decide) (fun q17 => ?_) (fun q17 => ?_)
  · rw [if_neg q17] at h
    refine z_iload X dd_Mo_together_153 0 rfl ?_
    refine z_bipush (v := 111) X dd_Mo_together_155 (by decide) ?_
    refine z_icmp_ne (tgt := 165) X dd_Mo_together_157 (by decide) (fun q18 => ?_) (fun q18 => ?_)
    · rw [if_neg q18] at h
      refine z_iload X dd_Mo_together_165 3 rfl ?_
      refine z_sub [] rfl ?_
      exact t_Mo_together_167 X H h
    · rw [if_pos q18] at h
      refine z_iload X dd_Mo_together_160 2 rfl ?_
      refine z_goto (tgt := 167) X dd_Mo_together_162 (by decide) ?_
      refine z_sub [] rfl ?_
      exact t_Mo_together_167 X H h
  · rw [if_pos q17] at h
    refine z_lload X dd_Mo_together_145 1 rfl ?_
    obtain ⟨q19, eq19, h⟩ := zb h
    refine z_callSi X [.long b.2.1] rfl dd_Mo_together_147 (c_Mo_bounded l eq19) (va_cwS 1 X.1.2.2.2.2 (zg_S km_2128 km_2129 km_138 km_2130) rfl rfl rfl (by decide +kernel) ⟨Nat.le_of_ble_eq_true rfl, Nat.le_of_ble_eq_true rfl⟩) rfl (Nat.le_of_ble_eq_true rfl) ⟨Nat.le_of_ble_eq_true rfl, Nat.le_of_ble_eq_true rfl⟩ ?_
    refine z_goto (tgt := 167) X dd_Mo_together_150 (by decide) ?_
    refine z_sub [] rfl ?_
    exact t_Mo_together_167 X H h
set_option maxRecDepth 100000 in
set_option maxHeartbeats 4000000 in
theorem c_Mo_together (l : Launch) {nf : Nat} {a0 : Nat} {a1 : Int32} {a2 : Int32} {a3 : Int32} {c : Zc} {res : Int32 × Zc} (h : f_Mo_together nf a0 a1 a2 a3 c = some res) : zM l yy_Mo_together ww_Mo_together 1 21 0 0 [.ref a0, .int a1, .int a2, .int a3] c (fun D cid B => zQi D cid B res.1 res.2 c.length 0) := by
  refine z_met (cc := bb_Mo_together) (maxL := 12) (ret := (some (.int))) (by decide +kernel) rfl (Nat.le_of_ble_eq_true rfl) ?_
  intro p e s m args below meth cd D cid B X h1 h2 h3 h4
  have X : zX p s m args cd D cid B bb_Mo_together 12 rr_Mo zT := X
  have H : zH s meth B c.length (some (.int)) "together" := ⟨h1, h2, h4, h3⟩
  unfold f_Mo_together at h
  show Zz p l e (zRm 1 21 0 0) s m args below meth cd _ D cid B 12 0 0 c 0 [(0, .ref a0), (1, .int a1), (2, .int a2), (3, .int a3)] []
  refine z_aload_n X dd_Mo_together_0 rfl 0 rfl ?_
  obtain ⟨v1, ev1, h⟩ := zb h
  refine z_get (j := 44) X dd_Mo_together_1 kc_12 ki_12 (by decide) km_1565 (zgr_v ev1) ?_
  refine z_bipush (v := 8) X dd_Mo_together_4 (by decide) ?_
  refine z_aload_n X dd_Mo_together_6 rfl 0 rfl ?_
  obtain ⟨v2, ev2, h⟩ := zb h
  refine z_get (j := 25) X dd_Mo_together_7 kc_12 ki_12 (by decide) km_1546 (zgi_v ev2) ?_
  refine z_imul X dd_Mo_together_10 ?_
  refine z_iload_n X dd_Mo_together_11 rfl 3 rfl ?_
  refine z_iadd X dd_Mo_together_12 ?_
  obtain ⟨v3, ev3, h⟩ := zb h
  refine z_iaload X dd_Mo_together_13 rfl ev3 ?_
  refine z_istore (lv' := [(4, .int v3), (0, .ref a0), (1, .int a1), (2, .int a2), (3, .int a3)]) X dd_Mo_together_14 (by decide) rfl ?_
  refine z_aload_n X dd_Mo_together_16 rfl 1 rfl ?_
  obtain ⟨v4, ev4, h⟩ := zb h
  refine z_get (j := 78) X dd_Mo_together_17 kc_12 ki_12 (by decide) km_1599 (zgr_v ev4) ?_
  refine z_bipush (v := 8) X dd_Mo_together_20 (by decide) ?_
  refine z_aload_n X dd_Mo_together_22 rfl 1 rfl ?_
  obtain ⟨v5, ev5, h⟩ := zb h
  refine z_get (j := 79) X dd_Mo_together_23 kc_12 ki_12 (by decide) km_1600 (zgr_v ev5) ?_
  refine z_iload_n X dd_Mo_together_26 rfl 2 rfl ?_
  obtain ⟨v6, ev6, h⟩ := zb h
  refine z_iaload X dd_Mo_together_27 rfl ev6 ?_
  refine z_imul X dd_Mo_together_28 ?_
  refine z_iload_n X dd_Mo_together_29 rfl 4 rfl ?_
  refine z_iadd X dd_Mo_together_30 ?_
  obtain ⟨v7, ev7, h⟩ := zb h
  refine z_iaload X dd_Mo_together_31 rfl ev7 ?_
  refine z_istore (lv' := [(5, .int v7), (4, .int v3), (0, .ref a0), (1, .int a1), (2, .int a2), (3, .int a3)]) X dd_Mo_together_32 (by decide) rfl ?_
  refine z_iload X dd_Mo_together_34 1 rfl ?_
  refine z_if_ne (tgt := 42) X dd_Mo_together_36 (by decide) (fun q8 => ?_) (fun q8 => ?_)
  · rw [if_neg q8] at h
    refine z_iload X dd_Mo_together_42 1 rfl ?_
    refine z_bipush (v := 109) X dd_Mo_together_44 (by decide) ?_
    refine z_icmp_ne (tgt := 53) X dd_Mo_together_46 (by decide) (fun q9 => ?_) (fun q9 => ?_)
    · rw [if_neg q9] at h
      refine z_lconst (v := 0) X dd_Mo_together_53 (by decide) ?_
      refine z_lstore (lv' := [(6, .long 0), (5, .int v7), (4, .int v3), (0, .ref a0), (1, .int a1), (2, .int a2), (3, .int a3)]) X dd_Mo_together_54 (by decide) rfl ?_
      refine z_iload X dd_Mo_together_56 1 rfl ?_
      refine z_istore (lv' := [(8, .int v7), (6, .long 0), (5, .int v7), (4, .int v3), (0, .ref a0), (1, .int a1), (2, .int a2), (3, .int a3)]) X dd_Mo_together_58 (by decide) rfl ?_
      refine z_iload X dd_Mo_together_60 2 rfl ?_
      refine z_istore (lv' := [(9, .int v7), (8, .int v7), (6, .long 0), (5, .int v7), (4, .int v3), (0, .ref a0), (1, .int a1), (2, .int a2), (3, .int a3)]) X dd_Mo_together_62 (by decide) rfl ?_
      refine z_iload_n X dd_Mo_together_64 rfl 6 rfl ?_
      refine z_istore (lv' := [(10, .int a1), (9, .int v7), (8, .int v7), (6, .long 0), (5, .int v7), (4, .int v3), (0, .ref a0), (1, .int a1), (2, .int a2), (3, .int a3)]) X dd_Mo_together_65 (by decide) rfl ?_
      refine z_sub [6, 8, 9, 5, 3, 2, 1, 0] rfl ?_
      exact t_Mo_together_67 X H h
    · rw [if_pos q9] at h
      refine z_iload_n X dd_Mo_together_49 rfl 4 rfl ?_
      refine z_iload_n X dd_Mo_together_50 rfl 3 rfl ?_
      refine z_isub X dd_Mo_together_51 ?_
      obtain rfl := Option.some.inj h
      exact z_iret X H.1 H.2.1 H.2.2.1 dd_Mo_together_52
  · rw [if_pos q8] at h
    refine z_iload X dd_Mo_together_39 0 rfl ?_
    obtain rfl := Option.some.inj h
    exact z_iret X H.1 H.2.1 H.2.2.1 dd_Mo_together_41
theorem dd_Mo_groupRows_0 : decode bb_Mo_groupRows 0 = .ok (.aload_n 0, 1) := by decide +kernel
theorem dd_Mo_groupRows_1 : decode bb_Mo_groupRows 1 = .ok (.iconst 0, 1) := by decide +kernel
theorem dd_Mo_groupRows_2 : decode bb_Mo_groupRows 2 = .ok (.putfield 512, 3) := by decide +kernel
theorem dd_Mo_groupRows_5 : decode bb_Mo_groupRows 5 = .ok (.iconst 0, 1) := by decide +kernel
theorem dd_Mo_groupRows_6 : decode bb_Mo_groupRows 6 = .ok (.istore_n 1, 1) := by decide +kernel
theorem dd_Mo_groupRows_7 : decode bb_Mo_groupRows 7 = .ok (.iload_n 1, 1) := by decide +kernel
theorem dd_Mo_groupRows_8 : decode bb_Mo_groupRows 8 = .ok (.aload_n 0, 1) := by decide +kernel
theorem dd_Mo_groupRows_9 : decode bb_Mo_groupRows 9 = .ok (.getfield 116, 3) := by decide +kernel
theorem dd_Mo_groupRows_12 : decode bb_Mo_groupRows 12 = .ok (.aload_n 0, 1) := by decide +kernel
theorem dd_Mo_groupRows_13 : decode bb_Mo_groupRows 13 = .ok (.getfield 331, 3) := by decide +kernel
theorem dd_Mo_groupRows_16 : decode bb_Mo_groupRows 16 = .ok (.iaload, 1) := by decide +kernel
theorem dd_Mo_groupRows_17 : decode bb_Mo_groupRows 17 = .ok (.if_icmp .ge 46, 3) := by decide +kernel
theorem dd_Mo_groupRows_20 : decode bb_Mo_groupRows 20 = .ok (.aload_n 0, 1) := by decide +kernel
theorem dd_Mo_groupRows_21 : decode bb_Mo_groupRows 21 = .ok (.getfield 119, 3) := by decide +kernel
theorem dd_Mo_groupRows_24 : decode bb_Mo_groupRows 24 = .ok (.bipush 8, 2) := by decide +kernel
theorem dd_Mo_groupRows_26 : decode bb_Mo_groupRows 26 = .ok (.aload_n 0, 1) := by decide +kernel
theorem dd_Mo_groupRows_27 : decode bb_Mo_groupRows 27 = .ok (.getfield 331, 3) := by decide +kernel
theorem dd_Mo_groupRows_30 : decode bb_Mo_groupRows 30 = .ok (.imul, 1) := by decide +kernel
theorem dd_Mo_groupRows_31 : decode bb_Mo_groupRows 31 = .ok (.iload_n 1, 1) := by decide +kernel
theorem dd_Mo_groupRows_32 : decode bb_Mo_groupRows 32 = .ok (.iadd, 1) := by decide +kernel
theorem dd_Mo_groupRows_33 : decode bb_Mo_groupRows 33 = .ok (.iaload, 1) := by decide +kernel
theorem dd_Mo_groupRows_34 : decode bb_Mo_groupRows 34 = .ok (.ifCond .ne 23, 3) := by decide +kernel
theorem dd_Mo_groupRows_37 : decode bb_Mo_groupRows 37 = .ok (.aload_n 0, 1) := by decide +kernel
theorem dd_Mo_groupRows_38 : decode bb_Mo_groupRows 38 = .ok (.getfield 226, 3) := by decide +kernel
theorem dd_Mo_groupRows_41 : decode bb_Mo_groupRows 41 = .ok (.aload_n 0, 1) := by decide +kernel
theorem dd_Mo_groupRows_42 : decode bb_Mo_groupRows 42 = .ok (.getfield 512, 3) := by decide +kernel
theorem dd_Mo_groupRows_45 : decode bb_Mo_groupRows 45 = .ok (.iload_n 1, 1) := by decide +kernel
theorem dd_Mo_groupRows_46 : decode bb_Mo_groupRows 46 = .ok (.iastore, 1) := by decide +kernel
theorem dd_Mo_groupRows_47 : decode bb_Mo_groupRows 47 = .ok (.aload_n 0, 1) := by decide +kernel
theorem dd_Mo_groupRows_48 : decode bb_Mo_groupRows 48 = .ok (.dup, 1) := by decide +kernel
theorem dd_Mo_groupRows_49 : decode bb_Mo_groupRows 49 = .ok (.getfield 512, 3) := by decide +kernel
theorem dd_Mo_groupRows_52 : decode bb_Mo_groupRows 52 = .ok (.iconst 1, 1) := by decide +kernel
theorem dd_Mo_groupRows_53 : decode bb_Mo_groupRows 53 = .ok (.iadd, 1) := by decide +kernel
theorem dd_Mo_groupRows_54 : decode bb_Mo_groupRows 54 = .ok (.putfield 512, 3) := by decide +kernel
theorem dd_Mo_groupRows_57 : decode bb_Mo_groupRows 57 = .ok (.iinc 1 1, 3) := by decide +kernel
theorem dd_Mo_groupRows_60 : decode bb_Mo_groupRows 60 = .ok (.goto (-53), 3) := by decide +kernel
theorem dd_Mo_groupRows_63 : decode bb_Mo_groupRows 63 = .ok (.aload_n 0, 1) := by decide +kernel
theorem dd_Mo_groupRows_64 : decode bb_Mo_groupRows 64 = .ok (.invokevirtual 521, 3) := by decide +kernel
theorem dd_Mo_groupRows_67 : decode bb_Mo_groupRows 67 = .ok (.iconst 0, 1) := by decide +kernel
theorem dd_Mo_groupRows_68 : decode bb_Mo_groupRows 68 = .ok (.istore_n 1, 1) := by decide +kernel
theorem dd_Mo_groupRows_69 : decode bb_Mo_groupRows 69 = .ok (.iconst 0, 1) := by decide +kernel
theorem dd_Mo_groupRows_70 : decode bb_Mo_groupRows 70 = .ok (.istore_n 2, 1) := by decide +kernel
theorem dd_Mo_groupRows_71 : decode bb_Mo_groupRows 71 = .ok (.iload_n 2, 1) := by decide +kernel
theorem dd_Mo_groupRows_72 : decode bb_Mo_groupRows 72 = .ok (.aload_n 0, 1) := by decide +kernel
theorem dd_Mo_groupRows_73 : decode bb_Mo_groupRows 73 = .ok (.getfield 515, 3) := by decide +kernel
theorem dd_Mo_groupRows_76 : decode bb_Mo_groupRows 76 = .ok (.if_icmp .ge 89, 3) := by decide +kernel
theorem dd_Mo_groupRows_79 : decode bb_Mo_groupRows 79 = .ok (.iload_n 2, 1) := by decide +kernel
theorem dd_Mo_groupRows_80 : decode bb_Mo_groupRows 80 = .ok (.istore_n 3, 1) := by decide +kernel
theorem dd_Mo_groupRows_81 : decode bb_Mo_groupRows 81 = .ok (.iload_n 3, 1) := by decide +kernel
theorem dd_Mo_groupRows_82 : decode bb_Mo_groupRows 82 = .ok (.aload_n 0, 1) := by decide +kernel
theorem dd_Mo_groupRows_83 : decode bb_Mo_groupRows 83 = .ok (.getfield 515, 3) := by decide +kernel
theorem dd_Mo_groupRows_86 : decode bb_Mo_groupRows 86 = .ok (.if_icmp .ge 28, 3) := by decide +kernel
theorem dd_Mo_groupRows_89 : decode bb_Mo_groupRows 89 = .ok (.aload_n 0, 1) := by decide +kernel
theorem dd_Mo_groupRows_90 : decode bb_Mo_groupRows 90 = .ok (.aload_n 0, 1) := by decide +kernel
theorem dd_Mo_groupRows_91 : decode bb_Mo_groupRows 91 = .ok (.getfield 207, 3) := by decide +kernel
theorem dd_Mo_groupRows_94 : decode bb_Mo_groupRows 94 = .ok (.iload_n 2, 1) := by decide +kernel
theorem dd_Mo_groupRows_95 : decode bb_Mo_groupRows 95 = .ok (.iaload, 1) := by decide +kernel
theorem dd_Mo_groupRows_96 : decode bb_Mo_groupRows 96 = .ok (.aload_n 0, 1) := by decide +kernel
theorem dd_Mo_groupRows_97 : decode bb_Mo_groupRows 97 = .ok (.getfield 207, 3) := by decide +kernel
theorem dd_Mo_groupRows_100 : decode bb_Mo_groupRows 100 = .ok (.iload_n 3, 1) := by decide +kernel
theorem dd_Mo_groupRows_101 : decode bb_Mo_groupRows 101 = .ok (.iaload, 1) := by decide +kernel
theorem dd_Mo_groupRows_102 : decode bb_Mo_groupRows 102 = .ok (.invokevirtual 518, 3) := by decide +kernel
theorem dd_Mo_groupRows_105 : decode bb_Mo_groupRows 105 = .ok (.ifCond .ne 9, 3) := by decide +kernel
theorem dd_Mo_groupRows_108 : decode bb_Mo_groupRows 108 = .ok (.iinc 3 1, 3) := by decide +kernel
theorem dd_Mo_groupRows_111 : decode bb_Mo_groupRows 111 = .ok (.goto (-30), 3) := by decide +kernel
theorem dd_Mo_groupRows_114 : decode bb_Mo_groupRows 114 = .ok (.iconst 0, 1) := by decide +kernel
theorem dd_Mo_groupRows_115 : decode bb_Mo_groupRows 115 = .ok (.istore 4, 2) := by decide +kernel
theorem dd_Mo_groupRows_117 : decode bb_Mo_groupRows 117 = .ok (.iload 4, 2) := by decide +kernel
theorem dd_Mo_groupRows_119 : decode bb_Mo_groupRows 119 = .ok (.aload_n 0, 1) := by decide +kernel
theorem dd_Mo_groupRows_120 : decode bb_Mo_groupRows 120 = .ok (.getfield 116, 3) := by decide +kernel
theorem dd_Mo_groupRows_123 : decode bb_Mo_groupRows 123 = .ok (.aload_n 0, 1) := by decide +kernel
theorem dd_Mo_groupRows_124 : decode bb_Mo_groupRows 124 = .ok (.getfield 331, 3) := by decide +kernel
theorem dd_Mo_groupRows_127 : decode bb_Mo_groupRows 127 = .ok (.iaload, 1) := by decide +kernel
theorem dd_Mo_groupRows_128 : decode bb_Mo_groupRows 128 = .ok (.if_icmp .ge 29, 3) := by decide +kernel
theorem dd_Mo_groupRows_131 : decode bb_Mo_groupRows 131 = .ok (.aload_n 0, 1) := by decide +kernel
theorem dd_Mo_groupRows_132 : decode bb_Mo_groupRows 132 = .ok (.getfield 229, 3) := by decide +kernel
theorem dd_Mo_groupRows_135 : decode bb_Mo_groupRows 135 = .ok (.bipush 8, 2) := by decide +kernel
theorem dd_Mo_groupRows_137 : decode bb_Mo_groupRows 137 = .ok (.iload_n 1, 1) := by decide +kernel
theorem dd_Mo_groupRows_138 : decode bb_Mo_groupRows 138 = .ok (.imul, 1) := by decide +kernel
theorem dd_Mo_groupRows_139 : decode bb_Mo_groupRows 139 = .ok (.iload 4, 2) := by decide +kernel
theorem dd_Mo_groupRows_141 : decode bb_Mo_groupRows 141 = .ok (.iadd, 1) := by decide +kernel
theorem dd_Mo_groupRows_142 : decode bb_Mo_groupRows 142 = .ok (.aload_n 0, 1) := by decide +kernel
theorem dd_Mo_groupRows_143 : decode bb_Mo_groupRows 143 = .ok (.iload_n 2, 1) := by decide +kernel
theorem dd_Mo_groupRows_144 : decode bb_Mo_groupRows 144 = .ok (.iload_n 3, 1) := by decide +kernel
theorem dd_Mo_groupRows_145 : decode bb_Mo_groupRows 145 = .ok (.iload 4, 2) := by decide +kernel
theorem dd_Mo_groupRows_147 : decode bb_Mo_groupRows 147 = .ok (.invokevirtual 524, 3) := by decide +kernel
theorem dd_Mo_groupRows_150 : decode bb_Mo_groupRows 150 = .ok (.iastore, 1) := by decide +kernel
theorem dd_Mo_groupRows_151 : decode bb_Mo_groupRows 151 = .ok (.iinc 4 1, 3) := by decide +kernel
theorem dd_Mo_groupRows_154 : decode bb_Mo_groupRows 154 = .ok (.goto (-37), 3) := by decide +kernel
theorem dd_Mo_groupRows_157 : decode bb_Mo_groupRows 157 = .ok (.iinc 1 1, 3) := by decide +kernel
theorem dd_Mo_groupRows_160 : decode bb_Mo_groupRows 160 = .ok (.iload_n 3, 1) := by decide +kernel
theorem dd_Mo_groupRows_161 : decode bb_Mo_groupRows 161 = .ok (.istore_n 2, 1) := by decide +kernel
theorem dd_Mo_groupRows_162 : decode bb_Mo_groupRows 162 = .ok (.goto (-91), 3) := by decide +kernel
theorem dd_Mo_groupRows_165 : decode bb_Mo_groupRows 165 = .ok (.iload_n 1, 1) := by decide +kernel
theorem dd_Mo_groupRows_166 : decode bb_Mo_groupRows 166 = .ok (.ireturn, 1) := by decide +kernel
def f_Mo_groupRows_57 (nf : Nat) (x0 : Nat) (x1 : Int32) (c : Zc) : Option ((Nat × Int32 × Zc) ⊕ (Nat × Zc)) :=
  some (.inl (x0, (x1 + 1), c))
def g_Mo_groupRows_7 (nf : Nat) (x0 : Nat) (x1 : Int32) (c : Zc) : Option ((Nat × Int32 × Zc) ⊕ (Nat × Zc)) :=
  (zgr c x0 12 43).bind fun v2 => (zgi c x0 12 25).bind fun v3 => (zai c v2 0 v3).bind fun v4 => if v4 ≤ x1 then (some (.inr (x0, c))) else ((zgr c x0 12 44).bind fun v6 => (zgi c x0 12 25).bind fun v7 => (zai c v6 0 ((8 * v7) + x1)).bind fun v8 => if v8 = 0 then ((zgr c x0 12 86).bind fun v10 => (zgi c x0 12 87).bind fun v11 => (zsi c v10 0 v11 x1).bind fun c12 => (zgi c12 x0 12 87).bind fun v13 => (zpv c12 x0 12 87 (.int (v13 + 1))).bind fun c14 => f_Mo_groupRows_57 nf x0 x1 c14) else (f_Mo_groupRows_57 nf x0 x1 c))
def g_Mo_groupRows_81 (nf : Nat) (x0 : Nat) (x1 : Int32) (x2 : Int32) (x3 : Int32) (c : Zc) : Option ((Nat × Int32 × Int32 × Int32 × Zc) ⊕ (Nat × Int32 × Int32 × Int32 × Zc)) :=
  (zgi c x0 12 81).bind fun v19 => if v19 ≤ x3 then (some (.inr (x0, x1, x2, x3, c))) else ((zgr c x0 12 79).bind fun v21 => (zai c v21 0 x2).bind fun v22 => (zgr c x0 12 79).bind fun v23 => (zai c v23 0 x3).bind fun v24 => (zob c x0 12).bind fun w26 => (f_Mo_compareRows nf x0 v22 v24 c).bind fun q25 => if q25.1 = 0 then (some (.inl (x0, x1, x2, (x3 + 1), q25.2))) else (some (.inr (x0, x1, x2, x3, q25.2))))
def g_Mo_groupRows_117 (nf : Nat) (x0 : Nat) (x1 : Int32) (x2 : Int32) (x3 : Int32) (x4 : Int32) (c : Zc) : Option ((Nat × Int32 × Int32 × Int32 × Int32 × Zc) ⊕ (Nat × Int32 × Int32 × Zc)) :=
  (zgr c x0 12 43).bind fun v28 => (zgi c x0 12 25).bind fun v29 => (zai c v28 0 v29).bind fun v30 => if v30 ≤ x4 then (some (.inr (x0, x1, x3, c))) else ((zgr c x0 12 88).bind fun v32 => (zob c x0 12).bind fun w34 => (f_Mo_together nf x0 x2 x3 x4 c).bind fun q33 => (zsi q33.2 v32 0 ((8 * x1) + x4) q33.1).bind fun c35 => some (.inl (x0, x1, x2, x3, (x4 + 1), c35)))
def f_Mo_groupRows_117 (nf : Nat) (x0 : Nat) (x1 : Int32) (x2 : Int32) (x3 : Int32) (x4 : Int32) (c : Zc) : Option ((Nat × Int32 × Int32 × Zc) ⊕ (Int32 × Zc)) :=
  (zlp (fun a => g_Mo_groupRows_117 nf a.1 a.2.1 a.2.2.1 a.2.2.2.1 a.2.2.2.2.1 a.2.2.2.2.2) nf (x0, x1, x2, x3, x4, c)).bind fun b => some (.inl (b.1, (b.2.1 + 1), b.2.2.1, b.2.2.2))
def f_Mo_groupRows_114 (nf : Nat) (x0 : Nat) (x1 : Int32) (x2 : Int32) (x3 : Int32) (c : Zc) : Option ((Nat × Int32 × Int32 × Zc) ⊕ (Int32 × Zc)) :=
  f_Mo_groupRows_117 nf x0 x1 x2 x3 0 c
def f_Mo_groupRows_81 (nf : Nat) (x0 : Nat) (x1 : Int32) (x2 : Int32) (x3 : Int32) (c : Zc) : Option ((Nat × Int32 × Int32 × Zc) ⊕ (Int32 × Zc)) :=
  (zlp (fun a => g_Mo_groupRows_81 nf a.1 a.2.1 a.2.2.1 a.2.2.2.1 a.2.2.2.2) nf (x0, x1, x2, x3, c)).bind fun b => f_Mo_groupRows_114 nf b.1 b.2.1 b.2.2.1 b.2.2.2.1 b.2.2.2.2
def g_Mo_groupRows_71 (nf : Nat) (x0 : Nat) (x1 : Int32) (x2 : Int32) (c : Zc) : Option ((Nat × Int32 × Int32 × Zc) ⊕ (Int32 × Zc)) :=
  (zgi c x0 12 81).bind fun v17 => if v17 ≤ x2 then (some (.inr (x1, c))) else (f_Mo_groupRows_81 nf x0 x1 x2 x2 c)
def f_Mo_groupRows_71 (nf : Nat) (x0 : Nat) (x1 : Int32) (x2 : Int32) (c : Zc) : Option (Int32 × Zc) :=
  (zlp (fun a => g_Mo_groupRows_71 nf a.1 a.2.1 a.2.2.1 a.2.2.2) nf (x0, x1, x2, c)).bind fun b => some (b.1, b.2)
def f_Mo_groupRows_7 (nf : Nat) (x0 : Nat) (x1 : Int32) (c : Zc) : Option (Int32 × Zc) :=
  (zlp (fun a => g_Mo_groupRows_7 nf a.1 a.2.1 a.2.2) nf (x0, x1, c)).bind fun b => (zob b.2 b.1 12).bind fun w16 => (f_Mo_sortRows nf b.1 b.2).bind fun q15 => f_Mo_groupRows_71 nf b.1 0 0 q15
def f_Mo_groupRows (nf : Nat) (a0 : Nat) (c : Zc) : Option (Int32 × Zc) :=
  (zpv c a0 12 87 (.int 0)).bind fun c1 => f_Mo_groupRows_7 nf a0 0 c1
set_option maxRecDepth 100000 in
set_option maxHeartbeats 4000000 in
theorem t_Mo_groupRows_57  (X : zX p s m args cd D cid B bb_Mo_groupRows 5 rr_Mo zT) (H : zH s meth B n0 (some (.int)) "groupRows") {nf : Nat} {x0 : Nat} {x1 : Int32} {c : Zc} {r : (Nat × Int32 × Zc) ⊕ (Nat × Zc)} (h : f_Mo_groupRows_57 nf x0 x1 c = some r) (k0 : ∀ a, r = .inl a → (fun a : Nat × Int32 × Zc => Zz p l e (zRm 2 53 0 0) s m args below meth cd Q D cid B 5 0 0 a.2.2 7 [(0, .ref a.1), (1, .int a.2.1)] []) a) (k1 : ∀ b, r = .inr b → (fun b : Nat × Zc => Zz p l e (zRm 2 53 0 0) s m args below meth cd Q D cid B 5 0 0 b.2 63 [(0, .ref b.1)] []) b) : Zz p l e (zRm 2 53 0 0) s m args below meth cd Q D cid B 5 0 0 c 57 [(0, .ref x0), (1, .int x1)] [] := by
  unfold f_Mo_groupRows_57 at h
  refine z_iinc (v := (x1 + 1)) (lv' := [(1, .int (x1 + 1)), (0, .ref x0)]) X dd_Mo_groupRows_57 1 rfl rfl (by decide) rfl ?_
  refine z_goto (tgt := 7) X dd_Mo_groupRows_60 (by decide) ?_
  refine z_sub [1, 0] rfl ?_
  obtain rfl := Option.some.inj h
  exact k0 _ rfl
set_option maxRecDepth 100000 in
set_option maxHeartbeats 4000000 in
theorem u_Mo_groupRows_7  (X : zX p s m args cd D cid B bb_Mo_groupRows 5 rr_Mo zT) (H : zH s meth B n0 (some (.int)) "groupRows") {nf : Nat} {x0 : Nat} {x1 : Int32} {c : Zc} {r : (Nat × Int32 × Zc) ⊕ (Nat × Zc)} (h : g_Mo_groupRows_7 nf x0 x1 c = some r) (k0 : ∀ a, r = .inl a → (fun a : Nat × Int32 × Zc => Zz p l e (zRm 2 53 0 0) s m args below meth cd Q D cid B 5 0 0 a.2.2 7 [(0, .ref a.1), (1, .int a.2.1)] []) a) (k1 : ∀ b, r = .inr b → (fun b : Nat × Zc => Zz p l e (zRm 2 53 0 0) s m args below meth cd Q D cid B 5 0 0 b.2 63 [(0, .ref b.1)] []) b) : Zz p l e (zRm 2 53 0 0) s m args below meth cd Q D cid B 5 0 0 c 7 [(0, .ref x0), (1, .int x1)] [] := by
  unfold g_Mo_groupRows_7 at h
  refine z_iload_n X dd_Mo_groupRows_7 rfl 1 rfl ?_
  refine z_aload_n X dd_Mo_groupRows_8 rfl 0 rfl ?_
  obtain ⟨v2, ev2, h⟩ := zb h
  refine z_get (j := 43) X dd_Mo_groupRows_9 kc_12 ki_12 (by decide) km_1564 (zgr_v ev2) ?_
  refine z_aload_n X dd_Mo_groupRows_12 rfl 0 rfl ?_
  obtain ⟨v3, ev3, h⟩ := zb h
  refine z_get (j := 25) X dd_Mo_groupRows_13 kc_12 ki_12 (by decide) km_1546 (zgi_v ev3) ?_
  obtain ⟨v4, ev4, h⟩ := zb h
  refine z_iaload X dd_Mo_groupRows_16 rfl ev4 ?_
  refine z_icmp_ge (tgt := 63) X dd_Mo_groupRows_17 (by decide) (fun q5 => ?_) (fun q5 => ?_)
  · rw [if_pos q5] at h
    refine z_sub [0] rfl ?_
    obtain rfl := Option.some.inj h
    exact k1 _ rfl
  · rw [if_neg q5] at h
    refine z_aload_n X dd_Mo_groupRows_20 rfl 0 rfl ?_
    obtain ⟨v6, ev6, h⟩ := zb h
    refine z_get (j := 44) X dd_Mo_groupRows_21 kc_12 ki_12 (by decide) km_1565 (zgr_v ev6) ?_
    refine z_bipush (v := 8) X dd_Mo_groupRows_24 (by decide) ?_
    refine z_aload_n X dd_Mo_groupRows_26 rfl 0 rfl ?_
    obtain ⟨v7, ev7, h⟩ := zb h
    refine z_get (j := 25) X dd_Mo_groupRows_27 kc_12 ki_12 (by decide) km_1546 (zgi_v ev7) ?_
    refine z_imul X dd_Mo_groupRows_30 ?_
    refine z_iload_n X dd_Mo_groupRows_31 rfl 1 rfl ?_
    refine z_iadd X dd_Mo_groupRows_32 ?_
    obtain ⟨v8, ev8, h⟩ := zb h
    refine z_iaload X dd_Mo_groupRows_33 rfl ev8 ?_
    refine z_if_ne (tgt := 57) X dd_Mo_groupRows_34 (by decide) (fun q9 => ?_) (fun q9 => ?_)
    · rw [if_neg q9] at h
      exact t_Mo_groupRows_57 X H h k0 k1
    · rw [if_pos q9] at h
      refine z_aload_n X dd_Mo_groupRows_37 rfl 0 rfl ?_
      obtain ⟨v10, ev10, h⟩ := zb h
      refine z_get (j := 86) X dd_Mo_groupRows_38 kc_12 ki_12 (by decide) km_1607 (zgr_v ev10) ?_
      refine z_aload_n X dd_Mo_groupRows_41 rfl 0 rfl ?_
      obtain ⟨v11, ev11, h⟩ := zb h
      refine z_get (j := 87) X dd_Mo_groupRows_42 kc_12 ki_12 (by decide) km_1608 (zgi_v ev11) ?_
      refine z_iload_n X dd_Mo_groupRows_45 rfl 1 rfl ?_
      obtain ⟨c12, ec12, h⟩ := zb h
      refine z_iastore X dd_Mo_groupRows_46 rfl ec12 ?_
      refine z_aload_n X dd_Mo_groupRows_47 rfl 0 rfl ?_
      refine z_dup X dd_Mo_groupRows_48 rfl ?_
      obtain ⟨v13, ev13, h⟩ := zb h
      refine z_get (j := 87) X dd_Mo_groupRows_49 kc_12 ki_12 (by decide) km_1608 (zgi_v ev13) ?_
      refine z_iconst (v := 1) X dd_Mo_groupRows_52 (by decide) ?_
      refine z_iadd X dd_Mo_groupRows_53 ?_
      obtain ⟨c14, ec14, h⟩ := zb h
      refine z_put (j := 87) X dd_Mo_groupRows_54 kc_12 ki_12 tt_Mo tk_Mo nn_Mo (by decide) km_1608 rfl (tk_Mo 87 (by decide)) rfl rfl ec14 ?_
      exact t_Mo_groupRows_57 X H h k0 k1
set_option maxRecDepth 100000 in
set_option maxHeartbeats 4000000 in
theorem u_Mo_groupRows_81  (X : zX p s m args cd D cid B bb_Mo_groupRows 5 rr_Mo zT) (H : zH s meth B n0 (some (.int)) "groupRows") {nf : Nat} {x0 : Nat} {x1 : Int32} {x2 : Int32} {x3 : Int32} {c : Zc} {r : (Nat × Int32 × Int32 × Int32 × Zc) ⊕ (Nat × Int32 × Int32 × Int32 × Zc)} (h : g_Mo_groupRows_81 nf x0 x1 x2 x3 c = some r) (k0 : ∀ a, r = .inl a → (fun a : Nat × Int32 × Int32 × Int32 × Zc => Zz p l e (zRm 2 53 0 0) s m args below meth cd Q D cid B 5 0 0 a.2.2.2.2 81 [(0, .ref a.1), (1, .int a.2.1), (2, .int a.2.2.1), (3, .int a.2.2.2.1)] []) a) (k1 : ∀ b, r = .inr b → (fun b : Nat × Int32 × Int32 × Int32 × Zc => Zz p l e (zRm 2 53 0 0) s m args below meth cd Q D cid B 5 0 0 b.2.2.2.2 114 [(0, .ref b.1), (1, .int b.2.1), (2, .int b.2.2.1), (3, .int b.2.2.2.1)] []) b) : Zz p l e (zRm 2 53 0 0) s m args below meth cd Q D cid B 5 0 0 c 81 [(0, .ref x0), (1, .int x1), (2, .int x2), (3, .int x3)] [] := by
  unfold g_Mo_groupRows_81 at h
  refine z_iload_n X dd_Mo_groupRows_81 rfl 3 rfl ?_
  refine z_aload_n X dd_Mo_groupRows_82 rfl 0 rfl ?_
  obtain ⟨v19, ev19, h⟩ := zb h
  refine z_get (j := 81) X dd_Mo_groupRows_83 kc_12 ki_12 (by decide) km_1602 (zgi_v ev19) ?_
  refine z_icmp_ge (tgt := 114) X dd_Mo_groupRows_86 (by decide) (fun q20 => ?_) (fun q20 => ?_)
  · rw [if_pos q20] at h
    obtain rfl := Option.some.inj h
    exact k1 _ rfl
  · rw [if_neg q20] at h
    refine z_aload_n X dd_Mo_groupRows_89 rfl 0 rfl ?_
    refine z_aload_n X dd_Mo_groupRows_90 rfl 0 rfl ?_
    obtain ⟨v21, ev21, h⟩ := zb h
    refine z_get (j := 79) X dd_Mo_groupRows_91 kc_12 ki_12 (by decide) km_1600 (zgr_v ev21) ?_
    refine z_iload_n X dd_Mo_groupRows_94 rfl 2 rfl ?_
    obtain ⟨v22, ev22, h⟩ := zb h
    refine z_iaload X dd_Mo_groupRows_95 rfl ev22 ?_
    refine z_aload_n X dd_Mo_groupRows_96 rfl 0 rfl ?_
    obtain ⟨v23, ev23, h⟩ := zb h
    refine z_get (j := 79) X dd_Mo_groupRows_97 kc_12 ki_12 (by decide) km_1600 (zgr_v ev23) ?_
    refine z_iload_n X dd_Mo_groupRows_100 rfl 3 rfl ?_
    obtain ⟨v24, ev24, h⟩ := zb h
    refine z_iaload X dd_Mo_groupRows_101 rfl ev24 ?_
    obtain ⟨w26, ew26, h⟩ := zb h
    obtain ⟨q25, eq25, h⟩ := zb h
    refine z_callVi X [.int v22, .int v24] rfl dd_Mo_groupRows_102 (c_Mo_compareRows l eq25) (cwV 2 X.1.2.2.2.2 (zg_V km_2151 km_2153 km_122 km_138 km_2154) rfl rfl rfl (by decide +kernel) ⟨Nat.le_of_ble_eq_true rfl, Nat.le_of_ble_eq_true rfl⟩) (zob_s ew26) kc_12 rfl (Nat.le_of_ble_eq_true rfl) ⟨Nat.le_of_ble_eq_true rfl, Nat.le_of_ble_eq_true rfl⟩ ?_
    refine z_if_ne (tgt := 114) X dd_Mo_groupRows_105 (by decide) (fun q27 => ?_) (fun q27 => ?_)
    · rw [if_neg q27] at h
      obtain rfl := Option.some.inj h
      exact k1 _ rfl
    · rw [if_pos q27] at h
      refine z_iinc (v := (x3 + 1)) (lv' := [(3, .int (x3 + 1)), (0, .ref x0), (1, .int x1), (2, .int x2)]) X dd_Mo_groupRows_108 3 rfl rfl (by decide) rfl ?_
      refine z_goto (tgt := 81) X dd_Mo_groupRows_111 (by decide) ?_
      refine z_sub [1, 2, 3, 0] rfl ?_
      obtain rfl := Option.some.inj h
      exact k0 _ rfl
set_option maxRecDepth 100000 in
set_option maxHeartbeats 4000000 in
theorem u_Mo_groupRows_117  (X : zX p s m args cd D cid B bb_Mo_groupRows 5 rr_Mo zT) (H : zH s meth B n0 (some (.int)) "groupRows") {nf : Nat} {x0 : Nat} {x1 : Int32} {x2 : Int32} {x3 : Int32} {x4 : Int32} {c : Zc} {r : (Nat × Int32 × Int32 × Int32 × Int32 × Zc) ⊕ (Nat × Int32 × Int32 × Zc)} (h : g_Mo_groupRows_117 nf x0 x1 x2 x3 x4 c = some r) (k0 : ∀ a, r = .inl a → (fun a : Nat × Int32 × Int32 × Int32 × Int32 × Zc => Zz p l e (zRm 2 53 0 0) s m args below meth cd Q D cid B 5 0 0 a.2.2.2.2.2 117 [(0, .ref a.1), (1, .int a.2.1), (2, .int a.2.2.1), (3, .int a.2.2.2.1), (4, .int a.2.2.2.2.1)] []) a) (k1 : ∀ b, r = .inr b → (fun b : Nat × Int32 × Int32 × Zc => Zz p l e (zRm 2 53 0 0) s m args below meth cd Q D cid B 5 0 0 b.2.2.2 157 [(0, .ref b.1), (1, .int b.2.1), (3, .int b.2.2.1)] []) b) : Zz p l e (zRm 2 53 0 0) s m args below meth cd Q D cid B 5 0 0 c 117 [(0, .ref x0), (1, .int x1), (2, .int x2), (3, .int x3), (4, .int x4)] [] := by
  unfold g_Mo_groupRows_117 at h
  refine z_iload X dd_Mo_groupRows_117 4 rfl ?_
  refine z_aload_n X dd_Mo_groupRows_119 rfl 0 rfl ?_
  obtain ⟨v28, ev28, h⟩ := zb h
  refine z_get (j := 43) X dd_Mo_groupRows_120 kc_12 ki_12 (by decide) km_1564 (zgr_v ev28) ?_
  refine z_aload_n X dd_Mo_groupRows_123 rfl 0 rfl ?_
  obtain ⟨v29, ev29, h⟩ := zb h
  refine z_get (j := 25) X dd_Mo_groupRows_124 kc_12 ki_12 (by decide) km_1546 (zgi_v ev29) ?_
  obtain ⟨v30, ev30, h⟩ := zb h
  refine z_iaload X dd_Mo_groupRows_127 rfl ev30 ?_
  refine z_icmp_ge (tgt := 157) X dd_Mo_groupRows_128 (by decide) (fun q31 => ?_) (fun q31 => ?_)
  · rw [if_pos q31] at h
    refine z_sub [0, 1, 3] rfl ?_
    obtain rfl := Option.some.inj h
    exact k1 _ rfl
  · rw [if_neg q31] at h
    refine z_aload_n X dd_Mo_groupRows_131 rfl 0 rfl ?_
    obtain ⟨v32, ev32, h⟩ := zb h
    refine z_get (j := 88) X dd_Mo_groupRows_132 kc_12 ki_12 (by decide) km_1609 (zgr_v ev32) ?_
    refine z_bipush (v := 8) X dd_Mo_groupRows_135 (by decide) ?_
    refine z_iload_n X dd_Mo_groupRows_137 rfl 1 rfl ?_
    refine z_imul X dd_Mo_groupRows_138 ?_
    refine z_iload X dd_Mo_groupRows_139 4 rfl ?_
    refine z_iadd X dd_Mo_groupRows_141 ?_
    refine z_aload_n X dd_Mo_groupRows_142 rfl 0 rfl ?_
    refine z_iload_n X dd_Mo_groupRows_143 rfl 2 rfl ?_
    refine z_iload_n X dd_Mo_groupRows_144 rfl 3 rfl ?_
    refine z_iload X dd_Mo_groupRows_145 4 rfl ?_
    obtain ⟨w34, ew34, h⟩ := zb h
    obtain ⟨q33, eq33, h⟩ := zb h
    refine z_callVi X [.int x2, .int x3, .int x4] rfl dd_Mo_groupRows_147 (c_Mo_together l eq33) (cwV 3 X.1.2.2.2.2 (zg_V km_2155 km_2157 km_123 km_138 km_2158) rfl rfl rfl (by decide +kernel) ⟨Nat.le_of_ble_eq_true rfl, Nat.le_of_ble_eq_true rfl⟩) (zob_s ew34) kc_12 rfl (Nat.le_of_ble_eq_true rfl) ⟨Nat.le_of_ble_eq_true rfl, Nat.le_of_ble_eq_true rfl⟩ ?_
    obtain ⟨c35, ec35, h⟩ := zb h
    refine z_iastore X dd_Mo_groupRows_150 rfl ec35 ?_
    refine z_iinc (v := (x4 + 1)) (lv' := [(4, .int (x4 + 1)), (0, .ref x0), (1, .int x1), (2, .int x2), (3, .int x3)]) X dd_Mo_groupRows_151 4 rfl rfl (by decide) rfl ?_
    refine z_goto (tgt := 117) X dd_Mo_groupRows_154 (by decide) ?_
    refine z_sub [1, 2, 3, 4, 0] rfl ?_
    obtain rfl := Option.some.inj h
    exact k0 _ rfl
set_option maxRecDepth 100000 in
set_option maxHeartbeats 4000000 in
theorem t_Mo_groupRows_117  (X : zX p s m args cd D cid B bb_Mo_groupRows 5 rr_Mo zT) (H : zH s meth B n0 (some (.int)) "groupRows") {nf : Nat} {x0 : Nat} {x1 : Int32} {x2 : Int32} {x3 : Int32} {x4 : Int32} {c : Zc} {r : (Nat × Int32 × Int32 × Zc) ⊕ (Int32 × Zc)} (h : f_Mo_groupRows_117 nf x0 x1 x2 x3 x4 c = some r) (k0 : ∀ a, r = .inl a → (fun a : Nat × Int32 × Int32 × Zc => Zz p l e (zRm 2 53 0 0) s m args below meth cd Q D cid B 5 0 0 a.2.2.2 71 [(0, .ref a.1), (1, .int a.2.1), (2, .int a.2.2.1)] []) a) (k1 : ∀ b, r = .inr b → (fun b : Int32 × Zc => Zz p l e (zRm 2 53 0 0) s m args below meth cd Q D cid B 5 0 0 b.2 165 [(1, .int b.1)] []) b) : Zz p l e (zRm 2 53 0 0) s m args below meth cd Q D cid B 5 0 0 c 117 [(0, .ref x0), (1, .int x1), (2, .int x2), (3, .int x3), (4, .int x4)] [] := by
  unfold f_Mo_groupRows_117 at h
  obtain ⟨b, eb, h⟩ := zb h
  refine zlp_ok (P := fun a : Nat × Int32 × Int32 × Int32 × Int32 × Zc => Zz p l e (zRm 2 53 0 0) s m args below meth cd _ D cid B 5 0 0 a.2.2.2.2.2 117 [(0, .ref a.1), (1, .int a.2.1), (2, .int a.2.2.1), (3, .int a.2.2.2.1), (4, .int a.2.2.2.2.1)] []) (G := fun b : Nat × Int32 × Int32 × Zc => Zz p l e (zRm 2 53 0 0) s m args below meth cd _ D cid B 5 0 0 b.2.2.2 157 [(0, .ref b.1), (1, .int b.2.1), (3, .int b.2.2.1)] []) (fun a r ha k0 k1 => u_Mo_groupRows_117 X H ha k0 k1) nf _ b eb ?_
  refine z_iinc (v := (b.2.1 + 1)) (lv' := [(1, .int (b.2.1 + 1)), (0, .ref b.1), (3, .int b.2.2.1)]) X dd_Mo_groupRows_157 1 rfl rfl (by decide) rfl ?_
  refine z_iload_n X dd_Mo_groupRows_160 rfl 2 rfl ?_
  refine z_istore_n (lv' := [(2, .int b.2.2.1), (1, .int (b.2.1 + 1)), (0, .ref b.1), (3, .int b.2.2.1)]) X dd_Mo_groupRows_161 rfl (by decide) rfl ?_
  refine z_goto (tgt := 71) X dd_Mo_groupRows_162 (by decide) ?_
  refine z_sub [2, 1, 0] rfl ?_
  obtain rfl := Option.some.inj h
  exact k0 _ rfl
set_option maxRecDepth 100000 in
set_option maxHeartbeats 4000000 in
theorem t_Mo_groupRows_114  (X : zX p s m args cd D cid B bb_Mo_groupRows 5 rr_Mo zT) (H : zH s meth B n0 (some (.int)) "groupRows") {nf : Nat} {x0 : Nat} {x1 : Int32} {x2 : Int32} {x3 : Int32} {c : Zc} {r : (Nat × Int32 × Int32 × Zc) ⊕ (Int32 × Zc)} (h : f_Mo_groupRows_114 nf x0 x1 x2 x3 c = some r) (k0 : ∀ a, r = .inl a → (fun a : Nat × Int32 × Int32 × Zc => Zz p l e (zRm 2 53 0 0) s m args below meth cd Q D cid B 5 0 0 a.2.2.2 71 [(0, .ref a.1), (1, .int a.2.1), (2, .int a.2.2.1)] []) a) (k1 : ∀ b, r = .inr b → (fun b : Int32 × Zc => Zz p l e (zRm 2 53 0 0) s m args below meth cd Q D cid B 5 0 0 b.2 165 [(1, .int b.1)] []) b) : Zz p l e (zRm 2 53 0 0) s m args below meth cd Q D cid B 5 0 0 c 114 [(0, .ref x0), (1, .int x1), (2, .int x2), (3, .int x3)] [] := by
  unfold f_Mo_groupRows_114 at h
  refine z_iconst (v := 0) X dd_Mo_groupRows_114 (by decide) ?_
  refine z_istore (lv' := [(4, .int 0), (0, .ref x0), (1, .int x1), (2, .int x2), (3, .int x3)]) X dd_Mo_groupRows_115 (by decide) rfl ?_
  refine z_sub [1, 2, 3, 4, 0] rfl ?_
  exact t_Mo_groupRows_117 X H h k0 k1
set_option maxRecDepth 100000 in
set_option maxHeartbeats 4000000 in
theorem t_Mo_groupRows_81  (X : zX p s m args cd D cid B bb_Mo_groupRows 5 rr_Mo zT) (H : zH s meth B n0 (some (.int)) "groupRows") {nf : Nat} {x0 : Nat} {x1 : Int32} {x2 : Int32} {x3 : Int32} {c : Zc} {r : (Nat × Int32 × Int32 × Zc) ⊕ (Int32 × Zc)} (h : f_Mo_groupRows_81 nf x0 x1 x2 x3 c = some r) (k0 : ∀ a, r = .inl a → (fun a : Nat × Int32 × Int32 × Zc => Zz p l e (zRm 2 53 0 0) s m args below meth cd Q D cid B 5 0 0 a.2.2.2 71 [(0, .ref a.1), (1, .int a.2.1), (2, .int a.2.2.1)] []) a) (k1 : ∀ b, r = .inr b → (fun b : Int32 × Zc => Zz p l e (zRm 2 53 0 0) s m args below meth cd Q D cid B 5 0 0 b.2 165 [(1, .int b.1)] []) b) : Zz p l e (zRm 2 53 0 0) s m args below meth cd Q D cid B 5 0 0 c 81 [(0, .ref x0), (1, .int x1), (2, .int x2), (3, .int x3)] [] := by
  unfold f_Mo_groupRows_81 at h
  obtain ⟨b, eb, h⟩ := zb h
  refine zlp_ok (P := fun a : Nat × Int32 × Int32 × Int32 × Zc => Zz p l e (zRm 2 53 0 0) s m args below meth cd _ D cid B 5 0 0 a.2.2.2.2 81 [(0, .ref a.1), (1, .int a.2.1), (2, .int a.2.2.1), (3, .int a.2.2.2.1)] []) (G := fun b : Nat × Int32 × Int32 × Int32 × Zc => Zz p l e (zRm 2 53 0 0) s m args below meth cd _ D cid B 5 0 0 b.2.2.2.2 114 [(0, .ref b.1), (1, .int b.2.1), (2, .int b.2.2.1), (3, .int b.2.2.2.1)] []) (fun a r ha k0 k1 => u_Mo_groupRows_81 X H ha k0 k1) nf _ b eb ?_
  exact t_Mo_groupRows_114 X H h k0 k1
set_option maxRecDepth 100000 in
set_option maxHeartbeats 4000000 in
theorem u_Mo_groupRows_71  (X : zX p s m args cd D cid B bb_Mo_groupRows 5 rr_Mo zT) (H : zH s meth B n0 (some (.int)) "groupRows") {nf : Nat} {x0 : Nat} {x1 : Int32} {x2 : Int32} {c : Zc} {r : (Nat × Int32 × Int32 × Zc) ⊕ (Int32 × Zc)} (h : g_Mo_groupRows_71 nf x0 x1 x2 c = some r) (k0 : ∀ a, r = .inl a → (fun a : Nat × Int32 × Int32 × Zc => Zz p l e (zRm 2 53 0 0) s m args below meth cd Q D cid B 5 0 0 a.2.2.2 71 [(0, .ref a.1), (1, .int a.2.1), (2, .int a.2.2.1)] []) a) (k1 : ∀ b, r = .inr b → (fun b : Int32 × Zc => Zz p l e (zRm 2 53 0 0) s m args below meth cd Q D cid B 5 0 0 b.2 165 [(1, .int b.1)] []) b) : Zz p l e (zRm 2 53 0 0) s m args below meth cd Q D cid B 5 0 0 c 71 [(0, .ref x0), (1, .int x1), (2, .int x2)] [] := by
  unfold g_Mo_groupRows_71 at h
  refine z_iload_n X dd_Mo_groupRows_71 rfl 2 rfl ?_
  refine z_aload_n X dd_Mo_groupRows_72 rfl 0 rfl ?_
  obtain ⟨v17, ev17, h⟩ := zb h
  refine z_get (j := 81) X dd_Mo_groupRows_73 kc_12 ki_12 (by decide) km_1602 (zgi_v ev17) ?_
  refine z_icmp_ge (tgt := 165) X dd_Mo_groupRows_76 (by decide) (fun q18 => ?_) (fun q18 => ?_)
  · rw [if_pos q18] at h
    refine z_sub [1] rfl ?_
    obtain rfl := Option.some.inj h
    exact k1 _ rfl
  · rw [if_neg q18] at h
    refine z_iload_n X dd_Mo_groupRows_79 rfl 2 rfl ?_
    refine z_istore_n (lv' := [(3, .int x2), (0, .ref x0), (1, .int x1), (2, .int x2)]) X dd_Mo_groupRows_80 rfl (by decide) rfl ?_
    refine z_sub [1, 2, 3, 0] rfl ?_
    exact t_Mo_groupRows_81 X H h k0 k1
set_option maxRecDepth 100000 in
set_option maxHeartbeats 4000000 in
theorem t_Mo_groupRows_71  (X : zX p s m args cd D cid B bb_Mo_groupRows 5 rr_Mo zT) (H : zH s meth B n0 (some (.int)) "groupRows") {nf : Nat} {x0 : Nat} {x1 : Int32} {x2 : Int32} {c : Zc} {res : Int32 × Zc} (h : f_Mo_groupRows_71 nf x0 x1 x2 c = some res) : Zz p l e (zRm 2 53 0 0) s m args below meth cd (MQ below (zQi D cid B res.1 res.2 n0 0) args s 0 0 (fun q => B ≤ q)) D cid B 5 0 0 c 71 [(0, .ref x0), (1, .int x1), (2, .int x2)] [] := by
  unfold f_Mo_groupRows_71 at h
  obtain ⟨b, eb, h⟩ := zb h
  refine zlp_ok (P := fun a : Nat × Int32 × Int32 × Zc => Zz p l e (zRm 2 53 0 0) s m args below meth cd _ D cid B 5 0 0 a.2.2.2 71 [(0, .ref a.1), (1, .int a.2.1), (2, .int a.2.2.1)] []) (G := fun b : Int32 × Zc => Zz p l e (zRm 2 53 0 0) s m args below meth cd _ D cid B 5 0 0 b.2 165 [(1, .int b.1)] []) (fun a r ha k0 k1 => u_Mo_groupRows_71 X H ha k0 k1) nf _ b eb ?_
  refine z_iload_n X dd_Mo_groupRows_165 rfl 0 rfl ?_
  obtain rfl := Option.some.inj h
  exact z_iret X H.1 H.2.1 H.2.2.1 dd_Mo_groupRows_166
set_option maxRecDepth 100000 in
set_option maxHeartbeats 4000000 in
theorem t_Mo_groupRows_7  (X : zX p s m args cd D cid B bb_Mo_groupRows 5 rr_Mo zT) (H : zH s meth B n0 (some (.int)) "groupRows") {nf : Nat} {x0 : Nat} {x1 : Int32} {c : Zc} {res : Int32 × Zc} (h : f_Mo_groupRows_7 nf x0 x1 c = some res) : Zz p l e (zRm 2 53 0 0) s m args below meth cd (MQ below (zQi D cid B res.1 res.2 n0 0) args s 0 0 (fun q => B ≤ q)) D cid B 5 0 0 c 7 [(0, .ref x0), (1, .int x1)] [] := by
  unfold f_Mo_groupRows_7 at h
  obtain ⟨b, eb, h⟩ := zb h
  refine zlp_ok (P := fun a : Nat × Int32 × Zc => Zz p l e (zRm 2 53 0 0) s m args below meth cd _ D cid B 5 0 0 a.2.2 7 [(0, .ref a.1), (1, .int a.2.1)] []) (G := fun b : Nat × Zc => Zz p l e (zRm 2 53 0 0) s m args below meth cd _ D cid B 5 0 0 b.2 63 [(0, .ref b.1)] []) (fun a r ha k0 k1 => u_Mo_groupRows_7 X H ha k0 k1) nf _ b eb ?_
  refine z_aload_n X dd_Mo_groupRows_63 rfl 0 rfl ?_
  obtain ⟨w16, ew16, h⟩ := zb h
  obtain ⟨q15, eq15, h⟩ := zb h
  refine z_callVv X [] rfl dd_Mo_groupRows_64 (c_Mo_sortRows l eq15) (cwV 0 X.1.2.2.2.2 (zg_V km_2147 km_2149 km_121 km_138 km_2150) rfl rfl rfl (by decide +kernel) ⟨Nat.le_of_ble_eq_true rfl, Nat.le_of_ble_eq_true rfl⟩) (zob_s ew16) kc_12 rfl (Nat.le_of_ble_eq_true rfl) ⟨Nat.le_of_ble_eq_true rfl, Nat.le_of_ble_eq_true rfl⟩ ?_
  refine z_iconst (v := 0) X dd_Mo_groupRows_67 (by decide) ?_
  refine z_istore_n (lv' := [(1, .int 0), (0, .ref b.1)]) X dd_Mo_groupRows_68 rfl (by decide) rfl ?_
  refine z_iconst (v := 0) X dd_Mo_groupRows_69 (by decide) ?_
  refine z_istore_n (lv' := [(2, .int 0), (1, .int 0), (0, .ref b.1)]) X dd_Mo_groupRows_70 rfl (by decide) rfl ?_
  refine z_sub [2, 1, 0] rfl ?_
  exact t_Mo_groupRows_71 X H h
set_option maxRecDepth 100000 in
set_option maxHeartbeats 4000000 in
theorem c_Mo_groupRows (l : Launch) {nf : Nat} {a0 : Nat} {c : Zc} {res : Int32 × Zc} (h : f_Mo_groupRows nf a0 c = some res) : zM l yy_Mo_groupRows ww_Mo_groupRows 2 53 0 0 [.ref a0] c (fun D cid B => zQi D cid B res.1 res.2 c.length 0) := by
  refine z_met (cc := bb_Mo_groupRows) (maxL := 5) (ret := (some (.int))) (by decide +kernel) rfl (Nat.le_of_ble_eq_true rfl) ?_
  intro p e s m args below meth cd D cid B X h1 h2 h3 h4
  have X : zX p s m args cd D cid B bb_Mo_groupRows 5 rr_Mo zT := X
  have H : zH s meth B c.length (some (.int)) "groupRows" := ⟨h1, h2, h4, h3⟩
  unfold f_Mo_groupRows at h
  show Zz p l e (zRm 2 53 0 0) s m args below meth cd _ D cid B 5 0 0 c 0 [(0, .ref a0)] []
  refine z_aload_n X dd_Mo_groupRows_0 rfl 0 rfl ?_
  refine z_iconst (v := 0) X dd_Mo_groupRows_1 (by decide) ?_
  obtain ⟨c1, ec1, h⟩ := zb h
  refine z_put (j := 87) X dd_Mo_groupRows_2 kc_12 ki_12 tt_Mo tk_Mo nn_Mo (by decide) km_1608 rfl (tk_Mo 87 (by decide)) rfl rfl ec1 ?_
  refine z_iconst (v := 0) X dd_Mo_groupRows_5 (by decide) ?_
  refine z_istore_n (lv' := [(1, .int 0), (0, .ref a0)]) X dd_Mo_groupRows_6 rfl (by decide) rfl ?_
  refine z_sub [1, 0] rfl ?_
  exact t_Mo_groupRows_7 X H h
theorem dd_Mo_answered_0 : decode bb_Mo_answered 0 = .ok (.aload_n 0, 1) := by decide +kernel
theorem dd_Mo_answered_1 : decode bb_Mo_answered 1 = .ok (.aload_n 0, 1) := by decide +kernel
theorem dd_Mo_answered_2 : decode bb_Mo_answered 2 = .ok (.getfield 56, 3) := by decide +kernel
theorem dd_Mo_answered_5 : decode bb_Mo_answered 5 = .ok (.iload_n 1, 1) := by decide +kernel
theorem dd_Mo_answered_6 : decode bb_Mo_answered 6 = .ok (.iaload, 1) := by decide +kernel
theorem dd_Mo_answered_7 : decode bb_Mo_answered 7 = .ok (.putfield 331, 3) := by decide +kernel
theorem dd_Mo_answered_10 : decode bb_Mo_answered 10 = .ok (.aload_n 0, 1) := by decide +kernel
theorem dd_Mo_answered_11 : decode bb_Mo_answered 11 = .ok (.invokevirtual 503, 3) := by decide +kernel
theorem dd_Mo_answered_14 : decode bb_Mo_answered 14 = .ok (.aload_n 0, 1) := by decide +kernel
theorem dd_Mo_answered_15 : decode bb_Mo_answered 15 = .ok (.invokevirtual 527, 3) := by decide +kernel
theorem dd_Mo_answered_18 : decode bb_Mo_answered 18 = .ok (.aload_n 0, 1) := by decide +kernel
theorem dd_Mo_answered_19 : decode bb_Mo_answered 19 = .ok (.invokevirtual 530, 3) := by decide +kernel
theorem dd_Mo_answered_22 : decode bb_Mo_answered 22 = .ok (.istore_n 2, 1) := by decide +kernel
theorem dd_Mo_answered_23 : decode bb_Mo_answered 23 = .ok (.iconst 0, 1) := by decide +kernel
theorem dd_Mo_answered_24 : decode bb_Mo_answered 24 = .ok (.istore_n 3, 1) := by decide +kernel
theorem dd_Mo_answered_25 : decode bb_Mo_answered 25 = .ok (.iload_n 3, 1) := by decide +kernel
theorem dd_Mo_answered_26 : decode bb_Mo_answered 26 = .ok (.bipush 8, 2) := by decide +kernel
theorem dd_Mo_answered_28 : decode bb_Mo_answered 28 = .ok (.iload_n 2, 1) := by decide +kernel
theorem dd_Mo_answered_29 : decode bb_Mo_answered 29 = .ok (.imul, 1) := by decide +kernel
theorem dd_Mo_answered_30 : decode bb_Mo_answered 30 = .ok (.if_icmp .ge 21, 3) := by decide +kernel
theorem dd_Mo_answered_33 : decode bb_Mo_answered 33 = .ok (.aload_n 0, 1) := by decide +kernel
theorem dd_Mo_answered_34 : decode bb_Mo_answered 34 = .ok (.getfield 204, 3) := by decide +kernel
theorem dd_Mo_answered_37 : decode bb_Mo_answered 37 = .ok (.iload_n 3, 1) := by decide +kernel
theorem dd_Mo_answered_38 : decode bb_Mo_answered 38 = .ok (.aload_n 0, 1) := by decide +kernel
theorem dd_Mo_answered_39 : decode bb_Mo_answered 39 = .ok (.getfield 229, 3) := by decide +kernel
theorem dd_Mo_answered_42 : decode bb_Mo_answered 42 = .ok (.iload_n 3, 1) := by decide +kernel
theorem dd_Mo_answered_43 : decode bb_Mo_answered 43 = .ok (.iaload, 1) := by decide +kernel
theorem dd_Mo_answered_44 : decode bb_Mo_answered 44 = .ok (.iastore, 1) := by decide +kernel
theorem dd_Mo_answered_45 : decode bb_Mo_answered 45 = .ok (.iinc 3 1, 3) := by decide +kernel
theorem dd_Mo_answered_48 : decode bb_Mo_answered 48 = .ok (.goto (-23), 3) := by decide +kernel
theorem dd_Mo_answered_51 : decode bb_Mo_answered 51 = .ok (.aload_n 0, 1) := by decide +kernel
theorem dd_Mo_answered_52 : decode bb_Mo_answered 52 = .ok (.iload_n 2, 1) := by decide +kernel
theorem dd_Mo_answered_53 : decode bb_Mo_answered 53 = .ok (.putfield 515, 3) := by decide +kernel
theorem dd_Mo_answered_56 : decode bb_Mo_answered 56 = .ok (.aload_n 0, 1) := by decide +kernel
theorem dd_Mo_answered_57 : decode bb_Mo_answered 57 = .ok (.aload_n 0, 1) := by decide +kernel
theorem dd_Mo_answered_58 : decode bb_Mo_answered 58 = .ok (.getfield 116, 3) := by decide +kernel
theorem dd_Mo_answered_61 : decode bb_Mo_answered 61 = .ok (.aload_n 0, 1) := by decide +kernel
theorem dd_Mo_answered_62 : decode bb_Mo_answered 62 = .ok (.getfield 331, 3) := by decide +kernel
theorem dd_Mo_answered_65 : decode bb_Mo_answered 65 = .ok (.iaload, 1) := by decide +kernel
theorem dd_Mo_answered_66 : decode bb_Mo_answered 66 = .ok (.putfield 512, 3) := by decide +kernel
theorem dd_Mo_answered_69 : decode bb_Mo_answered 69 = .ok (.iconst 0, 1) := by decide +kernel
theorem dd_Mo_answered_70 : decode bb_Mo_answered 70 = .ok (.istore_n 3, 1) := by decide +kernel
theorem dd_Mo_answered_71 : decode bb_Mo_answered 71 = .ok (.iload_n 3, 1) := by decide +kernel
theorem dd_Mo_answered_72 : decode bb_Mo_answered 72 = .ok (.aload_n 0, 1) := by decide +kernel
theorem dd_Mo_answered_73 : decode bb_Mo_answered 73 = .ok (.getfield 512, 3) := by decide +kernel
theorem dd_Mo_answered_76 : decode bb_Mo_answered 76 = .ok (.if_icmp .ge 16, 3) := by decide +kernel
theorem dd_Mo_answered_79 : decode bb_Mo_answered 79 = .ok (.aload_n 0, 1) := by decide +kernel
theorem dd_Mo_answered_80 : decode bb_Mo_answered 80 = .ok (.getfield 226, 3) := by decide +kernel
theorem dd_Mo_answered_83 : decode bb_Mo_answered 83 = .ok (.iload_n 3, 1) := by decide +kernel
theorem dd_Mo_answered_84 : decode bb_Mo_answered 84 = .ok (.iload_n 3, 1) := by decide +kernel
theorem dd_Mo_answered_85 : decode bb_Mo_answered 85 = .ok (.iastore, 1) := by decide +kernel
theorem dd_Mo_answered_86 : decode bb_Mo_answered 86 = .ok (.iinc 3 1, 3) := by decide +kernel
theorem dd_Mo_answered_89 : decode bb_Mo_answered 89 = .ok (.goto (-18), 3) := by decide +kernel
theorem dd_Mo_answered_92 : decode bb_Mo_answered 92 = .ok (.aload_n 0, 1) := by decide +kernel
theorem dd_Mo_answered_93 : decode bb_Mo_answered 93 = .ok (.invokevirtual 521, 3) := by decide +kernel
theorem dd_Mo_answered_96 : decode bb_Mo_answered 96 = .ok (.aload_n 0, 1) := by decide +kernel
theorem dd_Mo_answered_97 : decode bb_Mo_answered 97 = .ok (.getfield 128, 3) := by decide +kernel
theorem dd_Mo_answered_100 : decode bb_Mo_answered 100 = .ok (.aload_n 0, 1) := by decide +kernel
theorem dd_Mo_answered_101 : decode bb_Mo_answered 101 = .ok (.getfield 331, 3) := by decide +kernel
theorem dd_Mo_answered_104 : decode bb_Mo_answered 104 = .ok (.iaload, 1) := by decide +kernel
theorem dd_Mo_answered_105 : decode bb_Mo_answered 105 = .ok (.ifCond .le 26, 3) := by decide +kernel
theorem dd_Mo_answered_108 : decode bb_Mo_answered 108 = .ok (.iload_n 2, 1) := by decide +kernel
theorem dd_Mo_answered_109 : decode bb_Mo_answered 109 = .ok (.aload_n 0, 1) := by decide +kernel
theorem dd_Mo_answered_110 : decode bb_Mo_answered 110 = .ok (.getfield 128, 3) := by decide +kernel
theorem dd_Mo_answered_113 : decode bb_Mo_answered 113 = .ok (.aload_n 0, 1) := by decide +kernel
theorem dd_Mo_answered_114 : decode bb_Mo_answered 114 = .ok (.getfield 331, 3) := by decide +kernel
theorem dd_Mo_answered_117 : decode bb_Mo_answered 117 = .ok (.iaload, 1) := by decide +kernel
theorem dd_Mo_answered_118 : decode bb_Mo_answered 118 = .ok (.if_icmp .le 13, 3) := by decide +kernel
theorem dd_Mo_answered_121 : decode bb_Mo_answered 121 = .ok (.aload_n 0, 1) := by decide +kernel
theorem dd_Mo_answered_122 : decode bb_Mo_answered 122 = .ok (.getfield 128, 3) := by decide +kernel
theorem dd_Mo_answered_125 : decode bb_Mo_answered 125 = .ok (.aload_n 0, 1) := by decide +kernel
theorem dd_Mo_answered_126 : decode bb_Mo_answered 126 = .ok (.getfield 331, 3) := by decide +kernel
theorem dd_Mo_answered_129 : decode bb_Mo_answered 129 = .ok (.iaload, 1) := by decide +kernel
theorem dd_Mo_answered_130 : decode bb_Mo_answered 130 = .ok (.istore_n 2, 1) := by decide +kernel
theorem dd_Mo_answered_131 : decode bb_Mo_answered 131 = .ok (.iconst 0, 1) := by decide +kernel
theorem dd_Mo_answered_132 : decode bb_Mo_answered 132 = .ok (.istore_n 3, 1) := by decide +kernel
theorem dd_Mo_answered_133 : decode bb_Mo_answered 133 = .ok (.iload_n 3, 1) := by decide +kernel
theorem dd_Mo_answered_134 : decode bb_Mo_answered 134 = .ok (.iload_n 2, 1) := by decide +kernel
theorem dd_Mo_answered_135 : decode bb_Mo_answered 135 = .ok (.if_icmp .ge 66, 3) := by decide +kernel
theorem dd_Mo_answered_138 : decode bb_Mo_answered 138 = .ok (.iconst 0, 1) := by decide +kernel
theorem dd_Mo_answered_139 : decode bb_Mo_answered 139 = .ok (.istore 4, 2) := by decide +kernel
theorem dd_Mo_answered_141 : decode bb_Mo_answered 141 = .ok (.iload 4, 2) := by decide +kernel
theorem dd_Mo_answered_143 : decode bb_Mo_answered 143 = .ok (.aload_n 0, 1) := by decide +kernel
theorem dd_Mo_answered_144 : decode bb_Mo_answered 144 = .ok (.getfield 116, 3) := by decide +kernel
theorem dd_Mo_answered_147 : decode bb_Mo_answered 147 = .ok (.aload_n 0, 1) := by decide +kernel
theorem dd_Mo_answered_148 : decode bb_Mo_answered 148 = .ok (.getfield 331, 3) := by decide +kernel
theorem dd_Mo_answered_151 : decode bb_Mo_answered 151 = .ok (.iaload, 1) := by decide +kernel
theorem dd_Mo_answered_152 : decode bb_Mo_answered 152 = .ok (.if_icmp .ge 43, 3) := by decide +kernel
theorem dd_Mo_answered_155 : decode bb_Mo_answered 155 = .ok (.aload_n 0, 1) := by decide +kernel
theorem dd_Mo_answered_156 : decode bb_Mo_answered 156 = .ok (.getfield 214, 3) := by decide +kernel
theorem dd_Mo_answered_159 : decode bb_Mo_answered 159 = .ok (.ldc 203, 2) := by decide +kernel
theorem dd_Mo_answered_161 : decode bb_Mo_answered 161 = .ok (.iload_n 1, 1) := by decide +kernel
theorem dd_Mo_answered_162 : decode bb_Mo_answered 162 = .ok (.imul, 1) := by decide +kernel
theorem dd_Mo_answered_163 : decode bb_Mo_answered 163 = .ok (.bipush 8, 2) := by decide +kernel
theorem dd_Mo_answered_165 : decode bb_Mo_answered 165 = .ok (.iload_n 3, 1) := by decide +kernel
theorem dd_Mo_answered_166 : decode bb_Mo_answered 166 = .ok (.imul, 1) := by decide +kernel
theorem dd_Mo_answered_167 : decode bb_Mo_answered 167 = .ok (.iadd, 1) := by decide +kernel
theorem dd_Mo_answered_168 : decode bb_Mo_answered 168 = .ok (.iload 4, 2) := by decide +kernel
theorem dd_Mo_answered_170 : decode bb_Mo_answered 170 = .ok (.iadd, 1) := by decide +kernel
theorem dd_Mo_answered_171 : decode bb_Mo_answered 171 = .ok (.aload_n 0, 1) := by decide +kernel
theorem dd_Mo_answered_172 : decode bb_Mo_answered 172 = .ok (.getfield 204, 3) := by decide +kernel
theorem dd_Mo_answered_175 : decode bb_Mo_answered 175 = .ok (.bipush 8, 2) := by decide +kernel
theorem dd_Mo_answered_177 : decode bb_Mo_answered 177 = .ok (.aload_n 0, 1) := by decide +kernel
theorem dd_Mo_answered_178 : decode bb_Mo_answered 178 = .ok (.getfield 207, 3) := by decide +kernel
theorem dd_Mo_answered_181 : decode bb_Mo_answered 181 = .ok (.iload_n 3, 1) := by decide +kernel
theorem dd_Mo_answered_182 : decode bb_Mo_answered 182 = .ok (.iaload, 1) := by decide +kernel
theorem dd_Mo_answered_183 : decode bb_Mo_answered 183 = .ok (.imul, 1) := by decide +kernel
theorem dd_Mo_answered_184 : decode bb_Mo_answered 184 = .ok (.iload 4, 2) := by decide +kernel
theorem dd_Mo_answered_186 : decode bb_Mo_answered 186 = .ok (.iadd, 1) := by decide +kernel
theorem dd_Mo_answered_187 : decode bb_Mo_answered 187 = .ok (.iaload, 1) := by decide +kernel
theorem dd_Mo_answered_188 : decode bb_Mo_answered 188 = .ok (.iastore, 1) := by decide +kernel
theorem dd_Mo_answered_189 : decode bb_Mo_answered 189 = .ok (.iinc 4 1, 3) := by decide +kernel
theorem dd_Mo_answered_192 : decode bb_Mo_answered 192 = .ok (.goto (-51), 3) := by decide +kernel
theorem dd_Mo_answered_195 : decode bb_Mo_answered 195 = .ok (.iinc 3 1, 3) := by decide +kernel
theorem dd_Mo_answered_198 : decode bb_Mo_answered 198 = .ok (.goto (-65), 3) := by decide +kernel
theorem dd_Mo_answered_201 : decode bb_Mo_answered 201 = .ok (.aload_n 0, 1) := by decide +kernel
theorem dd_Mo_answered_202 : decode bb_Mo_answered 202 = .ok (.getfield 217, 3) := by decide +kernel
theorem dd_Mo_answered_205 : decode bb_Mo_answered 205 = .ok (.iload_n 1, 1) := by decide +kernel
theorem dd_Mo_answered_206 : decode bb_Mo_answered 206 = .ok (.iload_n 2, 1) := by decide +kernel
theorem dd_Mo_answered_207 : decode bb_Mo_answered 207 = .ok (.iastore, 1) := by decide +kernel
theorem dd_Mo_answered_208 : decode bb_Mo_answered 208 = .ok (.aload_n 0, 1) := by decide +kernel
theorem dd_Mo_answered_209 : decode bb_Mo_answered 209 = .ok (.getfield 220, 3) := by decide +kernel
theorem dd_Mo_answered_212 : decode bb_Mo_answered 212 = .ok (.iload_n 1, 1) := by decide +kernel
theorem dd_Mo_answered_213 : decode bb_Mo_answered 213 = .ok (.aload_n 0, 1) := by decide +kernel
theorem dd_Mo_answered_214 : decode bb_Mo_answered 214 = .ok (.getfield 116, 3) := by decide +kernel
theorem dd_Mo_answered_217 : decode bb_Mo_answered 217 = .ok (.aload_n 0, 1) := by decide +kernel
theorem dd_Mo_answered_218 : decode bb_Mo_answered 218 = .ok (.getfield 331, 3) := by decide +kernel
theorem dd_Mo_answered_221 : decode bb_Mo_answered 221 = .ok (.iaload, 1) := by decide +kernel
theorem dd_Mo_answered_222 : decode bb_Mo_answered 222 = .ok (.iastore, 1) := by decide +kernel
theorem dd_Mo_answered_223 : decode bb_Mo_answered 223 = .ok (.aload_n 0, 1) := by decide +kernel
theorem dd_Mo_answered_224 : decode bb_Mo_answered 224 = .ok (.getfield 223, 3) := by decide +kernel
theorem dd_Mo_answered_227 : decode bb_Mo_answered 227 = .ok (.iload_n 1, 1) := by decide +kernel
theorem dd_Mo_answered_228 : decode bb_Mo_answered 228 = .ok (.iconst 1, 1) := by decide +kernel
theorem dd_Mo_answered_229 : decode bb_Mo_answered 229 = .ok (.bastore, 1) := by decide +kernel
theorem dd_Mo_answered_230 : decode bb_Mo_answered 230 = .ok (.iload_n 2, 1) := by decide +kernel
theorem dd_Mo_answered_231 : decode bb_Mo_answered 231 = .ok (.ireturn, 1) := by decide +kernel
def g_Mo_answered_25 (nf : Nat) (x0 : Nat) (x1 : Int32) (x2 : Int32) (x3 : Int32) (c : Zc) : Option ((Nat × Int32 × Int32 × Int32 × Zc) ⊕ (Nat × Int32 × Int32 × Zc)) :=
  if (8 * x2) ≤ x3 then (some (.inr (x0, x1, x2, c))) else ((zgr c x0 12 78).bind fun v11 => (zgr c x0 12 88).bind fun v12 => (zai c v12 0 x3).bind fun v13 => (zsi c v11 0 x3 v13).bind fun c14 => some (.inl (x0, x1, x2, (x3 + 1), c14)))
def g_Mo_answered_71 (nf : Nat) (x0 : Nat) (x1 : Int32) (x2 : Int32) (x3 : Int32) (c : Zc) : Option ((Nat × Int32 × Int32 × Int32 × Zc) ⊕ (Nat × Int32 × Int32 × Zc)) :=
  (zgi c x0 12 87).bind fun v20 => if v20 ≤ x3 then (some (.inr (x0, x1, x2, c))) else ((zgr c x0 12 86).bind fun v22 => (zsi c v22 0 x3 x3).bind fun c23 => some (.inl (x0, x1, x2, (x3 + 1), c23)))
def g_Mo_answered_141 (nf : Nat) (x0 : Nat) (x1 : Int32) (x2 : Int32) (x3 : Int32) (x4 : Int32) (c : Zc) : Option ((Nat × Int32 × Int32 × Int32 × Int32 × Zc) ⊕ (Nat × Int32 × Int32 × Int32 × Zc)) :=
  (zgr c x0 12 43).bind fun v31 => (zgi c x0 12 25).bind fun v32 => (zai c v31 0 v32).bind fun v33 => if v33 ≤ x4 then (some (.inr (x0, x1, x2, x3, c))) else ((zgr c x0 12 82).bind fun v35 => (zgr c x0 12 78).bind fun v36 => (zgr c x0 12 79).bind fun v37 => (zai c v37 0 x3).bind fun v38 => (zai c v36 0 ((8 * v38) + x4)).bind fun v39 => (zsi c v35 0 (((160000 * x1) + (8 * x3)) + x4) v39).bind fun c40 => some (.inl (x0, x1, x2, x3, (x4 + 1), c40)))
def f_Mo_answered_141 (nf : Nat) (x0 : Nat) (x1 : Int32) (x2 : Int32) (x3 : Int32) (x4 : Int32) (c : Zc) : Option ((Nat × Int32 × Int32 × Int32 × Zc) ⊕ (Nat × Int32 × Int32 × Zc)) :=
  (zlp (fun a => g_Mo_answered_141 nf a.1 a.2.1 a.2.2.1 a.2.2.2.1 a.2.2.2.2.1 a.2.2.2.2.2) nf (x0, x1, x2, x3, x4, c)).bind fun b => some (.inl (b.1, b.2.1, b.2.2.1, (b.2.2.2.1 + 1), b.2.2.2.2))
def g_Mo_answered_133 (nf : Nat) (x0 : Nat) (x1 : Int32) (x2 : Int32) (x3 : Int32) (c : Zc) : Option ((Nat × Int32 × Int32 × Int32 × Zc) ⊕ (Nat × Int32 × Int32 × Zc)) :=
  if x2 ≤ x3 then (some (.inr (x0, x1, x2, c))) else (f_Mo_answered_141 nf x0 x1 x2 x3 0 c)
def f_Mo_answered_133 (nf : Nat) (x0 : Nat) (x1 : Int32) (x2 : Int32) (x3 : Int32) (c : Zc) : Option (Int32 × Zc) :=
  (zlp (fun a => g_Mo_answered_133 nf a.1 a.2.1 a.2.2.1 a.2.2.2.1 a.2.2.2.2) nf (x0, x1, x2, x3, c)).bind fun b => (zgr b.2.2.2 b.1 12 83).bind fun v41 => (zsi b.2.2.2 v41 0 b.2.1 b.2.2.1).bind fun c42 => (zgr c42 b.1 12 84).bind fun v43 => (zgr c42 b.1 12 43).bind fun v44 => (zgi c42 b.1 12 25).bind fun v45 => (zai c42 v44 0 v45).bind fun v46 => (zsi c42 v43 0 b.2.1 v46).bind fun c47 => (zgr c47 b.1 12 85).bind fun v48 => (zsi c47 v48 6 b.2.1 (vp_nar .boolean 1)).bind fun c49 => some (b.2.2.1, c49)
def f_Mo_answered_131 (nf : Nat) (x0 : Nat) (x1 : Int32) (x2 : Int32) (c : Zc) : Option (Int32 × Zc) :=
  f_Mo_answered_133 nf x0 x1 x2 0 c
def f_Mo_answered_71 (nf : Nat) (x0 : Nat) (x1 : Int32) (x2 : Int32) (x3 : Int32) (c : Zc) : Option (Int32 × Zc) :=
  (zlp (fun a => g_Mo_answered_71 nf a.1 a.2.1 a.2.2.1 a.2.2.2.1 a.2.2.2.2) nf (x0, x1, x2, x3, c)).bind fun b => (zob b.2.2.2 b.1 12).bind fun w25 => (f_Mo_sortRows nf b.1 b.2.2.2).bind fun q24 => (zgr q24 b.1 12 47).bind fun v26 => (zgi q24 b.1 12 25).bind fun v27 => (zai q24 v26 0 v27).bind fun v28 => if v28 ≤ 0 then (f_Mo_answered_131 nf b.1 b.2.1 b.2.2.1 q24) else ((zgr q24 b.1 12 47).bind fun v50 => (zgi q24 b.1 12 25).bind fun v51 => (zai q24 v50 0 v51).bind fun v52 => if b.2.2.1 ≤ v52 then (f_Mo_answered_131 nf b.1 b.2.1 b.2.2.1 q24) else ((zgr q24 b.1 12 47).bind fun v54 => (zgi q24 b.1 12 25).bind fun v55 => (zai q24 v54 0 v55).bind fun v56 => f_Mo_answered_131 nf b.1 b.2.1 v56 q24))
def f_Mo_answered_25 (nf : Nat) (x0 : Nat) (x1 : Int32) (x2 : Int32) (x3 : Int32) (c : Zc) : Option (Int32 × Zc) :=
  (zlp (fun a => g_Mo_answered_25 nf a.1 a.2.1 a.2.2.1 a.2.2.2.1 a.2.2.2.2) nf (x0, x1, x2, x3, c)).bind fun b => (zpv b.2.2.2 b.1 12 81 (.int b.2.2.1)).bind fun c15 => (zgr c15 b.1 12 43).bind fun v16 => (zgi c15 b.1 12 25).bind fun v17 => (zai c15 v16 0 v17).bind fun v18 => (zpv c15 b.1 12 87 (.int v18)).bind fun c19 => f_Mo_answered_71 nf b.1 b.2.1 b.2.2.1 0 c19
def f_Mo_answered (nf : Nat) (a0 : Nat) (a1 : Int32) (c : Zc) : Option (Int32 × Zc) :=
  (zgr c a0 12 22).bind fun v1 => (zai c v1 0 a1).bind fun v2 => (zpv c a0 12 25 (.int v2)).bind fun c3 => (zob c3 a0 12).bind fun w5 => (f_Mo_measureAll nf a0 c3).bind fun q4 => (zob q4 a0 12).bind fun w7 => (f_Mo_collect nf a0 q4).bind fun q6 => (zob q6 a0 12).bind fun w9 => (f_Mo_groupRows nf a0 q6).bind fun q8 => f_Mo_answered_25 nf a0 a1 q8.1 0 q8.2
set_option maxRecDepth 100000 in
set_option maxHeartbeats 4000000 in
theorem u_Mo_answered_25  (X : zX p s m args cd D cid B bb_Mo_answered 5 rr_Mo zT) (H : zH s meth B n0 (some (.int)) "answered") {nf : Nat} {x0 : Nat} {x1 : Int32} {x2 : Int32} {x3 : Int32} {c : Zc} {r : (Nat × Int32 × Int32 × Int32 × Zc) ⊕ (Nat × Int32 × Int32 × Zc)} (h : g_Mo_answered_25 nf x0 x1 x2 x3 c = some r) (k0 : ∀ a, r = .inl a → (fun a : Nat × Int32 × Int32 × Int32 × Zc => Zz p l e (zRm 6 137 0 0) s m args below meth cd Q D cid B 5 0 0 a.2.2.2.2 25 [(0, .ref a.1), (1, .int a.2.1), (2, .int a.2.2.1), (3, .int a.2.2.2.1)] []) a) (k1 : ∀ b, r = .inr b → (fun b : Nat × Int32 × Int32 × Zc => Zz p l e (zRm 6 137 0 0) s m args below meth cd Q D cid B 5 0 0 b.2.2.2 51 [(0, .ref b.1), (1, .int b.2.1), (2, .int b.2.2.1)] []) b) : Zz p l e (zRm 6 137 0 0) s m args below meth cd Q D cid B 5 0 0 c 25 [(0, .ref x0), (1, .int x1), (2, .int x2), (3, .int x3)] [] := by
  unfold g_Mo_answered_25 at h
  refine z_iload_n X dd_Mo_answered_25 rfl 3 rfl ?_
  refine z_bipush (v := 8) X dd_Mo_answered_26 (by decide) ?_
  refine z_iload_n X dd_Mo_answered_28 rfl 2 rfl ?_
  refine z_imul X dd_Mo_answered_29 ?_
  refine z_icmp_ge (tgt := 51) X dd_Mo_answered_30 (by decide) (fun q10 => ?_) (fun q10 => ?_)
  · rw [if_pos q10] at h
    refine z_sub [0, 1, 2] rfl ?_
    obtain rfl := Option.some.inj h
    exact k1 _ rfl
  · rw [if_neg q10] at h
    refine z_aload_n X dd_Mo_answered_33 rfl 0 rfl ?_
    obtain ⟨v11, ev11, h⟩ := zb h
    refine z_get (j := 78) X dd_Mo_answered_34 kc_12 ki_12 (by decide) km_1599 (zgr_v ev11) ?_
    refine z_iload_n X dd_Mo_answered_37 rfl 3 rfl ?_
    refine z_aload_n X dd_Mo_answered_38 rfl 0 rfl ?_
    obtain ⟨v12, ev12, h⟩ := zb h
    refine z_get (j := 88) X dd_Mo_answered_39 kc_12 ki_12 (by decide) km_1609 (zgr_v ev12) ?_
    refine z_iload_n X dd_Mo_answered_42 rfl 3 rfl ?_
    obtain ⟨v13, ev13, h⟩ := zb h
    refine z_iaload X dd_Mo_answered_43 rfl ev13 ?_
    obtain ⟨c14, ec14, h⟩ := zb h
    refine z_iastore X dd_Mo_answered_44 rfl ec14 ?_
    refine z_iinc (v := (x3 + 1)) (lv' := [(3, .int (x3 + 1)), (0, .ref x0), (1, .int x1), (2, .int x2)]) X dd_Mo_answered_45 3 rfl rfl (by decide) rfl ?_
    refine z_goto (tgt := 25) X dd_Mo_answered_48 (by decide) ?_
    refine z_sub [1, 2, 3, 0] rfl ?_
    obtain rfl := Option.some.inj h
    exact k0 _ rfl
set_option maxRecDepth 100000 in
set_option maxHeartbeats 4000000 in
theorem u_Mo_answered_71  (X : zX p s m args cd D cid B bb_Mo_answered 5 rr_Mo zT) (H : zH s meth B n0 (some (.int)) "answered") {nf : Nat} {x0 : Nat} {x1 : Int32} {x2 : Int32} {x3 : Int32} {c : Zc} {r : (Nat × Int32 × Int32 × Int32 × Zc) ⊕ (Nat × Int32 × Int32 × Zc)} (h : g_Mo_answered_71 nf x0 x1 x2 x3 c = some r) (k0 : ∀ a, r = .inl a → (fun a : Nat × Int32 × Int32 × Int32 × Zc => Zz p l e (zRm 6 137 0 0) s m args below meth cd Q D cid B 5 0 0 a.2.2.2.2 71 [(0, .ref a.1), (1, .int a.2.1), (2, .int a.2.2.1), (3, .int a.2.2.2.1)] []) a) (k1 : ∀ b, r = .inr b → (fun b : Nat × Int32 × Int32 × Zc => Zz p l e (zRm 6 137 0 0) s m args below meth cd Q D cid B 5 0 0 b.2.2.2 92 [(0, .ref b.1), (1, .int b.2.1), (2, .int b.2.2.1)] []) b) : Zz p l e (zRm 6 137 0 0) s m args below meth cd Q D cid B 5 0 0 c 71 [(0, .ref x0), (1, .int x1), (2, .int x2), (3, .int x3)] [] := by
  unfold g_Mo_answered_71 at h
  refine z_iload_n X dd_Mo_answered_71 rfl 3 rfl ?_
  refine z_aload_n X dd_Mo_answered_72 rfl 0 rfl ?_
  obtain ⟨v20, ev20, h⟩ := zb h
  refine z_get (j := 87) X dd_Mo_answered_73 kc_12 ki_12 (by decide) km_1608 (zgi_v ev20) ?_
  refine z_icmp_ge (tgt := 92) X dd_Mo_answered_76 (by decide) (fun q21 => ?_) (fun q21 => ?_)
  · rw [if_pos q21] at h
    refine z_sub [0, 1, 2] rfl ?_
    obtain rfl := Option.some.inj h
    exact k1 _ rfl
  · rw [if_neg q21] at h
    refine z_aload_n X dd_Mo_answered_79 rfl 0 rfl ?_
    obtain ⟨v22, ev22, h⟩ := zb h
    refine z_get (j := 86) X dd_Mo_answered_80 kc_12 ki_12 (by decide) km_1607 (zgr_v ev22) ?_
    refine z_iload_n X dd_Mo_answered_83 rfl 3 rfl ?_
    refine z_iload_n X dd_Mo_answered_84 rfl 3 rfl ?_
    obtain ⟨c23, ec23, h⟩ := zb h
    refine z_iastore X dd_Mo_answered_85 rfl ec23 ?_
    refine z_iinc (v := (x3 + 1)) (lv' := [(3, .int (x3 + 1)), (0, .ref x0), (1, .int x1), (2, .int x2)]) X dd_Mo_answered_86 3 rfl rfl (by decide) rfl ?_
    refine z_goto (tgt := 71) X dd_Mo_answered_89 (by decide) ?_
    refine z_sub [1, 2, 3, 0] rfl ?_
    obtain rfl := Option.some.inj h
    exact k0 _ rfl
set_option maxRecDepth 100000 in
set_option maxHeartbeats 4000000 in
theorem u_Mo_answered_141  (X : zX p s m args cd D cid B bb_Mo_answered 5 rr_Mo zT) (H : zH s meth B n0 (some (.int)) "answered") {nf : Nat} {x0 : Nat} {x1 : Int32} {x2 : Int32} {x3 : Int32} {x4 : Int32} {c : Zc} {r : (Nat × Int32 × Int32 × Int32 × Int32 × Zc) ⊕ (Nat × Int32 × Int32 × Int32 × Zc)} (h : g_Mo_answered_141 nf x0 x1 x2 x3 x4 c = some r) (k0 : ∀ a, r = .inl a → (fun a : Nat × Int32 × Int32 × Int32 × Int32 × Zc => Zz p l e (zRm 6 137 0 0) s m args below meth cd Q D cid B 5 0 0 a.2.2.2.2.2 141 [(0, .ref a.1), (1, .int a.2.1), (2, .int a.2.2.1), (3, .int a.2.2.2.1), (4, .int a.2.2.2.2.1)] []) a) (k1 : ∀ b, r = .inr b → (fun b : Nat × Int32 × Int32 × Int32 × Zc => Zz p l e (zRm 6 137 0 0) s m args below meth cd Q D cid B 5 0 0 b.2.2.2.2 195 [(0, .ref b.1), (1, .int b.2.1), (2, .int b.2.2.1), (3, .int b.2.2.2.1)] []) b) : Zz p l e (zRm 6 137 0 0) s m args below meth cd Q D cid B 5 0 0 c 141 [(0, .ref x0), (1, .int x1), (2, .int x2), (3, .int x3), (4, .int x4)] [] := by
  unfold g_Mo_answered_141 at h
  refine z_iload X dd_Mo_answered_141 4 rfl ?_
  refine z_aload_n X dd_Mo_answered_143 rfl 0 rfl ?_
  obtain ⟨v31, ev31, h⟩ := zb h
  refine z_get (j := 43) X dd_Mo_answered_144 kc_12 ki_12 (by decide) km_1564 (zgr_v ev31) ?_
  refine z_aload_n X dd_Mo_answered_147 rfl 0 rfl ?_
  obtain ⟨v32, ev32, h⟩ := zb h
  refine z_get (j := 25) X dd_Mo_answered_148 kc_12 ki_12 (by decide) km_1546 (zgi_v ev32) ?_
  obtain ⟨v33, ev33, h⟩ := zb h
  refine z_iaload X dd_Mo_answered_151 rfl ev33 ?_
  refine z_icmp_ge (tgt := 195) X dd_Mo_answered_152 (by decide) (fun q34 => ?_) (fun q34 => ?_)
  · rw [if_pos q34] at h
    refine z_sub [0, 1, 2, 3] rfl ?_
    obtain rfl := Option.some.inj h
    exact k1 _ rfl
  · rw [if_neg q34] at h
    refine z_aload_n X dd_Mo_answered_155 rfl 0 rfl ?_
    obtain ⟨v35, ev35, h⟩ := zb h
    refine z_get (j := 82) X dd_Mo_answered_156 kc_12 ki_12 (by decide) km_1603 (zgr_v ev35) ?_
    refine z_ldc (v := 160000) X dd_Mo_answered_159 km_1519 ?_
    refine z_iload_n X dd_Mo_answered_161 rfl 1 rfl ?_
    refine z_imul X dd_Mo_answered_162 ?_
    refine z_bipush (v := 8) X dd_Mo_answered_163 (by decide) ?_
    refine z_iload_n X dd_Mo_answered_165 rfl 3 rfl ?_
    refine z_imul X dd_Mo_answered_166 ?_
    refine z_iadd X dd_Mo_answered_167 ?_
    refine z_iload X dd_Mo_answered_168 4 rfl ?_
    refine z_iadd X dd_Mo_answered_170 ?_
    refine z_aload_n X dd_Mo_answered_171 rfl 0 rfl ?_
    obtain ⟨v36, ev36, h⟩ := zb h
    refine z_get (j := 78) X dd_Mo_answered_172 kc_12 ki_12 (by decide) km_1599 (zgr_v ev36) ?_
    refine z_bipush (v := 8) X dd_Mo_answered_175 (by decide) ?_
    refine z_aload_n X dd_Mo_answered_177 rfl 0 rfl ?_
    obtain ⟨v37, ev37, h⟩ := zb h
    refine z_get (j := 79) X dd_Mo_answered_178 kc_12 ki_12 (by decide) km_1600 (zgr_v ev37) ?_
    refine z_iload_n X dd_Mo_answered_181 rfl 3 rfl ?_
    obtain ⟨v38, ev38, h⟩ := zb h
    refine z_iaload X dd_Mo_answered_182 rfl ev38 ?_
    refine z_imul X dd_Mo_answered_183 ?_
    refine z_iload X dd_Mo_answered_184 4 rfl ?_
    refine z_iadd X dd_Mo_answered_186 ?_
    obtain ⟨v39, ev39, h⟩ := zb h
    refine z_iaload X dd_Mo_answered_187 rfl ev39 ?_
    obtain ⟨c40, ec40, h⟩ := zb h
    refine z_iastore X dd_Mo_answered_188 rfl ec40 ?_
    refine z_iinc (v := (x4 + 1)) (lv' := [(4, .int (x4 + 1)), (0, .ref x0), (1, .int x1), (2, .int x2), (3, .int x3)]) X dd_Mo_answered_189 4 rfl rfl (by decide) rfl ?_
    refine z_goto (tgt := 141) X dd_Mo_answered_192 (by decide) ?_
    refine z_sub [1, 2, 3, 4, 0] rfl ?_
    obtain rfl := Option.some.inj h
    exact k0 _ rfl
set_option maxRecDepth 100000 in
set_option maxHeartbeats 4000000 in
theorem t_Mo_answered_141  (X : zX p s m args cd D cid B bb_Mo_answered 5 rr_Mo zT) (H : zH s meth B n0 (some (.int)) "answered") {nf : Nat} {x0 : Nat} {x1 : Int32} {x2 : Int32} {x3 : Int32} {x4 : Int32} {c : Zc} {r : (Nat × Int32 × Int32 × Int32 × Zc) ⊕ (Nat × Int32 × Int32 × Zc)} (h : f_Mo_answered_141 nf x0 x1 x2 x3 x4 c = some r) (k0 : ∀ a, r = .inl a → (fun a : Nat × Int32 × Int32 × Int32 × Zc => Zz p l e (zRm 6 137 0 0) s m args below meth cd Q D cid B 5 0 0 a.2.2.2.2 133 [(0, .ref a.1), (1, .int a.2.1), (2, .int a.2.2.1), (3, .int a.2.2.2.1)] []) a) (k1 : ∀ b, r = .inr b → (fun b : Nat × Int32 × Int32 × Zc => Zz p l e (zRm 6 137 0 0) s m args below meth cd Q D cid B 5 0 0 b.2.2.2 201 [(0, .ref b.1), (1, .int b.2.1), (2, .int b.2.2.1)] []) b) : Zz p l e (zRm 6 137 0 0) s m args below meth cd Q D cid B 5 0 0 c 141 [(0, .ref x0), (1, .int x1), (2, .int x2), (3, .int x3), (4, .int x4)] [] := by
  unfold f_Mo_answered_141 at h
  obtain ⟨b, eb, h⟩ := zb h
  refine zlp_ok (P := fun a : Nat × Int32 × Int32 × Int32 × Int32 × Zc => Zz p l e (zRm 6 137 0 0) s m args below meth cd _ D cid B 5 0 0 a.2.2.2.2.2 141 [(0, .ref a.1), (1, .int a.2.1), (2, .int a.2.2.1), (3, .int a.2.2.2.1), (4, .int a.2.2.2.2.1)] []) (G := fun b : Nat × Int32 × Int32 × Int32 × Zc => Zz p l e (zRm 6 137 0 0) s m args below meth cd _ D cid B 5 0 0 b.2.2.2.2 195 [(0, .ref b.1), (1, .int b.2.1), (2, .int b.2.2.1), (3, .int b.2.2.2.1)] []) (fun a r ha k0 k1 => u_Mo_answered_141 X H ha k0 k1) nf _ b eb ?_
  refine z_iinc (v := (b.2.2.2.1 + 1)) (lv' := [(3, .int (b.2.2.2.1 + 1)), (0, .ref b.1), (1, .int b.2.1), (2, .int b.2.2.1)]) X dd_Mo_answered_195 3 rfl rfl (by decide) rfl ?_
  refine z_goto (tgt := 133) X dd_Mo_answered_198 (by decide) ?_
  refine z_sub [1, 2, 3, 0] rfl ?_
  obtain rfl := Option.some.inj h
  exact k0 _ rfl
set_option maxRecDepth 100000 in
set_option maxHeartbeats 4000000 in
theorem u_Mo_answered_133  (X : zX p s m args cd D cid B bb_Mo_answered 5 rr_Mo zT) (H : zH s meth B n0 (some (.int)) "answered") {nf : Nat} {x0 : Nat} {x1 : Int32} {x2 : Int32} {x3 : Int32} {c : Zc} {r : (Nat × Int32 × Int32 × Int32 × Zc) ⊕ (Nat × Int32 × Int32 × Zc)} (h : g_Mo_answered_133 nf x0 x1 x2 x3 c = some r) (k0 : ∀ a, r = .inl a → (fun a : Nat × Int32 × Int32 × Int32 × Zc => Zz p l e (zRm 6 137 0 0) s m args below meth cd Q D cid B 5 0 0 a.2.2.2.2 133 [(0, .ref a.1), (1, .int a.2.1), (2, .int a.2.2.1), (3, .int a.2.2.2.1)] []) a) (k1 : ∀ b, r = .inr b → (fun b : Nat × Int32 × Int32 × Zc => Zz p l e (zRm 6 137 0 0) s m args below meth cd Q D cid B 5 0 0 b.2.2.2 201 [(0, .ref b.1), (1, .int b.2.1), (2, .int b.2.2.1)] []) b) : Zz p l e (zRm 6 137 0 0) s m args below meth cd Q D cid B 5 0 0 c 133 [(0, .ref x0), (1, .int x1), (2, .int x2), (3, .int x3)] [] := by
  unfold g_Mo_answered_133 at h
  refine z_iload_n X dd_Mo_answered_133 rfl 3 rfl ?_
  refine z_iload_n X dd_Mo_answered_134 rfl 2 rfl ?_
  refine z_icmp_ge (tgt := 201) X dd_Mo_answered_135 (by decide) (fun q30 => ?_) (fun q30 => ?_)
  · rw [if_pos q30] at h
    refine z_sub [0, 1, 2] rfl ?_
    obtain rfl := Option.some.inj h
    exact k1 _ rfl
  · rw [if_neg q30] at h
    refine z_iconst (v := 0) X dd_Mo_answered_138 (by decide) ?_
    refine z_istore (lv' := [(4, .int 0), (0, .ref x0), (1, .int x1), (2, .int x2), (3, .int x3)]) X dd_Mo_answered_139 (by decide) rfl ?_
    refine z_sub [1, 2, 3, 4, 0] rfl ?_
    exact t_Mo_answered_141 X H h k0 k1
set_option maxRecDepth 100000 in
set_option maxHeartbeats 4000000 in
theorem t_Mo_answered_133  (X : zX p s m args cd D cid B bb_Mo_answered 5 rr_Mo zT) (H : zH s meth B n0 (some (.int)) "answered") {nf : Nat} {x0 : Nat} {x1 : Int32} {x2 : Int32} {x3 : Int32} {c : Zc} {res : Int32 × Zc} (h : f_Mo_answered_133 nf x0 x1 x2 x3 c = some res) : Zz p l e (zRm 6 137 0 0) s m args below meth cd (MQ below (zQi D cid B res.1 res.2 n0 0) args s 0 0 (fun q => B ≤ q)) D cid B 5 0 0 c 133 [(0, .ref x0), (1, .int x1), (2, .int x2), (3, .int x3)] [] := by
  unfold f_Mo_answered_133 at h
  obtain ⟨b, eb, h⟩ := zb h
  refine zlp_ok (P := fun a : Nat × Int32 × Int32 × Int32 × Zc => Zz p l e (zRm 6 137 0 0) s m args below meth cd _ D cid B 5 0 0 a.2.2.2.2 133 [(0, .ref a.1), (1, .int a.2.1), (2, .int a.2.2.1), (3, .int a.2.2.2.1)] []) (G := fun b : Nat × Int32 × Int32 × Zc => Zz p l e (zRm 6 137 0 0) s m args below meth cd _ D cid B 5 0 0 b.2.2.2 201 [(0, .ref b.1), (1, .int b.2.1), (2, .int b.2.2.1)] []) (fun a r ha k0 k1 => u_Mo_answered_133 X H ha k0 k1) nf _ b eb ?_
  refine z_aload_n X dd_Mo_answered_201 rfl 0 rfl ?_
  obtain ⟨v41, ev41, h⟩ := zb h
  refine z_get (j := 83) X dd_Mo_answered_202 kc_12 ki_12 (by decide) km_1604 (zgr_v ev41) ?_
  refine z_iload_n X dd_Mo_answered_205 rfl 1 rfl ?_
  refine z_iload_n X dd_Mo_answered_206 rfl 2 rfl ?_
  obtain ⟨c42, ec42, h⟩ := zb h
  refine z_iastore X dd_Mo_answered_207 rfl ec42 ?_
  refine z_aload_n X dd_Mo_answered_208 rfl 0 rfl ?_
  obtain ⟨v43, ev43, h⟩ := zb h
  refine z_get (j := 84) X dd_Mo_answered_209 kc_12 ki_12 (by decide) km_1605 (zgr_v ev43) ?_
  refine z_iload_n X dd_Mo_answered_212 rfl 1 rfl ?_
  refine z_aload_n X dd_Mo_answered_213 rfl 0 rfl ?_
  obtain ⟨v44, ev44, h⟩ := zb h
  refine z_get (j := 43) X dd_Mo_answered_214 kc_12 ki_12 (by decide) km_1564 (zgr_v ev44) ?_
  refine z_aload_n X dd_Mo_answered_217 rfl 0 rfl ?_
  obtain ⟨v45, ev45, h⟩ := zb h
  refine z_get (j := 25) X dd_Mo_answered_218 kc_12 ki_12 (by decide) km_1546 (zgi_v ev45) ?_
  obtain ⟨v46, ev46, h⟩ := zb h
  refine z_iaload X dd_Mo_answered_221 rfl ev46 ?_
  obtain ⟨c47, ec47, h⟩ := zb h
  refine z_iastore X dd_Mo_answered_222 rfl ec47 ?_
  refine z_aload_n X dd_Mo_answered_223 rfl 0 rfl ?_
  obtain ⟨v48, ev48, h⟩ := zb h
  refine z_get (j := 85) X dd_Mo_answered_224 kc_12 ki_12 (by decide) km_1606 (zgr_v ev48) ?_
  refine z_iload_n X dd_Mo_answered_227 rfl 1 rfl ?_
  refine z_iconst (v := 1) X dd_Mo_answered_228 (by decide) ?_
  obtain ⟨c49, ec49, h⟩ := zb h
  refine z_zastore X dd_Mo_answered_229 rfl ec49 ?_
  refine z_iload_n X dd_Mo_answered_230 rfl 2 rfl ?_
  obtain rfl := Option.some.inj h
  exact z_iret X H.1 H.2.1 H.2.2.1 dd_Mo_answered_231
set_option maxRecDepth 100000 in
set_option maxHeartbeats 4000000 in
theorem t_Mo_answered_131  (X : zX p s m args cd D cid B bb_Mo_answered 5 rr_Mo zT) (H : zH s meth B n0 (some (.int)) "answered") {nf : Nat} {x0 : Nat} {x1 : Int32} {x2 : Int32} {c : Zc} {res : Int32 × Zc} (h : f_Mo_answered_131 nf x0 x1 x2 c = some res) : Zz p l e (zRm 6 137 0 0) s m args below meth cd (MQ below (zQi D cid B res.1 res.2 n0 0) args s 0 0 (fun q => B ≤ q)) D cid B 5 0 0 c 131 [(0, .ref x0), (1, .int x1), (2, .int x2)] [] := by
  unfold f_Mo_answered_131 at h
  refine z_iconst (v := 0) X dd_Mo_answered_131 (by decide) ?_
  refine z_istore_n (lv' := [(3, .int 0), (0, .ref x0), (1, .int x1), (2, .int x2)]) X dd_Mo_answered_132 rfl (by decide) rfl ?_
  refine z_sub [1, 2, 3, 0] rfl ?_
  exact t_Mo_answered_133 X H h
set_option maxRecDepth 100000 in
set_option maxHeartbeats 4000000 in
theorem t_Mo_answered_71  (X : zX p s m args cd D cid B bb_Mo_answered 5 rr_Mo zT) (H : zH s meth B n0 (some (.int)) "answered") {nf : Nat} {x0 : Nat} {x1 : Int32} {x2 : Int32} {x3 : Int32} {c : Zc} {res : Int32 × Zc} (h : f_Mo_answered_71 nf x0 x1 x2 x3 c = some res) : Zz p l e (zRm 6 137 0 0) s m args below meth cd (MQ below (zQi D cid B res.1 res.2 n0 0) args s 0 0 (fun q => B ≤ q)) D cid B 5 0 0 c 71 [(0, .ref x0), (1, .int x1), (2, .int x2), (3, .int x3)] [] := by
  unfold f_Mo_answered_71 at h
  obtain ⟨b, eb, h⟩ := zb h
  refine zlp_ok (P := fun a : Nat × Int32 × Int32 × Int32 × Zc => Zz p l e (zRm 6 137 0 0) s m args below meth cd _ D cid B 5 0 0 a.2.2.2.2 71 [(0, .ref a.1), (1, .int a.2.1), (2, .int a.2.2.1), (3, .int a.2.2.2.1)] []) (G := fun b : Nat × Int32 × Int32 × Zc => Zz p l e (zRm 6 137 0 0) s m args below meth cd _ D cid B 5 0 0 b.2.2.2 92 [(0, .ref b.1), (1, .int b.2.1), (2, .int b.2.2.1)] []) (fun a r ha k0 k1 => u_Mo_answered_71 X H ha k0 k1) nf _ b eb ?_
  refine z_aload_n X dd_Mo_answered_92 rfl 0 rfl ?_
  obtain ⟨w25, ew25, h⟩ := zb h
  obtain ⟨q24, eq24, h⟩ := zb h
  refine z_callVv X [] rfl dd_Mo_answered_93 (c_Mo_sortRows l eq24) (cwV 0 X.1.2.2.2.2 (zg_V km_2147 km_2149 km_121 km_138 km_2150) rfl rfl rfl (by decide +kernel) ⟨Nat.le_of_ble_eq_true rfl, Nat.le_of_ble_eq_true rfl⟩) (zob_s ew25) kc_12 rfl (Nat.le_of_ble_eq_true rfl) ⟨Nat.le_of_ble_eq_true rfl, Nat.le_of_ble_eq_true rfl⟩ ?_
  refine z_aload_n X dd_Mo_answered_96 rfl 0 rfl ?_
  obtain ⟨v26, ev26, h⟩ := zb h
  refine z_get (j := 47) X dd_Mo_answered_97 kc_12 ki_12 (by decide) km_1568 (zgr_v ev26) ?_
  refine z_aload_n X dd_Mo_answered_100 rfl 0 rfl ?_
  obtain ⟨v27, ev27, h⟩ := zb h
  refine z_get (j := 25) X dd_Mo_answered_101 kc_12 ki_12 (by decide) km_1546 (zgi_v ev27) ?_
  obtain ⟨v28, ev28, h⟩ := zb h
  refine z_iaload X dd_Mo_answered_104 rfl ev28 ?_
  refine z_if_le (tgt := 131) X dd_Mo_answered_105 (by decide) (fun q29 => ?_) (fun q29 => ?_)
  · rw [if_pos q29] at h
    exact t_Mo_answered_131 X H h
  · rw [if_neg q29] at h
    refine z_iload_n X dd_Mo_answered_108 rfl 2 rfl ?_
    refine z_aload_n X dd_Mo_answered_109 rfl 0 rfl ?_
    obtain ⟨v50, ev50, h⟩ := zb h
    refine z_get (j := 47) X dd_Mo_answered_110 kc_12 ki_12 (by decide) km_1568 (zgr_v ev50) ?_
    refine z_aload_n X dd_Mo_answered_113 rfl 0 rfl ?_
    obtain ⟨v51, ev51, h⟩ := zb h
    refine z_get (j := 25) X dd_Mo_answered_114 kc_12 ki_12 (by decide) km_1546 (zgi_v ev51) ?_
    obtain ⟨v52, ev52, h⟩ := zb h
    refine z_iaload X dd_Mo_answered_117 rfl ev52 ?_
    refine z_icmp_le (tgt := 131) X dd_Mo_answered_118 (by decide) (fun q53 => ?_) (fun q53 => ?_)
    · rw [if_pos q53] at h
      exact t_Mo_answered_131 X H h
    · rw [if_neg q53] at h
      refine z_aload_n X dd_Mo_answered_121 rfl 0 rfl ?_
      obtain ⟨v54, ev54, h⟩ := zb h
      refine z_get (j := 47) X dd_Mo_answered_122 kc_12 ki_12 (by decide) km_1568 (zgr_v ev54) ?_
      refine z_aload_n X dd_Mo_answered_125 rfl 0 rfl ?_
      obtain ⟨v55, ev55, h⟩ := zb h
      refine z_get (j := 25) X dd_Mo_answered_126 kc_12 ki_12 (by decide) km_1546 (zgi_v ev55) ?_
      obtain ⟨v56, ev56, h⟩ := zb h
      refine z_iaload X dd_Mo_answered_129 rfl ev56 ?_
      refine z_istore_n (lv' := [(2, .int v56), (0, .ref b.1), (1, .int b.2.1)]) X dd_Mo_answered_130 rfl (by decide) rfl ?_
      refine z_sub [1, 2, 0] rfl ?_
      exact t_Mo_answered_131 X H h
set_option maxRecDepth 100000 in
set_option maxHeartbeats 4000000 in
theorem t_Mo_answered_25  (X : zX p s m args cd D cid B bb_Mo_answered 5 rr_Mo zT) (H : zH s meth B n0 (some (.int)) "answered") {nf : Nat} {x0 : Nat} {x1 : Int32} {x2 : Int32} {x3 : Int32} {c : Zc} {res : Int32 × Zc} (h : f_Mo_answered_25 nf x0 x1 x2 x3 c = some res) : Zz p l e (zRm 6 137 0 0) s m args below meth cd (MQ below (zQi D cid B res.1 res.2 n0 0) args s 0 0 (fun q => B ≤ q)) D cid B 5 0 0 c 25 [(0, .ref x0), (1, .int x1), (2, .int x2), (3, .int x3)] [] := by
  unfold f_Mo_answered_25 at h
  obtain ⟨b, eb, h⟩ := zb h
  refine zlp_ok (P := fun a : Nat × Int32 × Int32 × Int32 × Zc => Zz p l e (zRm 6 137 0 0) s m args below meth cd _ D cid B 5 0 0 a.2.2.2.2 25 [(0, .ref a.1), (1, .int a.2.1), (2, .int a.2.2.1), (3, .int a.2.2.2.1)] []) (G := fun b : Nat × Int32 × Int32 × Zc => Zz p l e (zRm 6 137 0 0) s m args below meth cd _ D cid B 5 0 0 b.2.2.2 51 [(0, .ref b.1), (1, .int b.2.1), (2, .int b.2.2.1)] []) (fun a r ha k0 k1 => u_Mo_answered_25 X H ha k0 k1) nf _ b eb ?_
  refine z_aload_n X dd_Mo_answered_51 rfl 0 rfl ?_
  refine z_iload_n X dd_Mo_answered_52 rfl 2 rfl ?_
  obtain ⟨c15, ec15, h⟩ := zb h
  refine z_put (j := 81) X dd_Mo_answered_53 kc_12 ki_12 tt_Mo tk_Mo nn_Mo (by decide) km_1602 rfl (tk_Mo 81 (by decide)) rfl rfl ec15 ?_
  refine z_aload_n X dd_Mo_answered_56 rfl 0 rfl ?_
  refine z_aload_n X dd_Mo_answered_57 rfl 0 rfl ?_
  obtain ⟨v16, ev16, h⟩ := zb h
  refine z_get (j := 43) X dd_Mo_answered_58 kc_12 ki_12 (by decide) km_1564 (zgr_v ev16) ?_
  refine z_aload_n X dd_Mo_answered_61 rfl 0 rfl ?_
  obtain ⟨v17, ev17, h⟩ := zb h
  refine z_get (j := 25) X dd_Mo_answered_62 kc_12 ki_12 (by decide) km_1546 (zgi_v ev17) ?_
  obtain ⟨v18, ev18, h⟩ := zb h
  refine z_iaload X dd_Mo_answered_65 rfl ev18 ?_
  obtain ⟨c19, ec19, h⟩ := zb h
  refine z_put (j := 87) X dd_Mo_answered_66 kc_12 ki_12 tt_Mo tk_Mo nn_Mo (by decide) km_1608 rfl (tk_Mo 87 (by decide)) rfl rfl ec19 ?_
  refine z_iconst (v := 0) X dd_Mo_answered_69 (by decide) ?_
  refine z_istore_n (lv' := [(3, .int 0), (0, .ref b.1), (1, .int b.2.1), (2, .int b.2.2.1)]) X dd_Mo_answered_70 rfl (by decide) rfl ?_
  refine z_sub [1, 2, 3, 0] rfl ?_
  exact t_Mo_answered_71 X H h
set_option maxRecDepth 100000 in
set_option maxHeartbeats 4000000 in
theorem c_Mo_answered (l : Launch) {nf : Nat} {a0 : Nat} {a1 : Int32} {c : Zc} {res : Int32 × Zc} (h : f_Mo_answered nf a0 a1 c = some res) : zM l yy_Mo_answered ww_Mo_answered 6 137 0 0 [.ref a0, .int a1] c (fun D cid B => zQi D cid B res.1 res.2 c.length 0) := by
  refine z_met (cc := bb_Mo_answered) (maxL := 5) (ret := (some (.int))) (by decide +kernel) rfl (Nat.le_of_ble_eq_true rfl) ?_
  intro p e s m args below meth cd D cid B X h1 h2 h3 h4
  have X : zX p s m args cd D cid B bb_Mo_answered 5 rr_Mo zT := X
  have H : zH s meth B c.length (some (.int)) "answered" := ⟨h1, h2, h4, h3⟩
  unfold f_Mo_answered at h
  show Zz p l e (zRm 6 137 0 0) s m args below meth cd _ D cid B 5 0 0 c 0 [(0, .ref a0), (1, .int a1)] []
  refine z_aload_n X dd_Mo_answered_0 rfl 0 rfl ?_
  refine z_aload_n X dd_Mo_answered_1 rfl 0 rfl ?_
  obtain ⟨v1, ev1, h⟩ := zb h
  refine z_get (j := 22) X dd_Mo_answered_2 kc_12 ki_12 (by decide) km_1543 (zgr_v ev1) ?_
  refine z_iload_n X dd_Mo_answered_5 rfl 1 rfl ?_
  obtain ⟨v2, ev2, h⟩ := zb h
  refine z_iaload X dd_Mo_answered_6 rfl ev2 ?_
  obtain ⟨c3, ec3, h⟩ := zb h
  refine z_put (j := 25) X dd_Mo_answered_7 kc_12 ki_12 tt_Mo tk_Mo nn_Mo (by decide) km_1546 rfl (tk_Mo 25 (by decide)) rfl rfl ec3 ?_
  refine z_aload_n X dd_Mo_answered_10 rfl 0 rfl ?_
  obtain ⟨w5, ew5, h⟩ := zb h
  obtain ⟨q4, eq4, h⟩ := zb h
  refine z_callVv X [] rfl dd_Mo_answered_11 (c_Mo_measureAll l eq4) (cwV 0 X.1.2.2.2.2 (zg_V km_2085 km_2087 km_108 km_138 km_2088) rfl rfl rfl (by decide +kernel) ⟨Nat.le_of_ble_eq_true rfl, Nat.le_of_ble_eq_true rfl⟩) (zob_s ew5) kc_12 rfl (Nat.le_of_ble_eq_true rfl) ⟨Nat.le_of_ble_eq_true rfl, Nat.le_of_ble_eq_true rfl⟩ ?_
  refine z_aload_n X dd_Mo_answered_14 rfl 0 rfl ?_
  obtain ⟨w7, ew7, h⟩ := zb h
  obtain ⟨q6, eq6, h⟩ := zb h
  refine z_callVv X [] rfl dd_Mo_answered_15 (c_Mo_collect l eq6) (cwV 0 X.1.2.2.2.2 (zg_V km_2139 km_2141 km_119 km_138 km_2142) rfl rfl rfl (by decide +kernel) ⟨Nat.le_of_ble_eq_true rfl, Nat.le_of_ble_eq_true rfl⟩) (zob_s ew7) kc_12 rfl (Nat.le_of_ble_eq_true rfl) ⟨Nat.le_of_ble_eq_true rfl, Nat.le_of_ble_eq_true rfl⟩ ?_
  refine z_aload_n X dd_Mo_answered_18 rfl 0 rfl ?_
  obtain ⟨w9, ew9, h⟩ := zb h
  obtain ⟨q8, eq8, h⟩ := zb h
  refine z_callVi X [] rfl dd_Mo_answered_19 (c_Mo_groupRows l eq8) (cwV 0 X.1.2.2.2.2 (zg_V km_2143 km_2145 km_120 km_138 km_2146) rfl rfl rfl (by decide +kernel) ⟨Nat.le_of_ble_eq_true rfl, Nat.le_of_ble_eq_true rfl⟩) (zob_s ew9) kc_12 rfl (Nat.le_of_ble_eq_true rfl) ⟨Nat.le_of_ble_eq_true rfl, Nat.le_of_ble_eq_true rfl⟩ ?_
  refine z_istore_n (lv' := [(2, .int q8.1), (0, .ref a0), (1, .int a1)]) X dd_Mo_answered_22 rfl (by decide) rfl ?_
  refine z_iconst (v := 0) X dd_Mo_answered_23 (by decide) ?_
  refine z_istore_n (lv' := [(3, .int 0), (2, .int q8.1), (0, .ref a0), (1, .int a1)]) X dd_Mo_answered_24 rfl (by decide) rfl ?_
  refine z_sub [2, 3, 1, 0] rfl ?_
  exact t_Mo_answered_25 X H h
end ZzM
