section ZzM
variable {p : Program} {l : Launch} {e : Env} {s : State} {m : MethodId} {args : Array Value} {below : List Frame} {meth : Method} {cd : Code} {Q : State → Prop} {D : va_G} {cid : Nat → ClassId} {B n0 : Nat}
theorem dd_Rows_merge_0 : decode bb_Rows_merge 0 = .ok (.iload_n 1, 1) := by decide +kernel
theorem dd_Rows_merge_1 : decode bb_Rows_merge 1 = .ok (.istore 5, 2) := by decide +kernel
theorem dd_Rows_merge_3 : decode bb_Rows_merge 3 = .ok (.iload_n 2, 1) := by decide +kernel
theorem dd_Rows_merge_4 : decode bb_Rows_merge 4 = .ok (.istore 6, 2) := by decide +kernel
theorem dd_Rows_merge_6 : decode bb_Rows_merge 6 = .ok (.iload_n 1, 1) := by decide +kernel
theorem dd_Rows_merge_7 : decode bb_Rows_merge 7 = .ok (.istore 7, 2) := by decide +kernel
theorem dd_Rows_merge_9 : decode bb_Rows_merge 9 = .ok (.iload 7, 2) := by decide +kernel
theorem dd_Rows_merge_11 : decode bb_Rows_merge 11 = .ok (.iload_n 3, 1) := by decide +kernel
theorem dd_Rows_merge_12 : decode bb_Rows_merge 12 = .ok (.if_icmp .ge 81, 3) := by decide +kernel
theorem dd_Rows_merge_15 : decode bb_Rows_merge 15 = .ok (.iload 6, 2) := by decide +kernel
theorem dd_Rows_merge_17 : decode bb_Rows_merge 17 = .ok (.iload_n 3, 1) := by decide +kernel
theorem dd_Rows_merge_18 : decode bb_Rows_merge 18 = .ok (.if_icmp .ge 32, 3) := by decide +kernel
theorem dd_Rows_merge_21 : decode bb_Rows_merge 21 = .ok (.iload 5, 2) := by decide +kernel
theorem dd_Rows_merge_23 : decode bb_Rows_merge 23 = .ok (.iload_n 2, 1) := by decide +kernel
theorem dd_Rows_merge_24 : decode bb_Rows_merge 24 = .ok (.if_icmp .ge 46, 3) := by decide +kernel
theorem dd_Rows_merge_27 : decode bb_Rows_merge 27 = .ok (.aload_n 0, 1) := by decide +kernel
theorem dd_Rows_merge_28 : decode bb_Rows_merge 28 = .ok (.aload_n 0, 1) := by decide +kernel
theorem dd_Rows_merge_29 : decode bb_Rows_merge 29 = .ok (.getfield 20, 3) := by decide +kernel
theorem dd_Rows_merge_32 : decode bb_Rows_merge 32 = .ok (.iload 5, 2) := by decide +kernel
theorem dd_Rows_merge_34 : decode bb_Rows_merge 34 = .ok (.iaload, 1) := by decide +kernel
theorem dd_Rows_merge_35 : decode bb_Rows_merge 35 = .ok (.aload_n 0, 1) := by decide +kernel
theorem dd_Rows_merge_36 : decode bb_Rows_merge 36 = .ok (.getfield 20, 3) := by decide +kernel
theorem dd_Rows_merge_39 : decode bb_Rows_merge 39 = .ok (.iload 6, 2) := by decide +kernel
theorem dd_Rows_merge_41 : decode bb_Rows_merge 41 = .ok (.iaload, 1) := by decide +kernel
theorem dd_Rows_merge_42 : decode bb_Rows_merge 42 = .ok (.iload 4, 2) := by decide +kernel
theorem dd_Rows_merge_44 : decode bb_Rows_merge 44 = .ok (.invokevirtual 49, 3) := by decide +kernel
theorem dd_Rows_merge_47 : decode bb_Rows_merge 47 = .ok (.ifCond .gt 23, 3) := by decide +kernel
theorem dd_Rows_merge_50 : decode bb_Rows_merge 50 = .ok (.aload_n 0, 1) := by decide +kernel
theorem dd_Rows_merge_51 : decode bb_Rows_merge 51 = .ok (.getfield 23, 3) := by decide +kernel
theorem dd_Rows_merge_54 : decode bb_Rows_merge 54 = .ok (.iload 7, 2) := by decide +kernel
theorem dd_Rows_merge_56 : decode bb_Rows_merge 56 = .ok (.aload_n 0, 1) := by decide +kernel
theorem dd_Rows_merge_57 : decode bb_Rows_merge 57 = .ok (.getfield 20, 3) := by decide +kernel
theorem dd_Rows_merge_60 : decode bb_Rows_merge 60 = .ok (.iload 5, 2) := by decide +kernel
theorem dd_Rows_merge_62 : decode bb_Rows_merge 62 = .ok (.iaload, 1) := by decide +kernel
theorem dd_Rows_merge_63 : decode bb_Rows_merge 63 = .ok (.iastore, 1) := by decide +kernel
theorem dd_Rows_merge_64 : decode bb_Rows_merge 64 = .ok (.iinc 5 1, 3) := by decide +kernel
theorem dd_Rows_merge_67 : decode bb_Rows_merge 67 = .ok (.goto 20, 3) := by decide +kernel
theorem dd_Rows_merge_70 : decode bb_Rows_merge 70 = .ok (.aload_n 0, 1) := by decide +kernel
theorem dd_Rows_merge_71 : decode bb_Rows_merge 71 = .ok (.getfield 23, 3) := by decide +kernel
theorem dd_Rows_merge_74 : decode bb_Rows_merge 74 = .ok (.iload 7, 2) := by decide +kernel
theorem dd_Rows_merge_76 : decode bb_Rows_merge 76 = .ok (.aload_n 0, 1) := by decide +kernel
theorem dd_Rows_merge_77 : decode bb_Rows_merge 77 = .ok (.getfield 20, 3) := by decide +kernel
theorem dd_Rows_merge_80 : decode bb_Rows_merge 80 = .ok (.iload 6, 2) := by decide +kernel
theorem dd_Rows_merge_82 : decode bb_Rows_merge 82 = .ok (.iaload, 1) := by decide +kernel
theorem dd_Rows_merge_83 : decode bb_Rows_merge 83 = .ok (.iastore, 1) := by decide +kernel
theorem dd_Rows_merge_84 : decode bb_Rows_merge 84 = .ok (.iinc 6 1, 3) := by decide +kernel
theorem dd_Rows_merge_87 : decode bb_Rows_merge 87 = .ok (.iinc 7 1, 3) := by decide +kernel
theorem dd_Rows_merge_90 : decode bb_Rows_merge 90 = .ok (.goto (-81), 3) := by decide +kernel
theorem dd_Rows_merge_93 : decode bb_Rows_merge 93 = .ok (.return_, 1) := by decide +kernel
def f_Rows_merge_87 (nf : Nat) (x0 : Nat) (x2 : Int32) (x3 : Int32) (x4 : Int32) (x5 : Int32) (x6 : Int32) (x7 : Int32) (c : Zc) : Option ((Nat × Int32 × Int32 × Int32 × Int32 × Int32 × Int32 × Zc) ⊕ (Zc)) :=
  some (.inl (x0, x2, x3, x4, x5, x6, (x7 + 1), c))
def f_Rows_merge_50 (nf : Nat) (x0 : Nat) (x2 : Int32) (x3 : Int32) (x4 : Int32) (x5 : Int32) (x6 : Int32) (x7 : Int32) (c : Zc) : Option ((Nat × Int32 × Int32 × Int32 × Int32 × Int32 × Int32 × Zc) ⊕ (Zc)) :=
  (zgr c x0 9 4).bind fun v3 => (zgr c x0 9 3).bind fun v4 => (zai c v4 0 x5).bind fun v5 => (zsi c v3 0 x7 v5).bind fun c6 => f_Rows_merge_87 nf x0 x2 x3 x4 (x5 + 1) x6 x7 c6
def f_Rows_merge_70 (nf : Nat) (x0 : Nat) (x2 : Int32) (x3 : Int32) (x4 : Int32) (x5 : Int32) (x6 : Int32) (x7 : Int32) (c : Zc) : Option ((Nat × Int32 × Int32 × Int32 × Int32 × Int32 × Int32 × Zc) ⊕ (Zc)) :=
  (zgr c x0 9 4).bind fun v8 => (zgr c x0 9 3).bind fun v9 => (zai c v9 0 x6).bind fun v10 => (zsi c v8 0 x7 v10).bind fun c11 => f_Rows_merge_87 nf x0 x2 x3 x4 x5 (x6 + 1) x7 c11
def g_Rows_merge_9 (nf : Nat) (x0 : Nat) (x2 : Int32) (x3 : Int32) (x4 : Int32) (x5 : Int32) (x6 : Int32) (x7 : Int32) (c : Zc) : Option ((Nat × Int32 × Int32 × Int32 × Int32 × Int32 × Int32 × Zc) ⊕ (Zc)) :=
  if x3 ≤ x7 then (some (.inr c)) else (if x3 ≤ x6 then (f_Rows_merge_50 nf x0 x2 x3 x4 x5 x6 x7 c) else (if x2 ≤ x5 then (f_Rows_merge_70 nf x0 x2 x3 x4 x5 x6 x7 c) else ((zgr c x0 9 3).bind fun v12 => (zai c v12 0 x5).bind fun v13 => (zgr c x0 9 3).bind fun v14 => (zai c v14 0 x6).bind fun v15 => (zob c x0 9).bind fun w17 => (f_Rows_compare nf x0 v13 v15 x4 c).bind fun q16 => if 0 < q16.1 then (f_Rows_merge_70 nf x0 x2 x3 x4 x5 x6 x7 q16.2) else (f_Rows_merge_50 nf x0 x2 x3 x4 x5 x6 x7 q16.2))))
def f_Rows_merge_9 (nf : Nat) (x0 : Nat) (x2 : Int32) (x3 : Int32) (x4 : Int32) (x5 : Int32) (x6 : Int32) (x7 : Int32) (c : Zc) : Option (Zc) :=
  (zlp (fun a => g_Rows_merge_9 nf a.1 a.2.1 a.2.2.1 a.2.2.2.1 a.2.2.2.2.1 a.2.2.2.2.2.1 a.2.2.2.2.2.2.1 a.2.2.2.2.2.2.2) nf (x0, x2, x3, x4, x5, x6, x7, c)).bind fun b => some b
def f_Rows_merge (nf : Nat) (a0 : Nat) (a1 : Int32) (a2 : Int32) (a3 : Int32) (a4 : Int32) (c : Zc) : Option (Zc) :=
  f_Rows_merge_9 nf a0 a2 a3 a4 a1 a2 a1 c
set_option maxRecDepth 100000 in
set_option maxHeartbeats 4000000 in
theorem t_Rows_merge_87  (X : zX p s m args cd D cid B bb_Rows_merge 8 rr_Rows zT) (H : zH s meth B n0 none "merge") {nf : Nat} {x0 : Nat} {x2 : Int32} {x3 : Int32} {x4 : Int32} {x5 : Int32} {x6 : Int32} {x7 : Int32} {c : Zc} {r : (Nat × Int32 × Int32 × Int32 × Int32 × Int32 × Int32 × Zc) ⊕ (Zc)} (h : f_Rows_merge_87 nf x0 x2 x3 x4 x5 x6 x7 c = some r) (k0 : ∀ a, r = .inl a → (fun a : Nat × Int32 × Int32 × Int32 × Int32 × Int32 × Int32 × Zc => Zz p l e (zRm 1 26 0 0) s m args below meth cd Q D cid B 8 0 0 a.2.2.2.2.2.2.2 9 [(0, .ref a.1), (2, .int a.2.1), (3, .int a.2.2.1), (4, .int a.2.2.2.1), (5, .int a.2.2.2.2.1), (6, .int a.2.2.2.2.2.1), (7, .int a.2.2.2.2.2.2.1)] []) a) (k1 : ∀ b, r = .inr b → (fun b : Zc => Zz p l e (zRm 1 26 0 0) s m args below meth cd Q D cid B 8 0 0 b 93 [] []) b) : Zz p l e (zRm 1 26 0 0) s m args below meth cd Q D cid B 8 0 0 c 87 [(0, .ref x0), (2, .int x2), (3, .int x3), (4, .int x4), (5, .int x5), (6, .int x6), (7, .int x7)] [] := by
  unfold f_Rows_merge_87 at h
  refine z_iinc (v := (x7 + 1)) (lv' := [(7, .int (x7 + 1)), (0, .ref x0), (2, .int x2), (3, .int x3), (4, .int x4), (5, .int x5), (6, .int x6)]) X dd_Rows_merge_87 6 rfl rfl (by decide) rfl ?_
  refine z_goto (tgt := 9) X dd_Rows_merge_90 (by decide) ?_
  refine z_sub [1, 2, 3, 4, 5, 6, 0] rfl ?_
  obtain rfl := Option.some.inj h
  exact k0 _ rfl
set_option maxRecDepth 100000 in
set_option maxHeartbeats 4000000 in
theorem t_Rows_merge_50  (X : zX p s m args cd D cid B bb_Rows_merge 8 rr_Rows zT) (H : zH s meth B n0 none "merge") {nf : Nat} {x0 : Nat} {x2 : Int32} {x3 : Int32} {x4 : Int32} {x5 : Int32} {x6 : Int32} {x7 : Int32} {c : Zc} {r : (Nat × Int32 × Int32 × Int32 × Int32 × Int32 × Int32 × Zc) ⊕ (Zc)} (h : f_Rows_merge_50 nf x0 x2 x3 x4 x5 x6 x7 c = some r) (k0 : ∀ a, r = .inl a → (fun a : Nat × Int32 × Int32 × Int32 × Int32 × Int32 × Int32 × Zc => Zz p l e (zRm 1 26 0 0) s m args below meth cd Q D cid B 8 0 0 a.2.2.2.2.2.2.2 9 [(0, .ref a.1), (2, .int a.2.1), (3, .int a.2.2.1), (4, .int a.2.2.2.1), (5, .int a.2.2.2.2.1), (6, .int a.2.2.2.2.2.1), (7, .int a.2.2.2.2.2.2.1)] []) a) (k1 : ∀ b, r = .inr b → (fun b : Zc => Zz p l e (zRm 1 26 0 0) s m args below meth cd Q D cid B 8 0 0 b 93 [] []) b) : Zz p l e (zRm 1 26 0 0) s m args below meth cd Q D cid B 8 0 0 c 50 [(0, .ref x0), (2, .int x2), (3, .int x3), (4, .int x4), (5, .int x5), (6, .int x6), (7, .int x7)] [] := by
  unfold f_Rows_merge_50 at h
  refine z_aload_n X dd_Rows_merge_50 rfl 0 rfl ?_
  obtain ⟨v3, ev3, h⟩ := zb h
  refine z_get (j := 4) X dd_Rows_merge_51 kc_9 ki_9 (by decide) km_661 (zgr_v ev3) ?_
  refine z_iload X dd_Rows_merge_54 6 rfl ?_
  refine z_aload_n X dd_Rows_merge_56 rfl 0 rfl ?_
  obtain ⟨v4, ev4, h⟩ := zb h
  refine z_get (j := 3) X dd_Rows_merge_57 kc_9 ki_9 (by decide) km_660 (zgr_v ev4) ?_
  refine z_iload X dd_Rows_merge_60 4 rfl ?_
  obtain ⟨v5, ev5, h⟩ := zb h
  refine z_iaload X dd_Rows_merge_62 rfl ev5 ?_
  obtain ⟨c6, ec6, h⟩ := zb h
  refine z_iastore X dd_Rows_merge_63 rfl ec6 ?_
  refine z_iinc (v := (x5 + 1)) (lv' := [(5, .int (x5 + 1)), (0, .ref x0), (2, .int x2), (3, .int x3), (4, .int x4), (6, .int x6), (7, .int x7)]) X dd_Rows_merge_64 4 rfl rfl (by decide) rfl ?_
  refine z_goto (tgt := 87) X dd_Rows_merge_67 (by decide) ?_
  refine z_sub [1, 2, 3, 4, 0, 5, 6] rfl ?_
  exact t_Rows_merge_87 X H h k0 k1
set_option maxRecDepth 100000 in
set_option maxHeartbeats 4000000 in
theorem t_Rows_merge_70  (X : zX p s m args cd D cid B bb_Rows_merge 8 rr_Rows zT) (H : zH s meth B n0 none "merge") {nf : Nat} {x0 : Nat} {x2 : Int32} {x3 : Int32} {x4 : Int32} {x5 : Int32} {x6 : Int32} {x7 : Int32} {c : Zc} {r : (Nat × Int32 × Int32 × Int32 × Int32 × Int32 × Int32 × Zc) ⊕ (Zc)} (h : f_Rows_merge_70 nf x0 x2 x3 x4 x5 x6 x7 c = some r) (k0 : ∀ a, r = .inl a → (fun a : Nat × Int32 × Int32 × Int32 × Int32 × Int32 × Int32 × Zc => Zz p l e (zRm 1 26 0 0) s m args below meth cd Q D cid B 8 0 0 a.2.2.2.2.2.2.2 9 [(0, .ref a.1), (2, .int a.2.1), (3, .int a.2.2.1), (4, .int a.2.2.2.1), (5, .int a.2.2.2.2.1), (6, .int a.2.2.2.2.2.1), (7, .int a.2.2.2.2.2.2.1)] []) a) (k1 : ∀ b, r = .inr b → (fun b : Zc => Zz p l e (zRm 1 26 0 0) s m args below meth cd Q D cid B 8 0 0 b 93 [] []) b) : Zz p l e (zRm 1 26 0 0) s m args below meth cd Q D cid B 8 0 0 c 70 [(0, .ref x0), (2, .int x2), (3, .int x3), (4, .int x4), (5, .int x5), (6, .int x6), (7, .int x7)] [] := by
  unfold f_Rows_merge_70 at h
  refine z_aload_n X dd_Rows_merge_70 rfl 0 rfl ?_
  obtain ⟨v8, ev8, h⟩ := zb h
  refine z_get (j := 4) X dd_Rows_merge_71 kc_9 ki_9 (by decide) km_661 (zgr_v ev8) ?_
  refine z_iload X dd_Rows_merge_74 6 rfl ?_
  refine z_aload_n X dd_Rows_merge_76 rfl 0 rfl ?_
  obtain ⟨v9, ev9, h⟩ := zb h
  refine z_get (j := 3) X dd_Rows_merge_77 kc_9 ki_9 (by decide) km_660 (zgr_v ev9) ?_
  refine z_iload X dd_Rows_merge_80 5 rfl ?_
  obtain ⟨v10, ev10, h⟩ := zb h
  refine z_iaload X dd_Rows_merge_82 rfl ev10 ?_
  obtain ⟨c11, ec11, h⟩ := zb h
  refine z_iastore X dd_Rows_merge_83 rfl ec11 ?_
  refine z_iinc (v := (x6 + 1)) (lv' := [(6, .int (x6 + 1)), (0, .ref x0), (2, .int x2), (3, .int x3), (4, .int x4), (5, .int x5), (7, .int x7)]) X dd_Rows_merge_84 5 rfl rfl (by decide) rfl ?_
  refine z_sub [1, 2, 3, 4, 5, 0, 6] rfl ?_
  exact t_Rows_merge_87 X H h k0 k1
set_option maxRecDepth 100000 in
set_option maxHeartbeats 4000000 in
theorem u_Rows_merge_9  (X : zX p s m args cd D cid B bb_Rows_merge 8 rr_Rows zT) (H : zH s meth B n0 none "merge") {nf : Nat} {x0 : Nat} {x2 : Int32} {x3 : Int32} {x4 : Int32} {x5 : Int32} {x6 : Int32} {x7 : Int32} {c : Zc} {r : (Nat × Int32 × Int32 × Int32 × Int32 × Int32 × Int32 × Zc) ⊕ (Zc)} (h : g_Rows_merge_9 nf x0 x2 x3 x4 x5 x6 x7 c = some r) (k0 : ∀ a, r = .inl a → (fun a : Nat × Int32 × Int32 × Int32 × Int32 × Int32 × Int32 × Zc => Zz p l e (zRm 1 26 0 0) s m args below meth cd Q D cid B 8 0 0 a.2.2.2.2.2.2.2 9 [(0, .ref a.1), (2, .int a.2.1), (3, .int a.2.2.1), (4, .int a.2.2.2.1), (5, .int a.2.2.2.2.1), (6, .int a.2.2.2.2.2.1), (7, .int a.2.2.2.2.2.2.1)] []) a) (k1 : ∀ b, r = .inr b → (fun b : Zc => Zz p l e (zRm 1 26 0 0) s m args below meth cd Q D cid B 8 0 0 b 93 [] []) b) : Zz p l e (zRm 1 26 0 0) s m args below meth cd Q D cid B 8 0 0 c 9 [(0, .ref x0), (2, .int x2), (3, .int x3), (4, .int x4), (5, .int x5), (6, .int x6), (7, .int x7)] [] := by
  unfold g_Rows_merge_9 at h
  refine z_iload X dd_Rows_merge_9 6 rfl ?_
  refine z_iload_n X dd_Rows_merge_11 rfl 2 rfl ?_
  refine z_icmp_ge (tgt := 93) X dd_Rows_merge_12 (by decide) (fun q1 => ?_) (fun q1 => ?_)
  · rw [if_pos q1] at h
    refine z_sub [] rfl ?_
    obtain rfl := Option.some.inj h
    exact k1 _ rfl
  · rw [if_neg q1] at h
    refine z_iload X dd_Rows_merge_15 5 rfl ?_
    refine z_iload_n X dd_Rows_merge_17 rfl 2 rfl ?_
    refine z_icmp_ge (tgt := 50) X dd_Rows_merge_18 (by decide) (fun q2 => ?_) (fun q2 => ?_)
    · rw [if_pos q2] at h
      exact t_Rows_merge_50 X H h k0 k1
    · rw [if_neg q2] at h
      refine z_iload X dd_Rows_merge_21 4 rfl ?_
      refine z_iload_n X dd_Rows_merge_23 rfl 1 rfl ?_
      refine z_icmp_ge (tgt := 70) X dd_Rows_merge_24 (by decide) (fun q7 => ?_) (fun q7 => ?_)
      · rw [if_pos q7] at h
        exact t_Rows_merge_70 X H h k0 k1
      · rw [if_neg q7] at h
        refine z_aload_n X dd_Rows_merge_27 rfl 0 rfl ?_
        refine z_aload_n X dd_Rows_merge_28 rfl 0 rfl ?_
        obtain ⟨v12, ev12, h⟩ := zb h
        refine z_get (j := 3) X dd_Rows_merge_29 kc_9 ki_9 (by decide) km_660 (zgr_v ev12) ?_
        refine z_iload X dd_Rows_merge_32 4 rfl ?_
        obtain ⟨v13, ev13, h⟩ := zb h
        refine z_iaload X dd_Rows_merge_34 rfl ev13 ?_
        refine z_aload_n X dd_Rows_merge_35 rfl 0 rfl ?_
        obtain ⟨v14, ev14, h⟩ := zb h
        refine z_get (j := 3) X dd_Rows_merge_36 kc_9 ki_9 (by decide) km_660 (zgr_v ev14) ?_
        refine z_iload X dd_Rows_merge_39 5 rfl ?_
        obtain ⟨v15, ev15, h⟩ := zb h
        refine z_iaload X dd_Rows_merge_41 rfl ev15 ?_
        refine z_iload X dd_Rows_merge_42 3 rfl ?_
        obtain ⟨w17, ew17, h⟩ := zb h
        obtain ⟨q16, eq16, h⟩ := zb h
        refine z_callVi X [.int v13, .int v15, .int x4] rfl dd_Rows_merge_44 (c_Rows_compare l eq16) (cwV 3 X.1.2.2.2.2 (zg_V km_1452 km_1453 km_1454 km_137 km_1455) rfl rfl rfl (by decide +kernel) ⟨Nat.le_of_ble_eq_true rfl, Nat.le_of_ble_eq_true rfl⟩) (zob_s ew17) kc_9 rfl (Nat.le_of_ble_eq_true rfl) ⟨Nat.le_of_ble_eq_true rfl, Nat.le_of_ble_eq_true rfl⟩ ?_
        refine z_if_gt (tgt := 70) X dd_Rows_merge_47 (by decide) (fun q18 => ?_) (fun q18 => ?_)
        · rw [if_pos q18] at h
          exact t_Rows_merge_70 X H h k0 k1
        · rw [if_neg q18] at h
          exact t_Rows_merge_50 X H h k0 k1
set_option maxRecDepth 100000 in
set_option maxHeartbeats 4000000 in
theorem t_Rows_merge_9  (X : zX p s m args cd D cid B bb_Rows_merge 8 rr_Rows zT) (H : zH s meth B n0 none "merge") {nf : Nat} {x0 : Nat} {x2 : Int32} {x3 : Int32} {x4 : Int32} {x5 : Int32} {x6 : Int32} {x7 : Int32} {c : Zc} {res : Zc} (h : f_Rows_merge_9 nf x0 x2 x3 x4 x5 x6 x7 c = some res) : Zz p l e (zRm 1 26 0 0) s m args below meth cd (MQ below (zQv D cid B res n0 0) args s 0 0 (fun q => B ≤ q)) D cid B 8 0 0 c 9 [(0, .ref x0), (2, .int x2), (3, .int x3), (4, .int x4), (5, .int x5), (6, .int x6), (7, .int x7)] [] := by
  unfold f_Rows_merge_9 at h
  obtain ⟨b, eb, h⟩ := zb h
  refine zlp_ok (P := fun a : Nat × Int32 × Int32 × Int32 × Int32 × Int32 × Int32 × Zc => Zz p l e (zRm 1 26 0 0) s m args below meth cd _ D cid B 8 0 0 a.2.2.2.2.2.2.2 9 [(0, .ref a.1), (2, .int a.2.1), (3, .int a.2.2.1), (4, .int a.2.2.2.1), (5, .int a.2.2.2.2.1), (6, .int a.2.2.2.2.2.1), (7, .int a.2.2.2.2.2.2.1)] []) (G := fun b : Zc => Zz p l e (zRm 1 26 0 0) s m args below meth cd _ D cid B 8 0 0 b 93 [] []) (fun a r ha k0 k1 => u_Rows_merge_9 X H ha k0 k1) nf _ b eb ?_
  obtain rfl := Option.some.inj h
  exact z_vret X H.1 H.2.1 H.2.2.1 dd_Rows_merge_93
set_option maxRecDepth 100000 in
set_option maxHeartbeats 4000000 in
theorem c_Rows_merge (l : Launch) {nf : Nat} {a0 : Nat} {a1 : Int32} {a2 : Int32} {a3 : Int32} {a4 : Int32} {c : Zc} {res : Zc} (h : f_Rows_merge nf a0 a1 a2 a3 a4 c = some res) : zM l yy_Rows_merge ww_Rows_merge 1 26 0 0 [.ref a0, .int a1, .int a2, .int a3, .int a4] c (fun D cid B => zQv D cid B res c.length 0) := by
  refine z_met (cc := bb_Rows_merge) (maxL := 8) (ret := none) (by decide +kernel) rfl (Nat.le_of_ble_eq_true rfl) ?_
  intro p e s m args below meth cd D cid B X h1 h2 h3 h4
  have X : zX p s m args cd D cid B bb_Rows_merge 8 rr_Rows zT := X
  have H : zH s meth B c.length none "merge" := ⟨h1, h2, h4, h3⟩
  unfold f_Rows_merge at h
  show Zz p l e (zRm 1 26 0 0) s m args below meth cd _ D cid B 8 0 0 c 0 [(0, .ref a0), (1, .int a1), (2, .int a2), (3, .int a3), (4, .int a4)] []
  refine z_iload_n X dd_Rows_merge_0 rfl 1 rfl ?_
  refine z_istore (lv' := [(5, .int a1), (0, .ref a0), (1, .int a1), (2, .int a2), (3, .int a3), (4, .int a4)]) X dd_Rows_merge_1 (by decide) rfl ?_
  refine z_iload_n X dd_Rows_merge_3 rfl 3 rfl ?_
  refine z_istore (lv' := [(6, .int a2), (5, .int a1), (0, .ref a0), (1, .int a1), (2, .int a2), (3, .int a3), (4, .int a4)]) X dd_Rows_merge_4 (by decide) rfl ?_
  refine z_iload_n X dd_Rows_merge_6 rfl 3 rfl ?_
  refine z_istore (lv' := [(7, .int a1), (6, .int a2), (5, .int a1), (0, .ref a0), (1, .int a1), (2, .int a2), (3, .int a3), (4, .int a4)]) X dd_Rows_merge_7 (by decide) rfl ?_
  refine z_sub [3, 5, 6, 7, 2, 1, 0] rfl ?_
  exact t_Rows_merge_9 X H h
theorem dd_Collector_keysOf_0 : decode bb_Collector_keysOf 0 = .ok (.iconst 0, 1) := by decide +kernel
theorem dd_Collector_keysOf_1 : decode bb_Collector_keysOf 1 = .ok (.istore_n 1, 1) := by decide +kernel
theorem dd_Collector_keysOf_2 : decode bb_Collector_keysOf 2 = .ok (.iconst 0, 1) := by decide +kernel
theorem dd_Collector_keysOf_3 : decode bb_Collector_keysOf 3 = .ok (.istore_n 2, 1) := by decide +kernel
theorem dd_Collector_keysOf_4 : decode bb_Collector_keysOf 4 = .ok (.iload_n 2, 1) := by decide +kernel
theorem dd_Collector_keysOf_5 : decode bb_Collector_keysOf 5 = .ok (.aload_n 0, 1) := by decide +kernel
theorem dd_Collector_keysOf_6 : decode bb_Collector_keysOf 6 = .ok (.getfield 45, 3) := by decide +kernel
theorem dd_Collector_keysOf_9 : decode bb_Collector_keysOf 9 = .ok (.if_icmp .ge 25, 3) := by decide +kernel
theorem dd_Collector_keysOf_12 : decode bb_Collector_keysOf 12 = .ok (.aload_n 0, 1) := by decide +kernel
theorem dd_Collector_keysOf_13 : decode bb_Collector_keysOf 13 = .ok (.getfield 92, 3) := by decide +kernel
theorem dd_Collector_keysOf_16 : decode bb_Collector_keysOf 16 = .ok (.iload_n 2, 1) := by decide +kernel
theorem dd_Collector_keysOf_17 : decode bb_Collector_keysOf 17 = .ok (.iaload, 1) := by decide +kernel
theorem dd_Collector_keysOf_18 : decode bb_Collector_keysOf 18 = .ok (.iconst 2, 1) := by decide +kernel
theorem dd_Collector_keysOf_19 : decode bb_Collector_keysOf 19 = .ok (.if_icmp .ne 9, 3) := by decide +kernel
theorem dd_Collector_keysOf_22 : decode bb_Collector_keysOf 22 = .ok (.iload_n 1, 1) := by decide +kernel
theorem dd_Collector_keysOf_23 : decode bb_Collector_keysOf 23 = .ok (.iconst 1, 1) := by decide +kernel
theorem dd_Collector_keysOf_24 : decode bb_Collector_keysOf 24 = .ok (.iload_n 2, 1) := by decide +kernel
theorem dd_Collector_keysOf_25 : decode bb_Collector_keysOf 25 = .ok (.ishl, 1) := by decide +kernel
theorem dd_Collector_keysOf_26 : decode bb_Collector_keysOf 26 = .ok (.ior, 1) := by decide +kernel
theorem dd_Collector_keysOf_27 : decode bb_Collector_keysOf 27 = .ok (.istore_n 1, 1) := by decide +kernel
theorem dd_Collector_keysOf_28 : decode bb_Collector_keysOf 28 = .ok (.iinc 2 1, 3) := by decide +kernel
theorem dd_Collector_keysOf_31 : decode bb_Collector_keysOf 31 = .ok (.goto (-27), 3) := by decide +kernel
theorem dd_Collector_keysOf_34 : decode bb_Collector_keysOf 34 = .ok (.iload_n 1, 1) := by decide +kernel
theorem dd_Collector_keysOf_35 : decode bb_Collector_keysOf 35 = .ok (.ireturn, 1) := by decide +kernel
def f_Collector_keysOf_28 (nf : Nat) (x0 : Nat) (x1 : Int32) (x2 : Int32) (c : Zc) : Option ((Nat × Int32 × Int32 × Zc) ⊕ (Int32 × Zc)) :=
  some (.inl (x0, x1, (x2 + 1), c))
def g_Collector_keysOf_4 (nf : Nat) (x0 : Nat) (x1 : Int32) (x2 : Int32) (c : Zc) : Option ((Nat × Int32 × Int32 × Zc) ⊕ (Int32 × Zc)) :=
  (zgi c x0 2 15).bind fun v1 => if v1 ≤ x2 then (some (.inr (x1, c))) else ((zgr c x0 2 16).bind fun v3 => (zai c v3 0 x2).bind fun v4 => if v4 = 2 then (f_Collector_keysOf_28 nf x0 (x1 ||| (1 <<< (x2 &&& 31))) x2 c) else (f_Collector_keysOf_28 nf x0 x1 x2 c))
def f_Collector_keysOf_4 (nf : Nat) (x0 : Nat) (x1 : Int32) (x2 : Int32) (c : Zc) : Option (Int32 × Zc) :=
  (zlp (fun a => g_Collector_keysOf_4 nf a.1 a.2.1 a.2.2.1 a.2.2.2) nf (x0, x1, x2, c)).bind fun b => some (b.1, b.2)
def f_Collector_keysOf (nf : Nat) (a0 : Nat) (c : Zc) : Option (Int32 × Zc) :=
  f_Collector_keysOf_4 nf a0 0 0 c
set_option maxRecDepth 100000 in
set_option maxHeartbeats 4000000 in
theorem t_Collector_keysOf_28  (X : zX p s m args cd D cid B bb_Collector_keysOf 3 rr_Collector zT) (H : zH s meth B n0 (some (.int)) "keysOf") {nf : Nat} {x0 : Nat} {x1 : Int32} {x2 : Int32} {c : Zc} {r : (Nat × Int32 × Int32 × Zc) ⊕ (Int32 × Zc)} (h : f_Collector_keysOf_28 nf x0 x1 x2 c = some r) (k0 : ∀ a, r = .inl a → (fun a : Nat × Int32 × Int32 × Zc => Zz p l e (zRm 0 0 0 0) s m args below meth cd Q D cid B 3 0 0 a.2.2.2 4 [(0, .ref a.1), (1, .int a.2.1), (2, .int a.2.2.1)] []) a) (k1 : ∀ b, r = .inr b → (fun b : Int32 × Zc => Zz p l e (zRm 0 0 0 0) s m args below meth cd Q D cid B 3 0 0 b.2 34 [(1, .int b.1)] []) b) : Zz p l e (zRm 0 0 0 0) s m args below meth cd Q D cid B 3 0 0 c 28 [(0, .ref x0), (1, .int x1), (2, .int x2)] [] := by
  unfold f_Collector_keysOf_28 at h
  refine z_iinc (v := (x2 + 1)) (lv' := [(2, .int (x2 + 1)), (0, .ref x0), (1, .int x1)]) X dd_Collector_keysOf_28 2 rfl rfl (by decide) rfl ?_
  refine z_goto (tgt := 4) X dd_Collector_keysOf_31 (by decide) ?_
  refine z_sub [1, 2, 0] rfl ?_
  obtain rfl := Option.some.inj h
  exact k0 _ rfl
set_option maxRecDepth 100000 in
set_option maxHeartbeats 4000000 in
theorem u_Collector_keysOf_4  (X : zX p s m args cd D cid B bb_Collector_keysOf 3 rr_Collector zT) (H : zH s meth B n0 (some (.int)) "keysOf") {nf : Nat} {x0 : Nat} {x1 : Int32} {x2 : Int32} {c : Zc} {r : (Nat × Int32 × Int32 × Zc) ⊕ (Int32 × Zc)} (h : g_Collector_keysOf_4 nf x0 x1 x2 c = some r) (k0 : ∀ a, r = .inl a → (fun a : Nat × Int32 × Int32 × Zc => Zz p l e (zRm 0 0 0 0) s m args below meth cd Q D cid B 3 0 0 a.2.2.2 4 [(0, .ref a.1), (1, .int a.2.1), (2, .int a.2.2.1)] []) a) (k1 : ∀ b, r = .inr b → (fun b : Int32 × Zc => Zz p l e (zRm 0 0 0 0) s m args below meth cd Q D cid B 3 0 0 b.2 34 [(1, .int b.1)] []) b) : Zz p l e (zRm 0 0 0 0) s m args below meth cd Q D cid B 3 0 0 c 4 [(0, .ref x0), (1, .int x1), (2, .int x2)] [] := by
  unfold g_Collector_keysOf_4 at h
  refine z_iload_n X dd_Collector_keysOf_4 rfl 2 rfl ?_
  refine z_aload_n X dd_Collector_keysOf_5 rfl 0 rfl ?_
  obtain ⟨v1, ev1, h⟩ := zb h
  refine z_get (j := 15) X dd_Collector_keysOf_6 kc_2 ki_2 (by decide) km_345 (zgi_v ev1) ?_
  refine z_icmp_ge (tgt := 34) X dd_Collector_keysOf_9 (by decide) (fun q2 => ?_) (fun q2 => ?_)
  · rw [if_pos q2] at h
    refine z_sub [1] rfl ?_
    obtain rfl := Option.some.inj h
    exact k1 _ rfl
  · rw [if_neg q2] at h
    refine z_aload_n X dd_Collector_keysOf_12 rfl 0 rfl ?_
    obtain ⟨v3, ev3, h⟩ := zb h
    refine z_get (j := 16) X dd_Collector_keysOf_13 kc_2 ki_2 (by decide) km_349 (zgr_v ev3) ?_
    refine z_iload_n X dd_Collector_keysOf_16 rfl 2 rfl ?_
    obtain ⟨v4, ev4, h⟩ := zb h
    refine z_iaload X dd_Collector_keysOf_17 rfl ev4 ?_
    refine z_iconst (v := 2) X dd_Collector_keysOf_18 (by decide) ?_
    refine z_icmp_ne (tgt := 28) X dd_Collector_keysOf_19 (by decide) (fun q5 => ?_) (fun q5 => ?_)
    · rw [if_neg q5] at h
      exact t_Collector_keysOf_28 X H h k0 k1
    · rw [if_pos q5] at h
      refine z_iload_n X dd_Collector_keysOf_22 rfl 1 rfl ?_
      refine z_iconst (v := 1) X dd_Collector_keysOf_23 (by decide) ?_
      refine z_iload_n X dd_Collector_keysOf_24 rfl 2 rfl ?_
      refine z_ishl X dd_Collector_keysOf_25 ?_
      refine z_ior X dd_Collector_keysOf_26 ?_
      refine z_istore_n (lv' := [(1, .int (x1 ||| (1 <<< (x2 &&& 31)))), (0, .ref x0), (2, .int x2)]) X dd_Collector_keysOf_27 rfl (by decide) rfl ?_
      refine z_sub [1, 0, 2] rfl ?_
      exact t_Collector_keysOf_28 X H h k0 k1
set_option maxRecDepth 100000 in
set_option maxHeartbeats 4000000 in
theorem t_Collector_keysOf_4  (X : zX p s m args cd D cid B bb_Collector_keysOf 3 rr_Collector zT) (H : zH s meth B n0 (some (.int)) "keysOf") {nf : Nat} {x0 : Nat} {x1 : Int32} {x2 : Int32} {c : Zc} {res : Int32 × Zc} (h : f_Collector_keysOf_4 nf x0 x1 x2 c = some res) : Zz p l e (zRm 0 0 0 0) s m args below meth cd (MQ below (zQi D cid B res.1 res.2 n0 0) args s 0 0 (fun q => B ≤ q)) D cid B 3 0 0 c 4 [(0, .ref x0), (1, .int x1), (2, .int x2)] [] := by
  unfold f_Collector_keysOf_4 at h
  obtain ⟨b, eb, h⟩ := zb h
  refine zlp_ok (P := fun a : Nat × Int32 × Int32 × Zc => Zz p l e (zRm 0 0 0 0) s m args below meth cd _ D cid B 3 0 0 a.2.2.2 4 [(0, .ref a.1), (1, .int a.2.1), (2, .int a.2.2.1)] []) (G := fun b : Int32 × Zc => Zz p l e (zRm 0 0 0 0) s m args below meth cd _ D cid B 3 0 0 b.2 34 [(1, .int b.1)] []) (fun a r ha k0 k1 => u_Collector_keysOf_4 X H ha k0 k1) nf _ b eb ?_
  refine z_iload_n X dd_Collector_keysOf_34 rfl 0 rfl ?_
  obtain rfl := Option.some.inj h
  exact z_iret X H.1 H.2.1 H.2.2.1 dd_Collector_keysOf_35
set_option maxRecDepth 100000 in
set_option maxHeartbeats 4000000 in
theorem c_Collector_keysOf (l : Launch) {nf : Nat} {a0 : Nat} {c : Zc} {res : Int32 × Zc} (h : f_Collector_keysOf nf a0 c = some res) : zM l yy_Collector_keysOf ww_Collector_keysOf 0 0 0 0 [.ref a0] c (fun D cid B => zQi D cid B res.1 res.2 c.length 0) := by
  refine z_met (cc := bb_Collector_keysOf) (maxL := 3) (ret := (some (.int))) (by decide +kernel) rfl (Nat.le_of_ble_eq_true rfl) ?_
  intro p e s m args below meth cd D cid B X h1 h2 h3 h4
  have X : zX p s m args cd D cid B bb_Collector_keysOf 3 rr_Collector zT := X
  have H : zH s meth B c.length (some (.int)) "keysOf" := ⟨h1, h2, h4, h3⟩
  unfold f_Collector_keysOf at h
  show Zz p l e (zRm 0 0 0 0) s m args below meth cd _ D cid B 3 0 0 c 0 [(0, .ref a0)] []
  refine z_iconst (v := 0) X dd_Collector_keysOf_0 (by decide) ?_
  refine z_istore_n (lv' := [(1, .int 0), (0, .ref a0)]) X dd_Collector_keysOf_1 rfl (by decide) rfl ?_
  refine z_iconst (v := 0) X dd_Collector_keysOf_2 (by decide) ?_
  refine z_istore_n (lv' := [(2, .int 0), (1, .int 0), (0, .ref a0)]) X dd_Collector_keysOf_3 rfl (by decide) rfl ?_
  refine z_sub [2, 1, 0] rfl ?_
  exact t_Collector_keysOf_4 X H h
theorem dd_Math_min_1_0 : decode bb_Math_min_1 0 = .ok (.lload_n 0, 1) := by decide +kernel
theorem dd_Math_min_1_1 : decode bb_Math_min_1 1 = .ok (.lload_n 2, 1) := by decide +kernel
theorem dd_Math_min_1_2 : decode bb_Math_min_1 2 = .ok (.lcmp, 1) := by decide +kernel
theorem dd_Math_min_1_3 : decode bb_Math_min_1 3 = .ok (.ifCond .gt 7, 3) := by decide +kernel
theorem dd_Math_min_1_6 : decode bb_Math_min_1 6 = .ok (.lload_n 0, 1) := by decide +kernel
theorem dd_Math_min_1_7 : decode bb_Math_min_1 7 = .ok (.goto 4, 3) := by decide +kernel
theorem dd_Math_min_1_10 : decode bb_Math_min_1 10 = .ok (.lload_n 2, 1) := by decide +kernel
theorem dd_Math_min_1_11 : decode bb_Math_min_1 11 = .ok (.lreturn, 1) := by decide +kernel
def f_Math_min_1_11 (nf : Nat) (s0 : Int64) (c : Zc) : Option (Int64 × Zc) :=
  some (s0, c)
def f_Math_min_1 (nf : Nat) (a0 : Int64) (a2 : Int64) (c : Zc) : Option (Int64 × Zc) :=
  if 0 < (lg_cmp a0 a2) then (f_Math_min_1_11 nf a2 c) else (f_Math_min_1_11 nf a0 c)
set_option maxRecDepth 100000 in
set_option maxHeartbeats 4000000 in
theorem t_Math_min_1_11  (X : zX p s m args cd D cid B bb_Math_min_1 4 rr_Math zT) (H : zH s meth B n0 (some (.long)) "min") {nf : Nat} {s0 : Int64} {c : Zc} {res : Int64 × Zc} (h : f_Math_min_1_11 nf s0 c = some res) : Zz p l e (zRm 0 0 0 0) s m args below meth cd (MQ below (zQl D cid B res.1 res.2 n0 0) args s 0 0 (fun q => B ≤ q)) D cid B 4 0 0 c 11 [] [.long s0] := by
  unfold f_Math_min_1_11 at h
  obtain rfl := Option.some.inj h
  exact z_lret X H.1 H.2.1 H.2.2.1 dd_Math_min_1_11
set_option maxRecDepth 100000 in
set_option maxHeartbeats 4000000 in
theorem c_Math_min_1 (l : Launch) {nf : Nat} {a0 : Int64} {a2 : Int64} {c : Zc} {res : Int64 × Zc} (h : f_Math_min_1 nf a0 a2 c = some res) : zM l yy_Math_min_1 ww_Math_min_1 0 0 0 0 [.long a0, .long a2] c (fun D cid B => zQl D cid B res.1 res.2 c.length 0) := by
  refine z_metF (cc := bb_Math_min_1) (maxL := 4) (ret := (some (.long))) (by decide +kernel) rfl (Nat.le_of_ble_eq_true rfl) ?_
  intro p e s m args below meth cd D cid B X h1 h2 h3 h4
  have X : zX p s m args cd D cid B bb_Math_min_1 4 rr_Math zT := X
  have H : zH s meth B c.length (some (.long)) "min" := ⟨h1, h2, h4, h3⟩
  unfold f_Math_min_1 at h
  show Zz p l e (zRm 0 0 0 0) s m args below meth cd _ D cid B 4 0 0 c 0 [(0, .long a0), (2, .long a2)] []
  refine z_lload_n X dd_Math_min_1_0 rfl 0 rfl ?_
  refine z_lload_n X dd_Math_min_1_1 rfl 1 rfl ?_
  refine z_lcmp X dd_Math_min_1_2 ?_
  refine z_if_gt (tgt := 10) X dd_Math_min_1_3 (by decide) (fun q1 => ?_) (fun q1 => ?_)
  · rw [if_pos q1] at h
    refine z_lload_n X dd_Math_min_1_10 rfl 1 rfl ?_
    refine z_sub [] rfl ?_
    exact t_Math_min_1_11 X H h
  · rw [if_neg q1] at h
    refine z_lload_n X dd_Math_min_1_6 rfl 0 rfl ?_
    refine z_goto (tgt := 11) X dd_Math_min_1_7 (by decide) ?_
    refine z_sub [] rfl ?_
    exact t_Math_min_1_11 X H h
theorem dd_Math_max_1_0 : decode bb_Math_max_1 0 = .ok (.lload_n 0, 1) := by decide +kernel
theorem dd_Math_max_1_1 : decode bb_Math_max_1 1 = .ok (.lload_n 2, 1) := by decide +kernel
theorem dd_Math_max_1_2 : decode bb_Math_max_1 2 = .ok (.lcmp, 1) := by decide +kernel
theorem dd_Math_max_1_3 : decode bb_Math_max_1 3 = .ok (.ifCond .lt 7, 3) := by decide +kernel
theorem dd_Math_max_1_6 : decode bb_Math_max_1 6 = .ok (.lload_n 0, 1) := by decide +kernel
theorem dd_Math_max_1_7 : decode bb_Math_max_1 7 = .ok (.goto 4, 3) := by decide +kernel
theorem dd_Math_max_1_10 : decode bb_Math_max_1 10 = .ok (.lload_n 2, 1) := by decide +kernel
theorem dd_Math_max_1_11 : decode bb_Math_max_1 11 = .ok (.lreturn, 1) := by decide +kernel
def f_Math_max_1_11 (nf : Nat) (s0 : Int64) (c : Zc) : Option (Int64 × Zc) :=
  some (s0, c)
def f_Math_max_1 (nf : Nat) (a0 : Int64) (a2 : Int64) (c : Zc) : Option (Int64 × Zc) :=
  if (lg_cmp a0 a2) < 0 then (f_Math_max_1_11 nf a2 c) else (f_Math_max_1_11 nf a0 c)
set_option maxRecDepth 100000 in
set_option maxHeartbeats 4000000 in
theorem t_Math_max_1_11  (X : zX p s m args cd D cid B bb_Math_max_1 4 rr_Math zT) (H : zH s meth B n0 (some (.long)) "max") {nf : Nat} {s0 : Int64} {c : Zc} {res : Int64 × Zc} (h : f_Math_max_1_11 nf s0 c = some res) : Zz p l e (zRm 0 0 0 0) s m args below meth cd (MQ below (zQl D cid B res.1 res.2 n0 0) args s 0 0 (fun q => B ≤ q)) D cid B 4 0 0 c 11 [] [.long s0] := by
  unfold f_Math_max_1_11 at h
  obtain rfl := Option.some.inj h
  exact z_lret X H.1 H.2.1 H.2.2.1 dd_Math_max_1_11
set_option maxRecDepth 100000 in
set_option maxHeartbeats 4000000 in
theorem c_Math_max_1 (l : Launch) {nf : Nat} {a0 : Int64} {a2 : Int64} {c : Zc} {res : Int64 × Zc} (h : f_Math_max_1 nf a0 a2 c = some res) : zM l yy_Math_max_1 ww_Math_max_1 0 0 0 0 [.long a0, .long a2] c (fun D cid B => zQl D cid B res.1 res.2 c.length 0) := by
  refine z_metF (cc := bb_Math_max_1) (maxL := 4) (ret := (some (.long))) (by decide +kernel) rfl (Nat.le_of_ble_eq_true rfl) ?_
  intro p e s m args below meth cd D cid B X h1 h2 h3 h4
  have X : zX p s m args cd D cid B bb_Math_max_1 4 rr_Math zT := X
  have H : zH s meth B c.length (some (.long)) "max" := ⟨h1, h2, h4, h3⟩
  unfold f_Math_max_1 at h
  show Zz p l e (zRm 0 0 0 0) s m args below meth cd _ D cid B 4 0 0 c 0 [(0, .long a0), (2, .long a2)] []
  refine z_lload_n X dd_Math_max_1_0 rfl 0 rfl ?_
  refine z_lload_n X dd_Math_max_1_1 rfl 1 rfl ?_
  refine z_lcmp X dd_Math_max_1_2 ?_
  refine z_if_lt (tgt := 10) X dd_Math_max_1_3 (by decide) (fun q1 => ?_) (fun q1 => ?_)
  · rw [if_pos q1] at h
    refine z_lload_n X dd_Math_max_1_10 rfl 1 rfl ?_
    refine z_sub [] rfl ?_
    exact t_Math_max_1_11 X H h
  · rw [if_neg q1] at h
    refine z_lload_n X dd_Math_max_1_6 rfl 0 rfl ?_
    refine z_goto (tgt := 11) X dd_Math_max_1_7 (by decide) ?_
    refine z_sub [] rfl ?_
    exact t_Math_max_1_11 X H h
theorem dd_Collector_addTo_0 : decode bb_Collector_addTo 0 = .ok (.iconst 0, 1) := by decide +kernel
theorem dd_Collector_addTo_1 : decode bb_Collector_addTo 1 = .ok (.istore_n 3, 1) := by decide +kernel
theorem dd_Collector_addTo_2 : decode bb_Collector_addTo 2 = .ok (.iload_n 3, 1) := by decide +kernel
theorem dd_Collector_addTo_3 : decode bb_Collector_addTo 3 = .ok (.aload_n 1, 1) := by decide +kernel
theorem dd_Collector_addTo_4 : decode bb_Collector_addTo 4 = .ok (.getfield 45, 3) := by decide +kernel
theorem dd_Collector_addTo_7 : decode bb_Collector_addTo 7 = .ok (.if_icmp .ge 110, 3) := by decide +kernel
theorem dd_Collector_addTo_10 : decode bb_Collector_addTo 10 = .ok (.aload_n 0, 1) := by decide +kernel
theorem dd_Collector_addTo_11 : decode bb_Collector_addTo 11 = .ok (.getfield 12, 3) := by decide +kernel
theorem dd_Collector_addTo_14 : decode bb_Collector_addTo 14 = .ok (.iload_n 2, 1) := by decide +kernel
theorem dd_Collector_addTo_15 : decode bb_Collector_addTo 15 = .ok (.iload_n 3, 1) := by decide +kernel
theorem dd_Collector_addTo_16 : decode bb_Collector_addTo 16 = .ok (.invokevirtual 76, 3) := by decide +kernel
theorem dd_Collector_addTo_19 : decode bb_Collector_addTo 19 = .ok (.istore 4, 2) := by decide +kernel
theorem dd_Collector_addTo_21 : decode bb_Collector_addTo 21 = .ok (.aload_n 1, 1) := by decide +kernel
theorem dd_Collector_addTo_22 : decode bb_Collector_addTo 22 = .ok (.getfield 92, 3) := by decide +kernel
theorem dd_Collector_addTo_25 : decode bb_Collector_addTo 25 = .ok (.iload_n 3, 1) := by decide +kernel
theorem dd_Collector_addTo_26 : decode bb_Collector_addTo 26 = .ok (.iaload, 1) := by decide +kernel
theorem dd_Collector_addTo_27 : decode bb_Collector_addTo 27 = .ok (.istore 5, 2) := by decide +kernel
theorem dd_Collector_addTo_29 : decode bb_Collector_addTo 29 = .ok (.iload 5, 2) := by decide +kernel
theorem dd_Collector_addTo_31 : decode bb_Collector_addTo 31 = .ok (.bipush 19, 2) := by decide +kernel
theorem dd_Collector_addTo_33 : decode bb_Collector_addTo 33 = .ok (.if_icmp .eq 10, 3) := by decide +kernel
theorem dd_Collector_addTo_36 : decode bb_Collector_addTo 36 = .ok (.iload 5, 2) := by decide +kernel
theorem dd_Collector_addTo_38 : decode bb_Collector_addTo 38 = .ok (.bipush 20, 2) := by decide +kernel
theorem dd_Collector_addTo_40 : decode bb_Collector_addTo 40 = .ok (.if_icmp .ne 18, 3) := by decide +kernel
theorem dd_Collector_addTo_43 : decode bb_Collector_addTo 43 = .ok (.aload_n 0, 1) := by decide +kernel
theorem dd_Collector_addTo_44 : decode bb_Collector_addTo 44 = .ok (.getfield 21, 3) := by decide +kernel
theorem dd_Collector_addTo_47 : decode bb_Collector_addTo 47 = .ok (.iload_n 3, 1) := by decide +kernel
theorem dd_Collector_addTo_48 : decode bb_Collector_addTo 48 = .ok (.dup2, 1) := by decide +kernel
theorem dd_Collector_addTo_49 : decode bb_Collector_addTo 49 = .ok (.laload, 1) := by decide +kernel
theorem dd_Collector_addTo_50 : decode bb_Collector_addTo 50 = .ok (.iload 4, 2) := by decide +kernel
theorem dd_Collector_addTo_52 : decode bb_Collector_addTo 52 = .ok (.i2l, 1) := by decide +kernel
theorem dd_Collector_addTo_53 : decode bb_Collector_addTo 53 = .ok (.ladd, 1) := by decide +kernel
theorem dd_Collector_addTo_54 : decode bb_Collector_addTo 54 = .ok (.lastore, 1) := by decide +kernel
theorem dd_Collector_addTo_55 : decode bb_Collector_addTo 55 = .ok (.goto 56, 3) := by decide +kernel
theorem dd_Collector_addTo_58 : decode bb_Collector_addTo 58 = .ok (.iload 5, 2) := by decide +kernel
theorem dd_Collector_addTo_60 : decode bb_Collector_addTo 60 = .ok (.bipush 21, 2) := by decide +kernel
theorem dd_Collector_addTo_62 : decode bb_Collector_addTo 62 = .ok (.if_icmp .ne 24, 3) := by decide +kernel
theorem dd_Collector_addTo_65 : decode bb_Collector_addTo 65 = .ok (.aload_n 0, 1) := by decide +kernel
theorem dd_Collector_addTo_66 : decode bb_Collector_addTo 66 = .ok (.getfield 21, 3) := by decide +kernel
theorem dd_Collector_addTo_69 : decode bb_Collector_addTo 69 = .ok (.iload_n 3, 1) := by decide +kernel
theorem dd_Collector_addTo_70 : decode bb_Collector_addTo 70 = .ok (.aload_n 0, 1) := by decide +kernel
theorem dd_Collector_addTo_71 : decode bb_Collector_addTo 71 = .ok (.getfield 21, 3) := by decide +kernel
theorem dd_Collector_addTo_74 : decode bb_Collector_addTo 74 = .ok (.iload_n 3, 1) := by decide +kernel
theorem dd_Collector_addTo_75 : decode bb_Collector_addTo 75 = .ok (.laload, 1) := by decide +kernel
theorem dd_Collector_addTo_76 : decode bb_Collector_addTo 76 = .ok (.iload 4, 2) := by decide +kernel
theorem dd_Collector_addTo_78 : decode bb_Collector_addTo 78 = .ok (.i2l, 1) := by decide +kernel
theorem dd_Collector_addTo_79 : decode bb_Collector_addTo 79 = .ok (.invokestatic 116, 3) := by decide +kernel
theorem dd_Collector_addTo_82 : decode bb_Collector_addTo 82 = .ok (.lastore, 1) := by decide +kernel
theorem dd_Collector_addTo_83 : decode bb_Collector_addTo 83 = .ok (.goto 28, 3) := by decide +kernel
theorem dd_Collector_addTo_86 : decode bb_Collector_addTo 86 = .ok (.iload 5, 2) := by decide +kernel
theorem dd_Collector_addTo_88 : decode bb_Collector_addTo 88 = .ok (.bipush 22, 2) := by decide +kernel
theorem dd_Collector_addTo_90 : decode bb_Collector_addTo 90 = .ok (.if_icmp .ne 21, 3) := by decide +kernel
theorem dd_Collector_addTo_93 : decode bb_Collector_addTo 93 = .ok (.aload_n 0, 1) := by decide +kernel
theorem dd_Collector_addTo_94 : decode bb_Collector_addTo 94 = .ok (.getfield 21, 3) := by decide +kernel
theorem dd_Collector_addTo_97 : decode bb_Collector_addTo 97 = .ok (.iload_n 3, 1) := by decide +kernel
theorem dd_Collector_addTo_98 : decode bb_Collector_addTo 98 = .ok (.aload_n 0, 1) := by decide +kernel
theorem dd_Collector_addTo_99 : decode bb_Collector_addTo 99 = .ok (.getfield 21, 3) := by decide +kernel
theorem dd_Collector_addTo_102 : decode bb_Collector_addTo 102 = .ok (.iload_n 3, 1) := by decide +kernel
theorem dd_Collector_addTo_103 : decode bb_Collector_addTo 103 = .ok (.laload, 1) := by decide +kernel
theorem dd_Collector_addTo_104 : decode bb_Collector_addTo 104 = .ok (.iload 4, 2) := by decide +kernel
theorem dd_Collector_addTo_106 : decode bb_Collector_addTo 106 = .ok (.i2l, 1) := by decide +kernel
theorem dd_Collector_addTo_107 : decode bb_Collector_addTo 107 = .ok (.invokestatic 119, 3) := by decide +kernel
theorem dd_Collector_addTo_110 : decode bb_Collector_addTo 110 = .ok (.lastore, 1) := by decide +kernel
theorem dd_Collector_addTo_111 : decode bb_Collector_addTo 111 = .ok (.iinc 3 1, 3) := by decide +kernel
theorem dd_Collector_addTo_114 : decode bb_Collector_addTo 114 = .ok (.goto (-112), 3) := by decide +kernel
theorem dd_Collector_addTo_117 : decode bb_Collector_addTo 117 = .ok (.return_, 1) := by decide +kernel
def f_Collector_addTo_111 (nf : Nat) (x0 : Nat) (x1 : Nat) (x2 : Int32) (x3 : Int32) (c : Zc) : Option ((Nat × Nat × Int32 × Int32 × Zc) ⊕ (Zc)) :=
  some (.inl (x0, x1, x2, (x3 + 1), c))
def f_Collector_addTo_43 (nf : Nat) (x0 : Nat) (x1 : Nat) (x2 : Int32) (x3 : Int32) (x4 : Int32) (c : Zc) : Option ((Nat × Nat × Int32 × Int32 × Zc) ⊕ (Zc)) :=
  (zgr c x0 10 3).bind fun v9 => (zal c v9 2 x3).bind fun v10 => (zsl c v9 2 x3 (v10 + (Int32.toInt64 x4))).bind fun c11 => f_Collector_addTo_111 nf x0 x1 x2 x3 c11
def g_Collector_addTo_2 (nf : Nat) (x0 : Nat) (x1 : Nat) (x2 : Int32) (x3 : Int32) (c : Zc) : Option ((Nat × Nat × Int32 × Int32 × Zc) ⊕ (Zc)) :=
  (zgi c x1 2 15).bind fun v1 => if v1 ≤ x3 then (some (.inr c)) else ((zgr c x0 10 1).bind fun v3 => (zob c v3 9).bind fun w5 => (f_Rows_cell nf v3 x2 x3 c).bind fun q4 => (zgr q4.2 x1 2 16).bind fun v6 => (zai q4.2 v6 0 x3).bind fun v7 => if v7 = 19 then (f_Collector_addTo_43 nf x0 x1 x2 x3 q4.1 q4.2) else (if v7 = 20 then (f_Collector_addTo_43 nf x0 x1 x2 x3 q4.1 q4.2) else (if v7 = 21 then ((zgr q4.2 x0 10 3).bind fun v20 => (zgr q4.2 x0 10 3).bind fun v21 => (zal q4.2 v21 2 x3).bind fun v22 => (f_Math_min_1 nf v22 (Int32.toInt64 q4.1) q4.2).bind fun q23 => (zsl q23.2 v20 2 x3 q23.1).bind fun c24 => f_Collector_addTo_111 nf x0 x1 x2 x3 c24) else (if v7 = 22 then ((zgr q4.2 x0 10 3).bind fun v15 => (zgr q4.2 x0 10 3).bind fun v16 => (zal q4.2 v16 2 x3).bind fun v17 => (f_Math_max_1 nf v17 (Int32.toInt64 q4.1) q4.2).bind fun q18 => (zsl q18.2 v15 2 x3 q18.1).bind fun c19 => f_Collector_addTo_111 nf x0 x1 x2 x3 c19) else (f_Collector_addTo_111 nf x0 x1 x2 x3 q4.2)))))
def f_Collector_addTo_2 (nf : Nat) (x0 : Nat) (x1 : Nat) (x2 : Int32) (x3 : Int32) (c : Zc) : Option (Zc) :=
  (zlp (fun a => g_Collector_addTo_2 nf a.1 a.2.1 a.2.2.1 a.2.2.2.1 a.2.2.2.2) nf (x0, x1, x2, x3, c)).bind fun b => some b
def f_Collector_addTo (nf : Nat) (a0 : Nat) (a1 : Nat) (a2 : Int32) (c : Zc) : Option (Zc) :=
  f_Collector_addTo_2 nf a0 a1 a2 0 c
set_option maxRecDepth 100000 in
set_option maxHeartbeats 4000000 in
theorem t_Collector_addTo_111  (X : zX p s m args cd D cid B bb_Collector_addTo 6 rr_Collector zT) (H : zH s meth B n0 none "addTo") {nf : Nat} {x0 : Nat} {x1 : Nat} {x2 : Int32} {x3 : Int32} {c : Zc} {r : (Nat × Nat × Int32 × Int32 × Zc) ⊕ (Zc)} (h : f_Collector_addTo_111 nf x0 x1 x2 x3 c = some r) (k0 : ∀ a, r = .inl a → (fun a : Nat × Nat × Int32 × Int32 × Zc => Zz p l e (zRm 1 23 0 0) s m args below meth cd Q D cid B 6 0 0 a.2.2.2.2 2 [(0, .ref a.1), (1, .ref a.2.1), (2, .int a.2.2.1), (3, .int a.2.2.2.1)] []) a) (k1 : ∀ b, r = .inr b → (fun b : Zc => Zz p l e (zRm 1 23 0 0) s m args below meth cd Q D cid B 6 0 0 b 117 [] []) b) : Zz p l e (zRm 1 23 0 0) s m args below meth cd Q D cid B 6 0 0 c 111 [(0, .ref x0), (1, .ref x1), (2, .int x2), (3, .int x3)] [] := by
  unfold f_Collector_addTo_111 at h
  refine z_iinc (v := (x3 + 1)) (lv' := [(3, .int (x3 + 1)), (0, .ref x0), (1, .ref x1), (2, .int x2)]) X dd_Collector_addTo_111 3 rfl rfl (by decide) rfl ?_
  refine z_goto (tgt := 2) X dd_Collector_addTo_114 (by decide) ?_
  refine z_sub [1, 2, 3, 0] rfl ?_
  obtain rfl := Option.some.inj h
  exact k0 _ rfl
set_option maxRecDepth 100000 in
set_option maxHeartbeats 4000000 in
theorem t_Collector_addTo_43  (X : zX p s m args cd D cid B bb_Collector_addTo 6 rr_Collector zT) (H : zH s meth B n0 none "addTo") {nf : Nat} {x0 : Nat} {x1 : Nat} {x2 : Int32} {x3 : Int32} {x4 : Int32} {c : Zc} {r : (Nat × Nat × Int32 × Int32 × Zc) ⊕ (Zc)} (h : f_Collector_addTo_43 nf x0 x1 x2 x3 x4 c = some r) (k0 : ∀ a, r = .inl a → (fun a : Nat × Nat × Int32 × Int32 × Zc => Zz p l e (zRm 1 23 0 0) s m args below meth cd Q D cid B 6 0 0 a.2.2.2.2 2 [(0, .ref a.1), (1, .ref a.2.1), (2, .int a.2.2.1), (3, .int a.2.2.2.1)] []) a) (k1 : ∀ b, r = .inr b → (fun b : Zc => Zz p l e (zRm 1 23 0 0) s m args below meth cd Q D cid B 6 0 0 b 117 [] []) b) : Zz p l e (zRm 1 23 0 0) s m args below meth cd Q D cid B 6 0 0 c 43 [(0, .ref x0), (1, .ref x1), (2, .int x2), (3, .int x3), (4, .int x4)] [] := by
  unfold f_Collector_addTo_43 at h
  refine z_aload_n X dd_Collector_addTo_43 rfl 0 rfl ?_
  obtain ⟨v9, ev9, h⟩ := zb h
  refine z_get (j := 3) X dd_Collector_addTo_44 kc_10 ki_10 (by decide) km_676 (zgr_v ev9) ?_
  refine z_iload_n X dd_Collector_addTo_47 rfl 3 rfl ?_
  refine z_dup2_11 X dd_Collector_addTo_48 rfl rfl ?_
  obtain ⟨v10, ev10, h⟩ := zb h
  refine z_laload X dd_Collector_addTo_49 rfl ev10 ?_
  refine z_iload X dd_Collector_addTo_50 4 rfl ?_
  refine z_i2l X dd_Collector_addTo_52 ?_
  refine z_ladd X dd_Collector_addTo_53 ?_
  obtain ⟨c11, ec11, h⟩ := zb h
  refine z_lastore X dd_Collector_addTo_54 rfl ec11 ?_
  refine z_goto (tgt := 111) X dd_Collector_addTo_55 (by decide) ?_
  refine z_sub [0, 1, 2, 3] rfl ?_
  exact t_Collector_addTo_111 X H h k0 k1
set_option maxRecDepth 100000 in
set_option maxHeartbeats 4000000 in
theorem u_Collector_addTo_2  (X : zX p s m args cd D cid B bb_Collector_addTo 6 rr_Collector zT) (H : zH s meth B n0 none "addTo") {nf : Nat} {x0 : Nat} {x1 : Nat} {x2 : Int32} {x3 : Int32} {c : Zc} {r : (Nat × Nat × Int32 × Int32 × Zc) ⊕ (Zc)} (h : g_Collector_addTo_2 nf x0 x1 x2 x3 c = some r) (k0 : ∀ a, r = .inl a → (fun a : Nat × Nat × Int32 × Int32 × Zc => Zz p l e (zRm 1 23 0 0) s m args below meth cd Q D cid B 6 0 0 a.2.2.2.2 2 [(0, .ref a.1), (1, .ref a.2.1), (2, .int a.2.2.1), (3, .int a.2.2.2.1)] []) a) (k1 : ∀ b, r = .inr b → (fun b : Zc => Zz p l e (zRm 1 23 0 0) s m args below meth cd Q D cid B 6 0 0 b 117 [] []) b) : Zz p l e (zRm 1 23 0 0) s m args below meth cd Q D cid B 6 0 0 c 2 [(0, .ref x0), (1, .ref x1), (2, .int x2), (3, .int x3)] [] := by
  unfold g_Collector_addTo_2 at h
  refine z_iload_n X dd_Collector_addTo_2 rfl 3 rfl ?_
  refine z_aload_n X dd_Collector_addTo_3 rfl 1 rfl ?_
  obtain ⟨v1, ev1, h⟩ := zb h
  refine z_get (j := 15) X dd_Collector_addTo_4 kc_2 ki_2 (by decide) km_345 (zgi_v ev1) ?_
  refine z_icmp_ge (tgt := 117) X dd_Collector_addTo_7 (by decide) (fun q2 => ?_) (fun q2 => ?_)
  · rw [if_pos q2] at h
    refine z_sub [] rfl ?_
    obtain rfl := Option.some.inj h
    exact k1 _ rfl
  · rw [if_neg q2] at h
    refine z_aload_n X dd_Collector_addTo_10 rfl 0 rfl ?_
    obtain ⟨v3, ev3, h⟩ := zb h
    refine z_get (j := 1) X dd_Collector_addTo_11 kc_10 ki_10 (by decide) km_674 (zgr_v ev3) ?_
    refine z_iload_n X dd_Collector_addTo_14 rfl 2 rfl ?_
    refine z_iload_n X dd_Collector_addTo_15 rfl 3 rfl ?_
    obtain ⟨w5, ew5, h⟩ := zb h
    obtain ⟨q4, eq4, h⟩ := zb h
    refine z_callVi X [.int x2, .int x3] rfl dd_Collector_addTo_16 (c_Rows_cell l eq4) (cwV 2 X.1.2.2.2.2 (zg_V km_1465 km_1466 km_1467 km_137 km_1468) rfl rfl rfl (by decide +kernel) ⟨Nat.le_of_ble_eq_true rfl, Nat.le_of_ble_eq_true rfl⟩) (zob_s ew5) kc_9 rfl (Nat.le_of_ble_eq_true rfl) ⟨Nat.le_of_ble_eq_true rfl, Nat.le_of_ble_eq_true rfl⟩ ?_
    refine z_istore (lv' := [(4, .int q4.1), (0, .ref x0), (1, .ref x1), (2, .int x2), (3, .int x3)]) X dd_Collector_addTo_19 (by decide) rfl ?_
    refine z_aload_n X dd_Collector_addTo_21 rfl 2 rfl ?_
    obtain ⟨v6, ev6, h⟩ := zb h
    refine z_get (j := 16) X dd_Collector_addTo_22 kc_2 ki_2 (by decide) km_349 (zgr_v ev6) ?_
    refine z_iload_n X dd_Collector_addTo_25 rfl 4 rfl ?_
    obtain ⟨v7, ev7, h⟩ := zb h
    refine z_iaload X dd_Collector_addTo_26 rfl ev7 ?_
    refine z_istore (lv' := [(5, .int v7), (4, .int q4.1), (0, .ref x0), (1, .ref x1), (2, .int x2), (3, .int x3)]) X dd_Collector_addTo_27 (by decide) rfl ?_
    refine z_iload X dd_Collector_addTo_29 0 rfl ?_
    refine z_bipush (v := 19) X dd_Collector_addTo_31 (by decide) ?_
    refine z_icmp_eq (tgt := 43) X dd_Collector_addTo_33 (by decide) (fun q8 => ?_) (fun q8 => ?_)
    · rw [if_pos q8] at h
      refine z_sub [2, 3, 4, 5, 1] rfl ?_
      exact t_Collector_addTo_43 X H h k0 k1
    · rw [if_neg q8] at h
      refine z_iload X dd_Collector_addTo_36 0 rfl ?_
      refine z_bipush (v := 20) X dd_Collector_addTo_38 (by decide) ?_
      refine z_icmp_ne (tgt := 58) X dd_Collector_addTo_40 (by decide) (fun q12 => ?_) (fun q12 => ?_)
      · rw [if_neg q12] at h
        refine z_iload X dd_Collector_addTo_58 0 rfl ?_
        refine z_bipush (v := 21) X dd_Collector_addTo_60 (by decide) ?_
        refine z_icmp_ne (tgt := 86) X dd_Collector_addTo_62 (by decide) (fun q13 => ?_) (fun q13 => ?_)
        · rw [if_neg q13] at h
          refine z_iload X dd_Collector_addTo_86 0 rfl ?_
          refine z_bipush (v := 22) X dd_Collector_addTo_88 (by decide) ?_
          refine z_icmp_ne (tgt := 111) X dd_Collector_addTo_90 (by decide) (fun q14 => ?_) (fun q14 => ?_)
          · rw [if_neg q14] at h
            refine z_sub [2, 3, 4, 5] rfl ?_
            exact t_Collector_addTo_111 X H h k0 k1
          · rw [if_pos q14] at h
            refine z_aload_n X dd_Collector_addTo_93 rfl 2 rfl ?_
            obtain ⟨v15, ev15, h⟩ := zb h
            refine z_get (j := 3) X dd_Collector_addTo_94 kc_10 ki_10 (by decide) km_676 (zgr_v ev15) ?_
            refine z_iload_n X dd_Collector_addTo_97 rfl 5 rfl ?_
            refine z_aload_n X dd_Collector_addTo_98 rfl 2 rfl ?_
            obtain ⟨v16, ev16, h⟩ := zb h
            refine z_get (j := 3) X dd_Collector_addTo_99 kc_10 ki_10 (by decide) km_676 (zgr_v ev16) ?_
            refine z_iload_n X dd_Collector_addTo_102 rfl 5 rfl ?_
            obtain ⟨v17, ev17, h⟩ := zb h
            refine z_laload X dd_Collector_addTo_103 rfl ev17 ?_
            refine z_iload X dd_Collector_addTo_104 1 rfl ?_
            refine z_i2l X dd_Collector_addTo_106 ?_
            obtain ⟨q18, eq18, h⟩ := zb h
            refine z_callSl X [.long v17, .long (Int32.toInt64 q4.1)] rfl dd_Collector_addTo_107 (c_Math_max_1 l eq18) (va_cwS 2 X.1.2.2.2.2 (zg_S km_1476 km_1477 km_139 km_1478) rfl rfl rfl (by decide +kernel) ⟨Nat.le_of_ble_eq_true rfl, Nat.le_of_ble_eq_true rfl⟩) rfl (Nat.le_of_ble_eq_true rfl) ⟨Nat.le_of_ble_eq_true rfl, Nat.le_of_ble_eq_true rfl⟩ ?_
            obtain ⟨c19, ec19, h⟩ := zb h
            refine z_lastore X dd_Collector_addTo_110 rfl ec19 ?_
            refine z_sub [2, 3, 4, 5] rfl ?_
            exact t_Collector_addTo_111 X H h k0 k1
        · rw [if_pos q13] at h
          refine z_aload_n X dd_Collector_addTo_65 rfl 2 rfl ?_
          obtain ⟨v20, ev20, h⟩ := zb h
          refine z_get (j := 3) X dd_Collector_addTo_66 kc_10 ki_10 (by decide) km_676 (zgr_v ev20) ?_
          refine z_iload_n X dd_Collector_addTo_69 rfl 5 rfl ?_
          refine z_aload_n X dd_Collector_addTo_70 rfl 2 rfl ?_
          obtain ⟨v21, ev21, h⟩ := zb h
          refine z_get (j := 3) X dd_Collector_addTo_71 kc_10 ki_10 (by decide) km_676 (zgr_v ev21) ?_
          refine z_iload_n X dd_Collector_addTo_74 rfl 5 rfl ?_
          obtain ⟨v22, ev22, h⟩ := zb h
          refine z_laload X dd_Collector_addTo_75 rfl ev22 ?_
          refine z_iload X dd_Collector_addTo_76 1 rfl ?_
          refine z_i2l X dd_Collector_addTo_78 ?_
          obtain ⟨q23, eq23, h⟩ := zb h
          refine z_callSl X [.long v22, .long (Int32.toInt64 q4.1)] rfl dd_Collector_addTo_79 (c_Math_min_1 l eq23) (va_cwS 2 X.1.2.2.2.2 (zg_S km_1473 km_1474 km_139 km_1475) rfl rfl rfl (by decide +kernel) ⟨Nat.le_of_ble_eq_true rfl, Nat.le_of_ble_eq_true rfl⟩) rfl (Nat.le_of_ble_eq_true rfl) ⟨Nat.le_of_ble_eq_true rfl, Nat.le_of_ble_eq_true rfl⟩ ?_
          obtain ⟨c24, ec24, h⟩ := zb h
          refine z_lastore X dd_Collector_addTo_82 rfl ec24 ?_
          refine z_goto (tgt := 111) X dd_Collector_addTo_83 (by decide) ?_
          refine z_sub [2, 3, 4, 5] rfl ?_
          exact t_Collector_addTo_111 X H h k0 k1
      · rw [if_pos q12] at h
        refine z_sub [2, 3, 4, 5, 1] rfl ?_
        exact t_Collector_addTo_43 X H h k0 k1
set_option maxRecDepth 100000 in
set_option maxHeartbeats 4000000 in
theorem t_Collector_addTo_2  (X : zX p s m args cd D cid B bb_Collector_addTo 6 rr_Collector zT) (H : zH s meth B n0 none "addTo") {nf : Nat} {x0 : Nat} {x1 : Nat} {x2 : Int32} {x3 : Int32} {c : Zc} {res : Zc} (h : f_Collector_addTo_2 nf x0 x1 x2 x3 c = some res) : Zz p l e (zRm 1 23 0 0) s m args below meth cd (MQ below (zQv D cid B res n0 0) args s 0 0 (fun q => B ≤ q)) D cid B 6 0 0 c 2 [(0, .ref x0), (1, .ref x1), (2, .int x2), (3, .int x3)] [] := by
  unfold f_Collector_addTo_2 at h
  obtain ⟨b, eb, h⟩ := zb h
  refine zlp_ok (P := fun a : Nat × Nat × Int32 × Int32 × Zc => Zz p l e (zRm 1 23 0 0) s m args below meth cd _ D cid B 6 0 0 a.2.2.2.2 2 [(0, .ref a.1), (1, .ref a.2.1), (2, .int a.2.2.1), (3, .int a.2.2.2.1)] []) (G := fun b : Zc => Zz p l e (zRm 1 23 0 0) s m args below meth cd _ D cid B 6 0 0 b 117 [] []) (fun a r ha k0 k1 => u_Collector_addTo_2 X H ha k0 k1) nf _ b eb ?_
  obtain rfl := Option.some.inj h
  exact z_vret X H.1 H.2.1 H.2.2.1 dd_Collector_addTo_117
set_option maxRecDepth 100000 in
set_option maxHeartbeats 4000000 in
theorem c_Collector_addTo (l : Launch) {nf : Nat} {a0 : Nat} {a1 : Nat} {a2 : Int32} {c : Zc} {res : Zc} (h : f_Collector_addTo nf a0 a1 a2 c = some res) : zM l yy_Collector_addTo ww_Collector_addTo 1 23 0 0 [.ref a0, .ref a1, .int a2] c (fun D cid B => zQv D cid B res c.length 0) := by
  refine z_met (cc := bb_Collector_addTo) (maxL := 6) (ret := none) (by decide +kernel) rfl (Nat.le_of_ble_eq_true rfl) ?_
  intro p e s m args below meth cd D cid B X h1 h2 h3 h4
  have X : zX p s m args cd D cid B bb_Collector_addTo 6 rr_Collector zT := X
  have H : zH s meth B c.length none "addTo" := ⟨h1, h2, h4, h3⟩
  unfold f_Collector_addTo at h
  show Zz p l e (zRm 1 23 0 0) s m args below meth cd _ D cid B 6 0 0 c 0 [(0, .ref a0), (1, .ref a1), (2, .int a2)] []
  refine z_iconst (v := 0) X dd_Collector_addTo_0 (by decide) ?_
  refine z_istore_n (lv' := [(3, .int 0), (0, .ref a0), (1, .ref a1), (2, .int a2)]) X dd_Collector_addTo_1 rfl (by decide) rfl ?_
  refine z_sub [1, 2, 3, 0] rfl ?_
  exact t_Collector_addTo_2 X H h
theorem dd_PQ_append_0 : decode bb_PQ_append 0 = .ok (.bipush 24, 2) := by decide +kernel
theorem dd_PQ_append_2 : decode bb_PQ_append 2 = .ok (.istore_n 2, 1) := by decide +kernel
theorem dd_PQ_append_3 : decode bb_PQ_append 3 = .ok (.iload_n 2, 1) := by decide +kernel
theorem dd_PQ_append_4 : decode bb_PQ_append 4 = .ok (.ifCond .lt 42, 3) := by decide +kernel
theorem dd_PQ_append_7 : decode bb_PQ_append 7 = .ok (.aload_n 0, 1) := by decide +kernel
theorem dd_PQ_append_8 : decode bb_PQ_append 8 = .ok (.getfield 77, 3) := by decide +kernel
theorem dd_PQ_append_11 : decode bb_PQ_append 11 = .ok (.sipush 1500, 3) := by decide +kernel
theorem dd_PQ_append_14 : decode bb_PQ_append 14 = .ok (.if_icmp .ge 32, 3) := by decide +kernel
theorem dd_PQ_append_17 : decode bb_PQ_append 17 = .ok (.aload_n 0, 1) := by decide +kernel
theorem dd_PQ_append_18 : decode bb_PQ_append 18 = .ok (.getfield 9, 3) := by decide +kernel
theorem dd_PQ_append_21 : decode bb_PQ_append 21 = .ok (.aload_n 0, 1) := by decide +kernel
theorem dd_PQ_append_22 : decode bb_PQ_append 22 = .ok (.getfield 77, 3) := by decide +kernel
theorem dd_PQ_append_25 : decode bb_PQ_append 25 = .ok (.iload_n 1, 1) := by decide +kernel
theorem dd_PQ_append_26 : decode bb_PQ_append 26 = .ok (.iload_n 2, 1) := by decide +kernel
theorem dd_PQ_append_27 : decode bb_PQ_append 27 = .ok (.ishr, 1) := by decide +kernel
theorem dd_PQ_append_28 : decode bb_PQ_append 28 = .ok (.i2b, 1) := by decide +kernel
theorem dd_PQ_append_29 : decode bb_PQ_append 29 = .ok (.bastore, 1) := by decide +kernel
theorem dd_PQ_append_30 : decode bb_PQ_append 30 = .ok (.aload_n 0, 1) := by decide +kernel
theorem dd_PQ_append_31 : decode bb_PQ_append 31 = .ok (.dup, 1) := by decide +kernel
theorem dd_PQ_append_32 : decode bb_PQ_append 32 = .ok (.getfield 77, 3) := by decide +kernel
theorem dd_PQ_append_35 : decode bb_PQ_append 35 = .ok (.iconst 1, 1) := by decide +kernel
theorem dd_PQ_append_36 : decode bb_PQ_append 36 = .ok (.iadd, 1) := by decide +kernel
theorem dd_PQ_append_37 : decode bb_PQ_append 37 = .ok (.putfield 77, 3) := by decide +kernel
theorem dd_PQ_append_40 : decode bb_PQ_append 40 = .ok (.iinc 2 (-8), 3) := by decide +kernel
theorem dd_PQ_append_43 : decode bb_PQ_append 43 = .ok (.goto (-40), 3) := by decide +kernel
theorem dd_PQ_append_46 : decode bb_PQ_append 46 = .ok (.return_, 1) := by decide +kernel
def g_PQ_append_3 (nf : Nat) (x0 : Nat) (x1 : Int32) (x2 : Int32) (c : Zc) : Option ((Nat × Int32 × Int32 × Zc) ⊕ (Zc)) :=
  if x2 < 0 then (some (.inr c)) else ((zgi c x0 11 10).bind fun v2 => if 1500 ≤ v2 then (some (.inr c)) else ((zgr c x0 11 0).bind fun v4 => (zgi c x0 11 10).bind fun v5 => (zsi c v4 1 v5 (vp_nar .byte (Int8.toInt32 (Int32.toInt8 (x1 >>> (x2 &&& 31)))))).bind fun c6 => (zgi c6 x0 11 10).bind fun v7 => (zpv c6 x0 11 10 (.int (v7 + 1))).bind fun c8 => some (.inl (x0, x1, (x2 + (-8)), c8))))
def f_PQ_append_46 (nf : Nat)  (c : Zc) : Option (Zc) :=
  some c
def f_PQ_append_3 (nf : Nat) (x0 : Nat) (x1 : Int32) (x2 : Int32) (c : Zc) : Option (Zc) :=
  (zlp (fun a => g_PQ_append_3 nf a.1 a.2.1 a.2.2.1 a.2.2.2) nf (x0, x1, x2, c)).bind fun b => f_PQ_append_46 nf  b
def f_PQ_append (nf : Nat) (a0 : Nat) (a1 : Int32) (c : Zc) : Option (Zc) :=
  f_PQ_append_3 nf a0 a1 24 c
set_option maxRecDepth 100000 in
set_option maxHeartbeats 4000000 in
theorem u_PQ_append_3  (X : zX p s m args cd D cid B bb_PQ_append 3 rr_PQ zT) (H : zH s meth B n0 none "append") {nf : Nat} {x0 : Nat} {x1 : Int32} {x2 : Int32} {c : Zc} {r : (Nat × Int32 × Int32 × Zc) ⊕ (Zc)} (h : g_PQ_append_3 nf x0 x1 x2 c = some r) (k0 : ∀ a, r = .inl a → (fun a : Nat × Int32 × Int32 × Zc => Zz p l e (zRm 0 0 0 0) s m args below meth cd Q D cid B 3 0 0 a.2.2.2 3 [(0, .ref a.1), (1, .int a.2.1), (2, .int a.2.2.1)] []) a) (k1 : ∀ b, r = .inr b → (fun b : Zc => Zz p l e (zRm 0 0 0 0) s m args below meth cd Q D cid B 3 0 0 b 46 [] []) b) : Zz p l e (zRm 0 0 0 0) s m args below meth cd Q D cid B 3 0 0 c 3 [(0, .ref x0), (1, .int x1), (2, .int x2)] [] := by
  unfold g_PQ_append_3 at h
  refine z_iload_n X dd_PQ_append_3 rfl 2 rfl ?_
  refine z_if_lt (tgt := 46) X dd_PQ_append_4 (by decide) (fun q1 => ?_) (fun q1 => ?_)
  · rw [if_pos q1] at h
    refine z_sub [] rfl ?_
    obtain rfl := Option.some.inj h
    exact k1 _ rfl
  · rw [if_neg q1] at h
    refine z_aload_n X dd_PQ_append_7 rfl 0 rfl ?_
    obtain ⟨v2, ev2, h⟩ := zb h
    refine z_get (j := 10) X dd_PQ_append_8 kc_11 ki_11 (by decide) km_699 (zgi_v ev2) ?_
    refine z_sipush (v := 1500) X dd_PQ_append_11 (by decide) ?_
    refine z_icmp_ge (tgt := 46) X dd_PQ_append_14 (by decide) (fun q3 => ?_) (fun q3 => ?_)
    · rw [if_pos q3] at h
      refine z_sub [] rfl ?_
      obtain rfl := Option.some.inj h
      exact k1 _ rfl
    · rw [if_neg q3] at h
      refine z_aload_n X dd_PQ_append_17 rfl 0 rfl ?_
      obtain ⟨v4, ev4, h⟩ := zb h
      refine z_get (j := 0) X dd_PQ_append_18 kc_11 ki_11 (by decide) km_689 (zgr_v ev4) ?_
      refine z_aload_n X dd_PQ_append_21 rfl 0 rfl ?_
      obtain ⟨v5, ev5, h⟩ := zb h
      refine z_get (j := 10) X dd_PQ_append_22 kc_11 ki_11 (by decide) km_699 (zgi_v ev5) ?_
      refine z_iload_n X dd_PQ_append_25 rfl 1 rfl ?_
      refine z_iload_n X dd_PQ_append_26 rfl 2 rfl ?_
      refine z_ishr X dd_PQ_append_27 ?_
      refine z_i2b X dd_PQ_append_28 ?_
      obtain ⟨c6, ec6, h⟩ := zb h
      refine z_bastore X dd_PQ_append_29 rfl ec6 ?_
      refine z_aload_n X dd_PQ_append_30 rfl 0 rfl ?_
      refine z_dup X dd_PQ_append_31 rfl ?_
      obtain ⟨v7, ev7, h⟩ := zb h
      refine z_get (j := 10) X dd_PQ_append_32 kc_11 ki_11 (by decide) km_699 (zgi_v ev7) ?_
      refine z_iconst (v := 1) X dd_PQ_append_35 (by decide) ?_
      refine z_iadd X dd_PQ_append_36 ?_
      obtain ⟨c8, ec8, h⟩ := zb h
      refine z_put (j := 10) X dd_PQ_append_37 kc_11 ki_11 tt_PQ tk_PQ nn_PQ (by decide) km_699 rfl (tk_PQ 10 (by decide)) rfl rfl ec8 ?_
      refine z_iinc (v := (x2 + (-8))) (lv' := [(2, .int (x2 + (-8))), (0, .ref x0), (1, .int x1)]) X dd_PQ_append_40 2 rfl rfl (by decide) rfl ?_
      refine z_goto (tgt := 3) X dd_PQ_append_43 (by decide) ?_
      refine z_sub [1, 2, 0] rfl ?_
      obtain rfl := Option.some.inj h
      exact k0 _ rfl
set_option maxRecDepth 100000 in
set_option maxHeartbeats 4000000 in
theorem t_PQ_append_46  (X : zX p s m args cd D cid B bb_PQ_append 3 rr_PQ zT) (H : zH s meth B n0 none "append") {nf : Nat}  {c : Zc} {res : Zc} (h : f_PQ_append_46 nf  c = some res) : Zz p l e (zRm 0 0 0 0) s m args below meth cd (MQ below (zQv D cid B res n0 0) args s 0 0 (fun q => B ≤ q)) D cid B 3 0 0 c 46 [] [] := by
  unfold f_PQ_append_46 at h
  obtain rfl := Option.some.inj h
  exact z_vret X H.1 H.2.1 H.2.2.1 dd_PQ_append_46
set_option maxRecDepth 100000 in
set_option maxHeartbeats 4000000 in
theorem t_PQ_append_3  (X : zX p s m args cd D cid B bb_PQ_append 3 rr_PQ zT) (H : zH s meth B n0 none "append") {nf : Nat} {x0 : Nat} {x1 : Int32} {x2 : Int32} {c : Zc} {res : Zc} (h : f_PQ_append_3 nf x0 x1 x2 c = some res) : Zz p l e (zRm 0 0 0 0) s m args below meth cd (MQ below (zQv D cid B res n0 0) args s 0 0 (fun q => B ≤ q)) D cid B 3 0 0 c 3 [(0, .ref x0), (1, .int x1), (2, .int x2)] [] := by
  unfold f_PQ_append_3 at h
  obtain ⟨b, eb, h⟩ := zb h
  refine zlp_ok (P := fun a : Nat × Int32 × Int32 × Zc => Zz p l e (zRm 0 0 0 0) s m args below meth cd _ D cid B 3 0 0 a.2.2.2 3 [(0, .ref a.1), (1, .int a.2.1), (2, .int a.2.2.1)] []) (G := fun b : Zc => Zz p l e (zRm 0 0 0 0) s m args below meth cd _ D cid B 3 0 0 b 46 [] []) (fun a r ha k0 k1 => u_PQ_append_3 X H ha k0 k1) nf _ b eb ?_
  exact t_PQ_append_46 X H h
set_option maxRecDepth 100000 in
set_option maxHeartbeats 4000000 in
theorem c_PQ_append (l : Launch) {nf : Nat} {a0 : Nat} {a1 : Int32} {c : Zc} {res : Zc} (h : f_PQ_append nf a0 a1 c = some res) : zM l yy_PQ_append ww_PQ_append 0 0 0 0 [.ref a0, .int a1] c (fun D cid B => zQv D cid B res c.length 0) := by
  refine z_met (cc := bb_PQ_append) (maxL := 3) (ret := none) (by decide +kernel) rfl (Nat.le_of_ble_eq_true rfl) ?_
  intro p e s m args below meth cd D cid B X h1 h2 h3 h4
  have X : zX p s m args cd D cid B bb_PQ_append 3 rr_PQ zT := X
  have H : zH s meth B c.length none "append" := ⟨h1, h2, h4, h3⟩
  unfold f_PQ_append at h
  show Zz p l e (zRm 0 0 0 0) s m args below meth cd _ D cid B 3 0 0 c 0 [(0, .ref a0), (1, .int a1)] []
  refine z_bipush (v := 24) X dd_PQ_append_0 (by decide) ?_
  refine z_istore_n (lv' := [(2, .int 24), (0, .ref a0), (1, .int a1)]) X dd_PQ_append_2 rfl (by decide) rfl ?_
  refine z_sub [1, 2, 0] rfl ?_
  exact t_PQ_append_3 X H h
theorem dd_PQ_feed_0 : decode bb_PQ_feed 0 = .ok (.aload_n 0, 1) := by decide +kernel
theorem dd_PQ_feed_1 : decode bb_PQ_feed 1 = .ok (.getfield 77, 3) := by decide +kernel
theorem dd_PQ_feed_4 : decode bb_PQ_feed 4 = .ok (.bipush 20, 2) := by decide +kernel
theorem dd_PQ_feed_6 : decode bb_PQ_feed 6 = .ok (.iadd, 1) := by decide +kernel
theorem dd_PQ_feed_7 : decode bb_PQ_feed 7 = .ok (.sipush 1500, 3) := by decide +kernel
theorem dd_PQ_feed_10 : decode bb_PQ_feed 10 = .ok (.if_icmp .le 6, 3) := by decide +kernel
theorem dd_PQ_feed_13 : decode bb_PQ_feed 13 = .ok (.bipush (-3), 2) := by decide +kernel
theorem dd_PQ_feed_15 : decode bb_PQ_feed 15 = .ok (.ireturn, 1) := by decide +kernel
theorem dd_PQ_feed_16 : decode bb_PQ_feed 16 = .ok (.aload_n 0, 1) := by decide +kernel
theorem dd_PQ_feed_17 : decode bb_PQ_feed 17 = .ok (.iload_n 1, 1) := by decide +kernel
theorem dd_PQ_feed_18 : decode bb_PQ_feed 18 = .ok (.invokevirtual 82, 3) := by decide +kernel
theorem dd_PQ_feed_21 : decode bb_PQ_feed 21 = .ok (.aload_n 0, 1) := by decide +kernel
theorem dd_PQ_feed_22 : decode bb_PQ_feed 22 = .ok (.iload_n 2, 1) := by decide +kernel
theorem dd_PQ_feed_23 : decode bb_PQ_feed 23 = .ok (.invokevirtual 82, 3) := by decide +kernel
theorem dd_PQ_feed_26 : decode bb_PQ_feed 26 = .ok (.aload_n 0, 1) := by decide +kernel
theorem dd_PQ_feed_27 : decode bb_PQ_feed 27 = .ok (.iload_n 3, 1) := by decide +kernel
theorem dd_PQ_feed_28 : decode bb_PQ_feed 28 = .ok (.invokevirtual 82, 3) := by decide +kernel
theorem dd_PQ_feed_31 : decode bb_PQ_feed 31 = .ok (.aload_n 0, 1) := by decide +kernel
theorem dd_PQ_feed_32 : decode bb_PQ_feed 32 = .ok (.iload 4, 2) := by decide +kernel
theorem dd_PQ_feed_34 : decode bb_PQ_feed 34 = .ok (.invokevirtual 82, 3) := by decide +kernel
theorem dd_PQ_feed_37 : decode bb_PQ_feed 37 = .ok (.aload_n 0, 1) := by decide +kernel
theorem dd_PQ_feed_38 : decode bb_PQ_feed 38 = .ok (.iload 5, 2) := by decide +kernel
theorem dd_PQ_feed_40 : decode bb_PQ_feed 40 = .ok (.invokevirtual 82, 3) := by decide +kernel
theorem dd_PQ_feed_43 : decode bb_PQ_feed 43 = .ok (.aload_n 0, 1) := by decide +kernel
theorem dd_PQ_feed_44 : decode bb_PQ_feed 44 = .ok (.getfield 77, 3) := by decide +kernel
theorem dd_PQ_feed_47 : decode bb_PQ_feed 47 = .ok (.ireturn, 1) := by decide +kernel
def f_PQ_feed (nf : Nat) (a0 : Nat) (a1 : Int32) (a2 : Int32) (a3 : Int32) (a4 : Int32) (a5 : Int32) (c : Zc) : Option (Int32 × Zc) :=
  (zgi c a0 11 10).bind fun v1 => if (v1 + 20) ≤ 1500 then ((zob c a0 11).bind fun w4 => (f_PQ_append nf a0 a1 c).bind fun q3 => (zob q3 a0 11).bind fun w6 => (f_PQ_append nf a0 a2 q3).bind fun q5 => (zob q5 a0 11).bind fun w8 => (f_PQ_append nf a0 a3 q5).bind fun q7 => (zob q7 a0 11).bind fun w10 => (f_PQ_append nf a0 a4 q7).bind fun q9 => (zob q9 a0 11).bind fun w12 => (f_PQ_append nf a0 a5 q9).bind fun q11 => (zgi q11 a0 11 10).bind fun v13 => some (v13, q11)) else (some ((-3), c))
set_option maxRecDepth 100000 in
set_option maxHeartbeats 4000000 in
theorem c_PQ_feed (l : Launch) {nf : Nat} {a0 : Nat} {a1 : Int32} {a2 : Int32} {a3 : Int32} {a4 : Int32} {a5 : Int32} {c : Zc} {res : Int32 × Zc} (h : f_PQ_feed nf a0 a1 a2 a3 a4 a5 c = some res) : zM l yy_PQ_feed ww_PQ_feed 1 22 0 0 [.ref a0, .int a1, .int a2, .int a3, .int a4, .int a5] c (fun D cid B => zQi D cid B res.1 res.2 c.length 0) := by
  refine z_met (cc := bb_PQ_feed) (maxL := 6) (ret := (some (.int))) (by decide +kernel) rfl (Nat.le_of_ble_eq_true rfl) ?_
  intro p e s m args below meth cd D cid B X h1 h2 h3 h4
  have X : zX p s m args cd D cid B bb_PQ_feed 6 rr_PQ zT := X
  have H : zH s meth B c.length (some (.int)) "feed" := ⟨h1, h2, h4, h3⟩
  unfold f_PQ_feed at h
  show Zz p l e (zRm 1 22 0 0) s m args below meth cd _ D cid B 6 0 0 c 0 [(0, .ref a0), (1, .int a1), (2, .int a2), (3, .int a3), (4, .int a4), (5, .int a5)] []
  refine z_aload_n X dd_PQ_feed_0 rfl 0 rfl ?_
  obtain ⟨v1, ev1, h⟩ := zb h
  refine z_get (j := 10) X dd_PQ_feed_1 kc_11 ki_11 (by decide) km_699 (zgi_v ev1) ?_
  refine z_bipush (v := 20) X dd_PQ_feed_4 (by decide) ?_
  refine z_iadd X dd_PQ_feed_6 ?_
  refine z_sipush (v := 1500) X dd_PQ_feed_7 (by decide) ?_
  refine z_icmp_le (tgt := 16) X dd_PQ_feed_10 (by decide) (fun q2 => ?_) (fun q2 => ?_)
  · rw [if_pos q2] at h
    refine z_aload_n X dd_PQ_feed_16 rfl 0 rfl ?_
    refine z_iload_n X dd_PQ_feed_17 rfl 1 rfl ?_
    obtain ⟨w4, ew4, h⟩ := zb h
    obtain ⟨q3, eq3, h⟩ := zb h
    refine z_callVv X [.int a1] rfl dd_PQ_feed_18 (c_PQ_append l eq3) (cwV 1 X.1.2.2.2.2 (zg_V km_727 km_729 km_0 km_125 km_730) rfl rfl rfl (by decide +kernel) ⟨Nat.le_of_ble_eq_true rfl, Nat.le_of_ble_eq_true rfl⟩) (zob_s ew4) kc_11 rfl (Nat.le_of_ble_eq_true rfl) ⟨Nat.le_of_ble_eq_true rfl, Nat.le_of_ble_eq_true rfl⟩ ?_
    refine z_aload_n X dd_PQ_feed_21 rfl 0 rfl ?_
    refine z_iload_n X dd_PQ_feed_22 rfl 2 rfl ?_
    obtain ⟨w6, ew6, h⟩ := zb h
    obtain ⟨q5, eq5, h⟩ := zb h
    refine z_callVv X [.int a2] rfl dd_PQ_feed_23 (c_PQ_append l eq5) (cwV 1 X.1.2.2.2.2 (zg_V km_727 km_729 km_0 km_125 km_730) rfl rfl rfl (by decide +kernel) ⟨Nat.le_of_ble_eq_true rfl, Nat.le_of_ble_eq_true rfl⟩) (zob_s ew6) kc_11 rfl (Nat.le_of_ble_eq_true rfl) ⟨Nat.le_of_ble_eq_true rfl, Nat.le_of_ble_eq_true rfl⟩ ?_
    refine z_aload_n X dd_PQ_feed_26 rfl 0 rfl ?_
    refine z_iload_n X dd_PQ_feed_27 rfl 3 rfl ?_
    obtain ⟨w8, ew8, h⟩ := zb h
    obtain ⟨q7, eq7, h⟩ := zb h
    refine z_callVv X [.int a3] rfl dd_PQ_feed_28 (c_PQ_append l eq7) (cwV 1 X.1.2.2.2.2 (zg_V km_727 km_729 km_0 km_125 km_730) rfl rfl rfl (by decide +kernel) ⟨Nat.le_of_ble_eq_true rfl, Nat.le_of_ble_eq_true rfl⟩) (zob_s ew8) kc_11 rfl (Nat.le_of_ble_eq_true rfl) ⟨Nat.le_of_ble_eq_true rfl, Nat.le_of_ble_eq_true rfl⟩ ?_
    refine z_aload_n X dd_PQ_feed_31 rfl 0 rfl ?_
    refine z_iload X dd_PQ_feed_32 4 rfl ?_
    obtain ⟨w10, ew10, h⟩ := zb h
    obtain ⟨q9, eq9, h⟩ := zb h
    refine z_callVv X [.int a4] rfl dd_PQ_feed_34 (c_PQ_append l eq9) (cwV 1 X.1.2.2.2.2 (zg_V km_727 km_729 km_0 km_125 km_730) rfl rfl rfl (by decide +kernel) ⟨Nat.le_of_ble_eq_true rfl, Nat.le_of_ble_eq_true rfl⟩) (zob_s ew10) kc_11 rfl (Nat.le_of_ble_eq_true rfl) ⟨Nat.le_of_ble_eq_true rfl, Nat.le_of_ble_eq_true rfl⟩ ?_
    refine z_aload_n X dd_PQ_feed_37 rfl 0 rfl ?_
    refine z_iload X dd_PQ_feed_38 5 rfl ?_
    obtain ⟨w12, ew12, h⟩ := zb h
    obtain ⟨q11, eq11, h⟩ := zb h
    refine z_callVv X [.int a5] rfl dd_PQ_feed_40 (c_PQ_append l eq11) (cwV 1 X.1.2.2.2.2 (zg_V km_727 km_729 km_0 km_125 km_730) rfl rfl rfl (by decide +kernel) ⟨Nat.le_of_ble_eq_true rfl, Nat.le_of_ble_eq_true rfl⟩) (zob_s ew12) kc_11 rfl (Nat.le_of_ble_eq_true rfl) ⟨Nat.le_of_ble_eq_true rfl, Nat.le_of_ble_eq_true rfl⟩ ?_
    refine z_aload_n X dd_PQ_feed_43 rfl 0 rfl ?_
    obtain ⟨v13, ev13, h⟩ := zb h
    refine z_get (j := 10) X dd_PQ_feed_44 kc_11 ki_11 (by decide) km_699 (zgi_v ev13) ?_
    obtain rfl := Option.some.inj h
    exact z_iret X H.1 H.2.1 H.2.2.1 dd_PQ_feed_47
  · rw [if_neg q2] at h
    refine z_bipush (v := (-3)) X dd_PQ_feed_13 (by decide) ?_
    obtain rfl := Option.some.inj h
    exact z_iret X H.1 H.2.1 H.2.2.1 dd_PQ_feed_15
theorem dd_PQ_cut_0 : decode bb_PQ_cut 0 = .ok (.iload_n 1, 1) := by decide +kernel
theorem dd_PQ_cut_1 : decode bb_PQ_cut 1 = .ok (.ifCond .lt 11, 3) := by decide +kernel
theorem dd_PQ_cut_4 : decode bb_PQ_cut 4 = .ok (.iload_n 1, 1) := by decide +kernel
theorem dd_PQ_cut_5 : decode bb_PQ_cut 5 = .ok (.aload_n 0, 1) := by decide +kernel
theorem dd_PQ_cut_6 : decode bb_PQ_cut 6 = .ok (.getfield 77, 3) := by decide +kernel
theorem dd_PQ_cut_9 : decode bb_PQ_cut 9 = .ok (.if_icmp .le 5, 3) := by decide +kernel
theorem dd_PQ_cut_12 : decode bb_PQ_cut 12 = .ok (.iconst (-1), 1) := by decide +kernel
theorem dd_PQ_cut_13 : decode bb_PQ_cut 13 = .ok (.ireturn, 1) := by decide +kernel
theorem dd_PQ_cut_14 : decode bb_PQ_cut 14 = .ok (.aload_n 0, 1) := by decide +kernel
theorem dd_PQ_cut_15 : decode bb_PQ_cut 15 = .ok (.dup, 1) := by decide +kernel
theorem dd_PQ_cut_16 : decode bb_PQ_cut 16 = .ok (.getfield 77, 3) := by decide +kernel
theorem dd_PQ_cut_19 : decode bb_PQ_cut 19 = .ok (.iload_n 1, 1) := by decide +kernel
theorem dd_PQ_cut_20 : decode bb_PQ_cut 20 = .ok (.isub, 1) := by decide +kernel
theorem dd_PQ_cut_21 : decode bb_PQ_cut 21 = .ok (.putfield 77, 3) := by decide +kernel
theorem dd_PQ_cut_24 : decode bb_PQ_cut 24 = .ok (.aload_n 0, 1) := by decide +kernel
theorem dd_PQ_cut_25 : decode bb_PQ_cut 25 = .ok (.getfield 77, 3) := by decide +kernel
theorem dd_PQ_cut_28 : decode bb_PQ_cut 28 = .ok (.ireturn, 1) := by decide +kernel
def f_PQ_cut_12 (nf : Nat)  (c : Zc) : Option (Int32 × Zc) :=
  some ((-1), c)
def f_PQ_cut (nf : Nat) (a0 : Nat) (a1 : Int32) (c : Zc) : Option (Int32 × Zc) :=
  if a1 < 0 then (f_PQ_cut_12 nf  c) else ((zgi c a0 11 10).bind fun v2 => if a1 ≤ v2 then ((zgi c a0 11 10).bind fun v4 => (zpv c a0 11 10 (.int (v4 - a1))).bind fun c5 => (zgi c5 a0 11 10).bind fun v6 => some (v6, c5)) else (f_PQ_cut_12 nf  c))
set_option maxRecDepth 100000 in
set_option maxHeartbeats 4000000 in
theorem t_PQ_cut_12  (X : zX p s m args cd D cid B bb_PQ_cut 2 rr_PQ zT) (H : zH s meth B n0 (some (.int)) "cut") {nf : Nat}  {c : Zc} {res : Int32 × Zc} (h : f_PQ_cut_12 nf  c = some res) : Zz p l e (zRm 0 0 0 0) s m args below meth cd (MQ below (zQi D cid B res.1 res.2 n0 0) args s 0 0 (fun q => B ≤ q)) D cid B 2 0 0 c 12 [] [] := by
  unfold f_PQ_cut_12 at h
  refine z_iconst (v := (-1)) X dd_PQ_cut_12 (by decide) ?_
  obtain rfl := Option.some.inj h
  exact z_iret X H.1 H.2.1 H.2.2.1 dd_PQ_cut_13
set_option maxRecDepth 100000 in
set_option maxHeartbeats 4000000 in
theorem c_PQ_cut (l : Launch) {nf : Nat} {a0 : Nat} {a1 : Int32} {c : Zc} {res : Int32 × Zc} (h : f_PQ_cut nf a0 a1 c = some res) : zM l yy_PQ_cut ww_PQ_cut 0 0 0 0 [.ref a0, .int a1] c (fun D cid B => zQi D cid B res.1 res.2 c.length 0) := by
  refine z_met (cc := bb_PQ_cut) (maxL := 2) (ret := (some (.int))) (by decide +kernel) rfl (Nat.le_of_ble_eq_true rfl) ?_
  intro p e s m args below meth cd D cid B X h1 h2 h3 h4
  have X : zX p s m args cd D cid B bb_PQ_cut 2 rr_PQ zT := X
  have H : zH s meth B c.length (some (.int)) "cut" := ⟨h1, h2, h4, h3⟩
  unfold f_PQ_cut at h
  show Zz p l e (zRm 0 0 0 0) s m args below meth cd _ D cid B 2 0 0 c 0 [(0, .ref a0), (1, .int a1)] []
  refine z_iload_n X dd_PQ_cut_0 rfl 1 rfl ?_
  refine z_if_lt (tgt := 12) X dd_PQ_cut_1 (by decide) (fun q1 => ?_) (fun q1 => ?_)
  · rw [if_pos q1] at h
    refine z_sub [] rfl ?_
    exact t_PQ_cut_12 X H h
  · rw [if_neg q1] at h
    refine z_iload_n X dd_PQ_cut_4 rfl 1 rfl ?_
    refine z_aload_n X dd_PQ_cut_5 rfl 0 rfl ?_
    obtain ⟨v2, ev2, h⟩ := zb h
    refine z_get (j := 10) X dd_PQ_cut_6 kc_11 ki_11 (by decide) km_699 (zgi_v ev2) ?_
    refine z_icmp_le (tgt := 14) X dd_PQ_cut_9 (by decide) (fun q3 => ?_) (fun q3 => ?_)
    · rw [if_pos q3] at h
      refine z_aload_n X dd_PQ_cut_14 rfl 0 rfl ?_
      refine z_dup X dd_PQ_cut_15 rfl ?_
      obtain ⟨v4, ev4, h⟩ := zb h
      refine z_get (j := 10) X dd_PQ_cut_16 kc_11 ki_11 (by decide) km_699 (zgi_v ev4) ?_
      refine z_iload_n X dd_PQ_cut_19 rfl 1 rfl ?_
      refine z_isub X dd_PQ_cut_20 ?_
      obtain ⟨c5, ec5, h⟩ := zb h
      refine z_put (j := 10) X dd_PQ_cut_21 kc_11 ki_11 tt_PQ tk_PQ nn_PQ (by decide) km_699 rfl (tk_PQ 10 (by decide)) rfl rfl ec5 ?_
      refine z_aload_n X dd_PQ_cut_24 rfl 0 rfl ?_
      obtain ⟨v6, ev6, h⟩ := zb h
      refine z_get (j := 10) X dd_PQ_cut_25 kc_11 ki_11 (by decide) km_699 (zgi_v ev6) ?_
      obtain rfl := Option.some.inj h
      exact z_iret X H.1 H.2.1 H.2.2.1 dd_PQ_cut_28
    · rw [if_neg q3] at h
      refine z_sub [] rfl ?_
      exact t_PQ_cut_12 X H h
theorem dd_PQ_node_0 : decode bb_PQ_node 0 = .ok (.iload_n 1, 1) := by decide +kernel
theorem dd_PQ_node_1 : decode bb_PQ_node 1 = .ok (.ifCond .lt 10, 3) := by decide +kernel
theorem dd_PQ_node_4 : decode bb_PQ_node 4 = .ok (.iload_n 1, 1) := by decide +kernel
theorem dd_PQ_node_5 : decode bb_PQ_node 5 = .ok (.sipush 256, 3) := by decide +kernel
theorem dd_PQ_node_8 : decode bb_PQ_node 8 = .ok (.if_icmp .lt 5, 3) := by decide +kernel
theorem dd_PQ_node_11 : decode bb_PQ_node 11 = .ok (.iconst (-1), 1) := by decide +kernel
theorem dd_PQ_node_12 : decode bb_PQ_node 12 = .ok (.ireturn, 1) := by decide +kernel
theorem dd_PQ_node_13 : decode bb_PQ_node 13 = .ok (.aload_n 0, 1) := by decide +kernel
theorem dd_PQ_node_14 : decode bb_PQ_node 14 = .ok (.getfield 16, 3) := by decide +kernel
theorem dd_PQ_node_17 : decode bb_PQ_node 17 = .ok (.iload_n 1, 1) := by decide +kernel
theorem dd_PQ_node_18 : decode bb_PQ_node 18 = .ok (.invokevirtual 86, 3) := by decide +kernel
theorem dd_PQ_node_21 : decode bb_PQ_node 21 = .ok (.ireturn, 1) := by decide +kernel
def f_PQ_node_11 (nf : Nat)  (c : Zc) : Option (Int32 × Zc) :=
  some ((-1), c)
def f_PQ_node (nf : Nat) (a0 : Nat) (a1 : Int32) (c : Zc) : Option (Int32 × Zc) :=
  if a1 < 0 then (f_PQ_node_11 nf  c) else (if a1 < 256 then ((zgr c a0 11 1).bind fun v3 => (zob c v3 0).bind fun w5 => (f_Graph_addNode nf v3 a1 c).bind fun q4 => some (q4.1, q4.2)) else (f_PQ_node_11 nf  c))
set_option maxRecDepth 100000 in
set_option maxHeartbeats 4000000 in
theorem t_PQ_node_11  (X : zX p s m args cd D cid B bb_PQ_node 2 rr_PQ zT) (H : zH s meth B n0 (some (.int)) "node") {nf : Nat}  {c : Zc} {res : Int32 × Zc} (h : f_PQ_node_11 nf  c = some res) : Zz p l e (zRm 1 21 0 0) s m args below meth cd (MQ below (zQi D cid B res.1 res.2 n0 0) args s 0 0 (fun q => B ≤ q)) D cid B 2 0 0 c 11 [] [] := by
  unfold f_PQ_node_11 at h
  refine z_iconst (v := (-1)) X dd_PQ_node_11 (by decide) ?_
  obtain rfl := Option.some.inj h
  exact z_iret X H.1 H.2.1 H.2.2.1 dd_PQ_node_12
set_option maxRecDepth 100000 in
set_option maxHeartbeats 4000000 in
theorem c_PQ_node (l : Launch) {nf : Nat} {a0 : Nat} {a1 : Int32} {c : Zc} {res : Int32 × Zc} (h : f_PQ_node nf a0 a1 c = some res) : zM l yy_PQ_node ww_PQ_node 1 21 0 0 [.ref a0, .int a1] c (fun D cid B => zQi D cid B res.1 res.2 c.length 0) := by
  refine z_met (cc := bb_PQ_node) (maxL := 2) (ret := (some (.int))) (by decide +kernel) rfl (Nat.le_of_ble_eq_true rfl) ?_
  intro p e s m args below meth cd D cid B X h1 h2 h3 h4
  have X : zX p s m args cd D cid B bb_PQ_node 2 rr_PQ zT := X
  have H : zH s meth B c.length (some (.int)) "node" := ⟨h1, h2, h4, h3⟩
  unfold f_PQ_node at h
  show Zz p l e (zRm 1 21 0 0) s m args below meth cd _ D cid B 2 0 0 c 0 [(0, .ref a0), (1, .int a1)] []
  refine z_iload_n X dd_PQ_node_0 rfl 1 rfl ?_
  refine z_if_lt (tgt := 11) X dd_PQ_node_1 (by decide) (fun q1 => ?_) (fun q1 => ?_)
  · rw [if_pos q1] at h
    refine z_sub [] rfl ?_
    exact t_PQ_node_11 X H h
  · rw [if_neg q1] at h
    refine z_iload_n X dd_PQ_node_4 rfl 1 rfl ?_
    refine z_sipush (v := 256) X dd_PQ_node_5 (by decide) ?_
    refine z_icmp_lt (tgt := 13) X dd_PQ_node_8 (by decide) (fun q2 => ?_) (fun q2 => ?_)
    · rw [if_pos q2] at h
      refine z_aload_n X dd_PQ_node_13 rfl 0 rfl ?_
      obtain ⟨v3, ev3, h⟩ := zb h
      refine z_get (j := 1) X dd_PQ_node_14 kc_11 ki_11 (by decide) km_690 (zgr_v ev3) ?_
      refine z_iload_n X dd_PQ_node_17 rfl 1 rfl ?_
      obtain ⟨w5, ew5, h⟩ := zb h
      obtain ⟨q4, eq4, h⟩ := zb h
      refine z_callVi X [.int a1] rfl dd_PQ_node_18 (c_Graph_addNode l eq4) (cwV 1 X.1.2.2.2.2 (zg_V km_739 km_740 km_741 km_126 km_742) rfl rfl rfl (by decide +kernel) ⟨Nat.le_of_ble_eq_true rfl, Nat.le_of_ble_eq_true rfl⟩) (zob_s ew5) kc_0 rfl (Nat.le_of_ble_eq_true rfl) ⟨Nat.le_of_ble_eq_true rfl, Nat.le_of_ble_eq_true rfl⟩ ?_
      obtain rfl := Option.some.inj h
      exact z_iret X H.1 H.2.1 H.2.2.1 dd_PQ_node_21
    · rw [if_neg q2] at h
      refine z_sub [] rfl ?_
      exact t_PQ_node_11 X H h
theorem dd_PQ_mark_0 : decode bb_PQ_mark 0 = .ok (.aload_n 0, 1) := by decide +kernel
theorem dd_PQ_mark_1 : decode bb_PQ_mark 1 = .ok (.getfield 16, 3) := by decide +kernel
theorem dd_PQ_mark_4 : decode bb_PQ_mark 4 = .ok (.iload_n 1, 1) := by decide +kernel
theorem dd_PQ_mark_5 : decode bb_PQ_mark 5 = .ok (.invokevirtual 90, 3) := by decide +kernel
theorem dd_PQ_mark_8 : decode bb_PQ_mark 8 = .ok (.ifCond .eq 14, 3) := by decide +kernel
theorem dd_PQ_mark_11 : decode bb_PQ_mark 11 = .ok (.iload_n 2, 1) := by decide +kernel
theorem dd_PQ_mark_12 : decode bb_PQ_mark 12 = .ok (.ifCond .lt 10, 3) := by decide +kernel
theorem dd_PQ_mark_15 : decode bb_PQ_mark 15 = .ok (.iload_n 2, 1) := by decide +kernel
theorem dd_PQ_mark_16 : decode bb_PQ_mark 16 = .ok (.sipush 256, 3) := by decide +kernel
theorem dd_PQ_mark_19 : decode bb_PQ_mark 19 = .ok (.if_icmp .lt 5, 3) := by decide +kernel
theorem dd_PQ_mark_22 : decode bb_PQ_mark 22 = .ok (.iconst (-1), 1) := by decide +kernel
theorem dd_PQ_mark_23 : decode bb_PQ_mark 23 = .ok (.ireturn, 1) := by decide +kernel
theorem dd_PQ_mark_24 : decode bb_PQ_mark 24 = .ok (.aload_n 0, 1) := by decide +kernel
theorem dd_PQ_mark_25 : decode bb_PQ_mark 25 = .ok (.getfield 16, 3) := by decide +kernel
theorem dd_PQ_mark_28 : decode bb_PQ_mark 28 = .ok (.iload_n 1, 1) := by decide +kernel
theorem dd_PQ_mark_29 : decode bb_PQ_mark 29 = .ok (.iload_n 2, 1) := by decide +kernel
theorem dd_PQ_mark_30 : decode bb_PQ_mark 30 = .ok (.invokevirtual 94, 3) := by decide +kernel
theorem dd_PQ_mark_33 : decode bb_PQ_mark 33 = .ok (.ireturn, 1) := by decide +kernel
def f_PQ_mark_22 (nf : Nat)  (c : Zc) : Option (Int32 × Zc) :=
  some ((-1), c)
def f_PQ_mark (nf : Nat) (a0 : Nat) (a1 : Int32) (a2 : Int32) (c : Zc) : Option (Int32 × Zc) :=
  (zgr c a0 11 1).bind fun v1 => (zob c v1 0).bind fun w3 => (f_Graph_isNode nf v1 a1 c).bind fun q2 => if q2.1 = 0 then (f_PQ_mark_22 nf  q2.2) else (if a2 < 0 then (f_PQ_mark_22 nf  q2.2) else (if a2 < 256 then ((zgr q2.2 a0 11 1).bind fun v7 => (zob q2.2 v7 0).bind fun w9 => (f_Graph_changeMarks nf v7 a1 a2 q2.2).bind fun q8 => some (q8.1, q8.2)) else (f_PQ_mark_22 nf  q2.2)))
set_option maxRecDepth 100000 in
set_option maxHeartbeats 4000000 in
theorem t_PQ_mark_22  (X : zX p s m args cd D cid B bb_PQ_mark 3 rr_PQ zT) (H : zH s meth B n0 (some (.int)) "mark") {nf : Nat}  {c : Zc} {res : Int32 × Zc} (h : f_PQ_mark_22 nf  c = some res) : Zz p l e (zRm 1 23 0 0) s m args below meth cd (MQ below (zQi D cid B res.1 res.2 n0 0) args s 0 0 (fun q => B ≤ q)) D cid B 3 0 0 c 22 [] [] := by
  unfold f_PQ_mark_22 at h
  refine z_iconst (v := (-1)) X dd_PQ_mark_22 (by decide) ?_
  obtain rfl := Option.some.inj h
  exact z_iret X H.1 H.2.1 H.2.2.1 dd_PQ_mark_23
set_option maxRecDepth 100000 in
set_option maxHeartbeats 4000000 in
theorem c_PQ_mark (l : Launch) {nf : Nat} {a0 : Nat} {a1 : Int32} {a2 : Int32} {c : Zc} {res : Int32 × Zc} (h : f_PQ_mark nf a0 a1 a2 c = some res) : zM l yy_PQ_mark ww_PQ_mark 1 23 0 0 [.ref a0, .int a1, .int a2] c (fun D cid B => zQi D cid B res.1 res.2 c.length 0) := by
  refine z_met (cc := bb_PQ_mark) (maxL := 3) (ret := (some (.int))) (by decide +kernel) rfl (Nat.le_of_ble_eq_true rfl) ?_
  intro p e s m args below meth cd D cid B X h1 h2 h3 h4
  have X : zX p s m args cd D cid B bb_PQ_mark 3 rr_PQ zT := X
  have H : zH s meth B c.length (some (.int)) "mark" := ⟨h1, h2, h4, h3⟩
  unfold f_PQ_mark at h
  show Zz p l e (zRm 1 23 0 0) s m args below meth cd _ D cid B 3 0 0 c 0 [(0, .ref a0), (1, .int a1), (2, .int a2)] []
  refine z_aload_n X dd_PQ_mark_0 rfl 0 rfl ?_
  obtain ⟨v1, ev1, h⟩ := zb h
  refine z_get (j := 1) X dd_PQ_mark_1 kc_11 ki_11 (by decide) km_690 (zgr_v ev1) ?_
  refine z_iload_n X dd_PQ_mark_4 rfl 1 rfl ?_
  obtain ⟨w3, ew3, h⟩ := zb h
  obtain ⟨q2, eq2, h⟩ := zb h
  refine z_callVi X [.int a1] rfl dd_PQ_mark_5 (c_Graph_isNode l eq2) (cwV 1 X.1.2.2.2.2 (zg_V km_747 km_748 km_749 km_126 km_750) rfl rfl rfl (by decide +kernel) ⟨Nat.le_of_ble_eq_true rfl, Nat.le_of_ble_eq_true rfl⟩) (zob_s ew3) kc_0 rfl (Nat.le_of_ble_eq_true rfl) ⟨Nat.le_of_ble_eq_true rfl, Nat.le_of_ble_eq_true rfl⟩ ?_
  refine z_if_eq (tgt := 22) X dd_PQ_mark_8 (by decide) (fun q4 => ?_) (fun q4 => ?_)
  · rw [if_pos q4] at h
    refine z_sub [] rfl ?_
    exact t_PQ_mark_22 X H h
  · rw [if_neg q4] at h
    refine z_iload_n X dd_PQ_mark_11 rfl 2 rfl ?_
    refine z_if_lt (tgt := 22) X dd_PQ_mark_12 (by decide) (fun q5 => ?_) (fun q5 => ?_)
    · rw [if_pos q5] at h
      refine z_sub [] rfl ?_
      exact t_PQ_mark_22 X H h
    · rw [if_neg q5] at h
      refine z_iload_n X dd_PQ_mark_15 rfl 2 rfl ?_
      refine z_sipush (v := 256) X dd_PQ_mark_16 (by decide) ?_
      refine z_icmp_lt (tgt := 24) X dd_PQ_mark_19 (by decide) (fun q6 => ?_) (fun q6 => ?_)
      · rw [if_pos q6] at h
        refine z_aload_n X dd_PQ_mark_24 rfl 0 rfl ?_
        obtain ⟨v7, ev7, h⟩ := zb h
        refine z_get (j := 1) X dd_PQ_mark_25 kc_11 ki_11 (by decide) km_690 (zgr_v ev7) ?_
        refine z_iload_n X dd_PQ_mark_28 rfl 1 rfl ?_
        refine z_iload_n X dd_PQ_mark_29 rfl 2 rfl ?_
        obtain ⟨w9, ew9, h⟩ := zb h
        obtain ⟨q8, eq8, h⟩ := zb h
        refine z_callVi X [.int a1, .int a2] rfl dd_PQ_mark_30 (c_Graph_changeMarks l eq8) (cwV 2 X.1.2.2.2.2 (zg_V km_751 km_752 km_753 km_126 km_754) rfl rfl rfl (by decide +kernel) ⟨Nat.le_of_ble_eq_true rfl, Nat.le_of_ble_eq_true rfl⟩) (zob_s ew9) kc_0 rfl (Nat.le_of_ble_eq_true rfl) ⟨Nat.le_of_ble_eq_true rfl, Nat.le_of_ble_eq_true rfl⟩ ?_
        obtain rfl := Option.some.inj h
        exact z_iret X H.1 H.2.1 H.2.2.1 dd_PQ_mark_33
      · rw [if_neg q6] at h
        refine z_sub [] rfl ?_
        exact t_PQ_mark_22 X H h
theorem dd_PQ_put_0 : decode bb_PQ_put 0 = .ok (.aload_n 0, 1) := by decide +kernel
theorem dd_PQ_put_1 : decode bb_PQ_put 1 = .ok (.getfield 16, 3) := by decide +kernel
theorem dd_PQ_put_4 : decode bb_PQ_put 4 = .ok (.iload_n 1, 1) := by decide +kernel
theorem dd_PQ_put_5 : decode bb_PQ_put 5 = .ok (.invokevirtual 90, 3) := by decide +kernel
theorem dd_PQ_put_8 : decode bb_PQ_put 8 = .ok (.ifCond .eq 16, 3) := by decide +kernel
theorem dd_PQ_put_11 : decode bb_PQ_put 11 = .ok (.iload_n 2, 1) := by decide +kernel
theorem dd_PQ_put_12 : decode bb_PQ_put 12 = .ok (.ifCond .lt 12, 3) := by decide +kernel
theorem dd_PQ_put_15 : decode bb_PQ_put 15 = .ok (.iload_n 2, 1) := by decide +kernel
theorem dd_PQ_put_16 : decode bb_PQ_put 16 = .ok (.iconst 4, 1) := by decide +kernel
theorem dd_PQ_put_17 : decode bb_PQ_put 17 = .ok (.if_icmp .ge 7, 3) := by decide +kernel
theorem dd_PQ_put_20 : decode bb_PQ_put 20 = .ok (.iconst 1, 1) := by decide +kernel
theorem dd_PQ_put_21 : decode bb_PQ_put 21 = .ok (.goto 4, 3) := by decide +kernel
theorem dd_PQ_put_24 : decode bb_PQ_put 24 = .ok (.iconst 0, 1) := by decide +kernel
theorem dd_PQ_put_25 : decode bb_PQ_put 25 = .ok (.istore 4, 2) := by decide +kernel
theorem dd_PQ_put_27 : decode bb_PQ_put 27 = .ok (.iload 4, 2) := by decide +kernel
theorem dd_PQ_put_29 : decode bb_PQ_put 29 = .ok (.ifCond .eq 17, 3) := by decide +kernel
theorem dd_PQ_put_32 : decode bb_PQ_put 32 = .ok (.iload_n 3, 1) := by decide +kernel
theorem dd_PQ_put_33 : decode bb_PQ_put 33 = .ok (.sipush (-9999), 3) := by decide +kernel
theorem dd_PQ_put_36 : decode bb_PQ_put 36 = .ok (.if_icmp .lt 10, 3) := by decide +kernel
theorem dd_PQ_put_39 : decode bb_PQ_put 39 = .ok (.iload_n 3, 1) := by decide +kernel
theorem dd_PQ_put_40 : decode bb_PQ_put 40 = .ok (.sipush 9999, 3) := by decide +kernel
theorem dd_PQ_put_43 : decode bb_PQ_put 43 = .ok (.if_icmp .le 7, 3) := by decide +kernel
theorem dd_PQ_put_46 : decode bb_PQ_put 46 = .ok (.sipush 10000, 3) := by decide +kernel
theorem dd_PQ_put_49 : decode bb_PQ_put 49 = .ok (.ireturn, 1) := by decide +kernel
theorem dd_PQ_put_50 : decode bb_PQ_put 50 = .ok (.aload_n 0, 1) := by decide +kernel
theorem dd_PQ_put_51 : decode bb_PQ_put 51 = .ok (.getfield 16, 3) := by decide +kernel
theorem dd_PQ_put_54 : decode bb_PQ_put 54 = .ok (.iload_n 1, 1) := by decide +kernel
theorem dd_PQ_put_55 : decode bb_PQ_put 55 = .ok (.iload_n 2, 1) := by decide +kernel
theorem dd_PQ_put_56 : decode bb_PQ_put 56 = .ok (.iload_n 3, 1) := by decide +kernel
theorem dd_PQ_put_57 : decode bb_PQ_put 57 = .ok (.invokevirtual 98, 3) := by decide +kernel
theorem dd_PQ_put_60 : decode bb_PQ_put 60 = .ok (.ireturn, 1) := by decide +kernel
def f_PQ_put_46 (nf : Nat)  (c : Zc) : Option (Int32 × Zc) :=
  some (10000, c)
def f_PQ_put_25 (nf : Nat) (x0 : Nat) (x1 : Int32) (x2 : Int32) (x3 : Int32) (s0 : Int32) (c : Zc) : Option (Int32 × Zc) :=
  if s0 = 0 then (f_PQ_put_46 nf  c) else (if x3 < (-9999) then (f_PQ_put_46 nf  c) else (if x3 ≤ 9999 then ((zgr c x0 11 1).bind fun v8 => (zob c v8 0).bind fun w10 => (f_Graph_changeColumn nf v8 x1 x2 x3 c).bind fun q9 => some (q9.1, q9.2)) else (f_PQ_put_46 nf  c)))
def f_PQ_put_24 (nf : Nat) (x0 : Nat) (x1 : Int32) (x2 : Int32) (x3 : Int32) (c : Zc) : Option (Int32 × Zc) :=
  f_PQ_put_25 nf x0 x1 x2 x3 0 c
def f_PQ_put (nf : Nat) (a0 : Nat) (a1 : Int32) (a2 : Int32) (a3 : Int32) (c : Zc) : Option (Int32 × Zc) :=
  (zgr c a0 11 1).bind fun v1 => (zob c v1 0).bind fun w3 => (f_Graph_isNode nf v1 a1 c).bind fun q2 => if q2.1 = 0 then (f_PQ_put_24 nf a0 a1 a2 a3 q2.2) else (if a2 < 0 then (f_PQ_put_24 nf a0 a1 a2 a3 q2.2) else (if 4 ≤ a2 then (f_PQ_put_24 nf a0 a1 a2 a3 q2.2) else (f_PQ_put_25 nf a0 a1 a2 a3 1 q2.2)))
set_option maxRecDepth 100000 in
set_option maxHeartbeats 4000000 in
theorem t_PQ_put_46  (X : zX p s m args cd D cid B bb_PQ_put 5 rr_PQ zT) (H : zH s meth B n0 (some (.int)) "put") {nf : Nat}  {c : Zc} {res : Int32 × Zc} (h : f_PQ_put_46 nf  c = some res) : Zz p l e (zRm 1 24 0 0) s m args below meth cd (MQ below (zQi D cid B res.1 res.2 n0 0) args s 0 0 (fun q => B ≤ q)) D cid B 5 0 0 c 46 [] [] := by
  unfold f_PQ_put_46 at h
  refine z_sipush (v := 10000) X dd_PQ_put_46 (by decide) ?_
  obtain rfl := Option.some.inj h
  exact z_iret X H.1 H.2.1 H.2.2.1 dd_PQ_put_49
set_option maxRecDepth 100000 in
set_option maxHeartbeats 4000000 in
theorem t_PQ_put_25  (X : zX p s m args cd D cid B bb_PQ_put 5 rr_PQ zT) (H : zH s meth B n0 (some (.int)) "put") {nf : Nat} {x0 : Nat} {x1 : Int32} {x2 : Int32} {x3 : Int32} {s0 : Int32} {c : Zc} {res : Int32 × Zc} (h : f_PQ_put_25 nf x0 x1 x2 x3 s0 c = some res) : Zz p l e (zRm 1 24 0 0) s m args below meth cd (MQ below (zQi D cid B res.1 res.2 n0 0) args s 0 0 (fun q => B ≤ q)) D cid B 5 0 0 c 25 [(0, .ref x0), (1, .int x1), (2, .int x2), (3, .int x3)] [.int s0] := by
  unfold f_PQ_put_25 at h
  refine z_istore (lv' := [(4, .int s0), (0, .ref x0), (1, .int x1), (2, .int x2), (3, .int x3)]) X dd_PQ_put_25 (by decide) rfl ?_
  refine z_iload X dd_PQ_put_27 0 rfl ?_
  refine z_if_eq (tgt := 46) X dd_PQ_put_29 (by decide) (fun q5 => ?_) (fun q5 => ?_)
  · rw [if_pos q5] at h
    refine z_sub [] rfl ?_
    exact t_PQ_put_46 X H h
  · rw [if_neg q5] at h
    refine z_iload_n X dd_PQ_put_32 rfl 4 rfl ?_
    refine z_sipush (v := (-9999)) X dd_PQ_put_33 (by decide) ?_
    refine z_icmp_lt (tgt := 46) X dd_PQ_put_36 (by decide) (fun q6 => ?_) (fun q6 => ?_)
    · rw [if_pos q6] at h
      refine z_sub [] rfl ?_
      exact t_PQ_put_46 X H h
    · rw [if_neg q6] at h
      refine z_iload_n X dd_PQ_put_39 rfl 4 rfl ?_
      refine z_sipush (v := 9999) X dd_PQ_put_40 (by decide) ?_
      refine z_icmp_le (tgt := 50) X dd_PQ_put_43 (by decide) (fun q7 => ?_) (fun q7 => ?_)
      · rw [if_pos q7] at h
        refine z_aload_n X dd_PQ_put_50 rfl 1 rfl ?_
        obtain ⟨v8, ev8, h⟩ := zb h
        refine z_get (j := 1) X dd_PQ_put_51 kc_11 ki_11 (by decide) km_690 (zgr_v ev8) ?_
        refine z_iload_n X dd_PQ_put_54 rfl 2 rfl ?_
        refine z_iload_n X dd_PQ_put_55 rfl 3 rfl ?_
        refine z_iload_n X dd_PQ_put_56 rfl 4 rfl ?_
        obtain ⟨w10, ew10, h⟩ := zb h
        obtain ⟨q9, eq9, h⟩ := zb h
        refine z_callVi X [.int x1, .int x2, .int x3] rfl dd_PQ_put_57 (c_Graph_changeColumn l eq9) (cwV 3 X.1.2.2.2.2 (zg_V km_759 km_760 km_761 km_126 km_762) rfl rfl rfl (by decide +kernel) ⟨Nat.le_of_ble_eq_true rfl, Nat.le_of_ble_eq_true rfl⟩) (zob_s ew10) kc_0 rfl (Nat.le_of_ble_eq_true rfl) ⟨Nat.le_of_ble_eq_true rfl, Nat.le_of_ble_eq_true rfl⟩ ?_
        obtain rfl := Option.some.inj h
        exact z_iret X H.1 H.2.1 H.2.2.1 dd_PQ_put_60
      · rw [if_neg q7] at h
        refine z_sub [] rfl ?_
        exact t_PQ_put_46 X H h
set_option maxRecDepth 100000 in
set_option maxHeartbeats 4000000 in
theorem t_PQ_put_24  (X : zX p s m args cd D cid B bb_PQ_put 5 rr_PQ zT) (H : zH s meth B n0 (some (.int)) "put") {nf : Nat} {x0 : Nat} {x1 : Int32} {x2 : Int32} {x3 : Int32} {c : Zc} {res : Int32 × Zc} (h : f_PQ_put_24 nf x0 x1 x2 x3 c = some res) : Zz p l e (zRm 1 24 0 0) s m args below meth cd (MQ below (zQi D cid B res.1 res.2 n0 0) args s 0 0 (fun q => B ≤ q)) D cid B 5 0 0 c 24 [(0, .ref x0), (1, .int x1), (2, .int x2), (3, .int x3)] [] := by
  unfold f_PQ_put_24 at h
  refine z_iconst (v := 0) X dd_PQ_put_24 (by decide) ?_
  exact t_PQ_put_25 X H h
set_option maxRecDepth 100000 in
set_option maxHeartbeats 4000000 in
theorem c_PQ_put (l : Launch) {nf : Nat} {a0 : Nat} {a1 : Int32} {a2 : Int32} {a3 : Int32} {c : Zc} {res : Int32 × Zc} (h : f_PQ_put nf a0 a1 a2 a3 c = some res) : zM l yy_PQ_put ww_PQ_put 1 24 0 0 [.ref a0, .int a1, .int a2, .int a3] c (fun D cid B => zQi D cid B res.1 res.2 c.length 0) := by
  refine z_met (cc := bb_PQ_put) (maxL := 5) (ret := (some (.int))) (by decide +kernel) rfl (Nat.le_of_ble_eq_true rfl) ?_
  intro p e s m args below meth cd D cid B X h1 h2 h3 h4
  have X : zX p s m args cd D cid B bb_PQ_put 5 rr_PQ zT := X
  have H : zH s meth B c.length (some (.int)) "put" := ⟨h1, h2, h4, h3⟩
  unfold f_PQ_put at h
  show Zz p l e (zRm 1 24 0 0) s m args below meth cd _ D cid B 5 0 0 c 0 [(0, .ref a0), (1, .int a1), (2, .int a2), (3, .int a3)] []
  refine z_aload_n X dd_PQ_put_0 rfl 0 rfl ?_
  obtain ⟨v1, ev1, h⟩ := zb h
  refine z_get (j := 1) X dd_PQ_put_1 kc_11 ki_11 (by decide) km_690 (zgr_v ev1) ?_
  refine z_iload_n X dd_PQ_put_4 rfl 1 rfl ?_
  obtain ⟨w3, ew3, h⟩ := zb h
  obtain ⟨q2, eq2, h⟩ := zb h
  refine z_callVi X [.int a1] rfl dd_PQ_put_5 (c_Graph_isNode l eq2) (cwV 1 X.1.2.2.2.2 (zg_V km_747 km_748 km_749 km_126 km_750) rfl rfl rfl (by decide +kernel) ⟨Nat.le_of_ble_eq_true rfl, Nat.le_of_ble_eq_true rfl⟩) (zob_s ew3) kc_0 rfl (Nat.le_of_ble_eq_true rfl) ⟨Nat.le_of_ble_eq_true rfl, Nat.le_of_ble_eq_true rfl⟩ ?_
  refine z_if_eq (tgt := 24) X dd_PQ_put_8 (by decide) (fun q4 => ?_) (fun q4 => ?_)
  · rw [if_pos q4] at h
    exact t_PQ_put_24 X H h
  · rw [if_neg q4] at h
    refine z_iload_n X dd_PQ_put_11 rfl 2 rfl ?_
    refine z_if_lt (tgt := 24) X dd_PQ_put_12 (by decide) (fun q11 => ?_) (fun q11 => ?_)
    · rw [if_pos q11] at h
      exact t_PQ_put_24 X H h
    · rw [if_neg q11] at h
      refine z_iload_n X dd_PQ_put_15 rfl 2 rfl ?_
      refine z_iconst (v := 4) X dd_PQ_put_16 (by decide) ?_
      refine z_icmp_ge (tgt := 24) X dd_PQ_put_17 (by decide) (fun q12 => ?_) (fun q12 => ?_)
      · rw [if_pos q12] at h
        exact t_PQ_put_24 X H h
      · rw [if_neg q12] at h
        refine z_iconst (v := 1) X dd_PQ_put_20 (by decide) ?_
        refine z_goto (tgt := 25) X dd_PQ_put_21 (by decide) ?_
        exact t_PQ_put_25 X H h
theorem dd_PQ_arc_0 : decode bb_PQ_arc 0 = .ok (.aload_n 0, 1) := by decide +kernel
theorem dd_PQ_arc_1 : decode bb_PQ_arc 1 = .ok (.getfield 16, 3) := by decide +kernel
theorem dd_PQ_arc_4 : decode bb_PQ_arc 4 = .ok (.iload_n 1, 1) := by decide +kernel
theorem dd_PQ_arc_5 : decode bb_PQ_arc 5 = .ok (.invokevirtual 90, 3) := by decide +kernel
theorem dd_PQ_arc_8 : decode bb_PQ_arc 8 = .ok (.ifCond .eq 28, 3) := by decide +kernel
theorem dd_PQ_arc_11 : decode bb_PQ_arc 11 = .ok (.aload_n 0, 1) := by decide +kernel
theorem dd_PQ_arc_12 : decode bb_PQ_arc 12 = .ok (.getfield 16, 3) := by decide +kernel
theorem dd_PQ_arc_15 : decode bb_PQ_arc 15 = .ok (.iload_n 2, 1) := by decide +kernel
theorem dd_PQ_arc_16 : decode bb_PQ_arc 16 = .ok (.invokevirtual 90, 3) := by decide +kernel
theorem dd_PQ_arc_19 : decode bb_PQ_arc 19 = .ok (.ifCond .eq 17, 3) := by decide +kernel
theorem dd_PQ_arc_22 : decode bb_PQ_arc 22 = .ok (.iload_n 3, 1) := by decide +kernel
theorem dd_PQ_arc_23 : decode bb_PQ_arc 23 = .ok (.ifCond .lt 13, 3) := by decide +kernel
theorem dd_PQ_arc_26 : decode bb_PQ_arc 26 = .ok (.iload_n 3, 1) := by decide +kernel
theorem dd_PQ_arc_27 : decode bb_PQ_arc 27 = .ok (.bipush 8, 2) := by decide +kernel
theorem dd_PQ_arc_29 : decode bb_PQ_arc 29 = .ok (.if_icmp .ge 7, 3) := by decide +kernel
theorem dd_PQ_arc_32 : decode bb_PQ_arc 32 = .ok (.iconst 1, 1) := by decide +kernel
theorem dd_PQ_arc_33 : decode bb_PQ_arc 33 = .ok (.goto 4, 3) := by decide +kernel
theorem dd_PQ_arc_36 : decode bb_PQ_arc 36 = .ok (.iconst 0, 1) := by decide +kernel
theorem dd_PQ_arc_37 : decode bb_PQ_arc 37 = .ok (.istore 5, 2) := by decide +kernel
theorem dd_PQ_arc_39 : decode bb_PQ_arc 39 = .ok (.iload 5, 2) := by decide +kernel
theorem dd_PQ_arc_41 : decode bb_PQ_arc 41 = .ok (.ifCond .eq 15, 3) := by decide +kernel
theorem dd_PQ_arc_44 : decode bb_PQ_arc 44 = .ok (.iload 4, 2) := by decide +kernel
theorem dd_PQ_arc_46 : decode bb_PQ_arc 46 = .ok (.ifCond .lt 10, 3) := by decide +kernel
theorem dd_PQ_arc_49 : decode bb_PQ_arc 49 = .ok (.iload 4, 2) := by decide +kernel
theorem dd_PQ_arc_51 : decode bb_PQ_arc 51 = .ok (.bipush 99, 2) := by decide +kernel
theorem dd_PQ_arc_53 : decode bb_PQ_arc 53 = .ok (.if_icmp .le 5, 3) := by decide +kernel
theorem dd_PQ_arc_56 : decode bb_PQ_arc 56 = .ok (.iconst (-1), 1) := by decide +kernel
theorem dd_PQ_arc_57 : decode bb_PQ_arc 57 = .ok (.ireturn, 1) := by decide +kernel
theorem dd_PQ_arc_58 : decode bb_PQ_arc 58 = .ok (.aload_n 0, 1) := by decide +kernel
theorem dd_PQ_arc_59 : decode bb_PQ_arc 59 = .ok (.getfield 16, 3) := by decide +kernel
theorem dd_PQ_arc_62 : decode bb_PQ_arc 62 = .ok (.iload_n 1, 1) := by decide +kernel
theorem dd_PQ_arc_63 : decode bb_PQ_arc 63 = .ok (.iload_n 2, 1) := by decide +kernel
theorem dd_PQ_arc_64 : decode bb_PQ_arc 64 = .ok (.iload_n 3, 1) := by decide +kernel
theorem dd_PQ_arc_65 : decode bb_PQ_arc 65 = .ok (.iload 4, 2) := by decide +kernel
theorem dd_PQ_arc_67 : decode bb_PQ_arc 67 = .ok (.invokevirtual 102, 3) := by decide +kernel
theorem dd_PQ_arc_70 : decode bb_PQ_arc 70 = .ok (.ireturn, 1) := by decide +kernel
def f_PQ_arc_56 (nf : Nat)  (c : Zc) : Option (Int32 × Zc) :=
  some ((-1), c)
def f_PQ_arc_37 (nf : Nat) (x0 : Nat) (x1 : Int32) (x2 : Int32) (x3 : Int32) (x4 : Int32) (s0 : Int32) (c : Zc) : Option (Int32 × Zc) :=
  if s0 = 0 then (f_PQ_arc_56 nf  c) else (if x4 < 0 then (f_PQ_arc_56 nf  c) else (if x4 ≤ 99 then ((zgr c x0 11 1).bind fun v8 => (zob c v8 0).bind fun w10 => (f_Graph_addArc nf v8 x1 x2 x3 x4 c).bind fun q9 => some (q9.1, q9.2)) else (f_PQ_arc_56 nf  c)))
def f_PQ_arc_36 (nf : Nat) (x0 : Nat) (x1 : Int32) (x2 : Int32) (x3 : Int32) (x4 : Int32) (c : Zc) : Option (Int32 × Zc) :=
  f_PQ_arc_37 nf x0 x1 x2 x3 x4 0 c
def f_PQ_arc (nf : Nat) (a0 : Nat) (a1 : Int32) (a2 : Int32) (a3 : Int32) (a4 : Int32) (c : Zc) : Option (Int32 × Zc) :=
  (zgr c a0 11 1).bind fun v1 => (zob c v1 0).bind fun w3 => (f_Graph_isNode nf v1 a1 c).bind fun q2 => if q2.1 = 0 then (f_PQ_arc_36 nf a0 a1 a2 a3 a4 q2.2) else ((zgr q2.2 a0 11 1).bind fun v11 => (zob q2.2 v11 0).bind fun w13 => (f_Graph_isNode nf v11 a2 q2.2).bind fun q12 => if q12.1 = 0 then (f_PQ_arc_36 nf a0 a1 a2 a3 a4 q12.2) else (if a3 < 0 then (f_PQ_arc_36 nf a0 a1 a2 a3 a4 q12.2) else (if 8 ≤ a3 then (f_PQ_arc_36 nf a0 a1 a2 a3 a4 q12.2) else (f_PQ_arc_37 nf a0 a1 a2 a3 a4 1 q12.2))))
set_option maxRecDepth 100000 in
set_option maxHeartbeats 4000000 in
theorem t_PQ_arc_56  (X : zX p s m args cd D cid B bb_PQ_arc 6 rr_PQ zT) (H : zH s meth B n0 (some (.int)) "arc") {nf : Nat}  {c : Zc} {res : Int32 × Zc} (h : f_PQ_arc_56 nf  c = some res) : Zz p l e (zRm 1 25 0 0) s m args below meth cd (MQ below (zQi D cid B res.1 res.2 n0 0) args s 0 0 (fun q => B ≤ q)) D cid B 6 0 0 c 56 [] [] := by
  unfold f_PQ_arc_56 at h
  refine z_iconst (v := (-1)) X dd_PQ_arc_56 (by decide) ?_
  obtain rfl := Option.some.inj h
  exact z_iret X H.1 H.2.1 H.2.2.1 dd_PQ_arc_57
set_option maxRecDepth 100000 in
set_option maxHeartbeats 4000000 in
theorem t_PQ_arc_37  (X : zX p s m args cd D cid B bb_PQ_arc 6 rr_PQ zT) (H : zH s meth B n0 (some (.int)) "arc") {nf : Nat} {x0 : Nat} {x1 : Int32} {x2 : Int32} {x3 : Int32} {x4 : Int32} {s0 : Int32} {c : Zc} {res : Int32 × Zc} (h : f_PQ_arc_37 nf x0 x1 x2 x3 x4 s0 c = some res) : Zz p l e (zRm 1 25 0 0) s m args below meth cd (MQ below (zQi D cid B res.1 res.2 n0 0) args s 0 0 (fun q => B ≤ q)) D cid B 6 0 0 c 37 [(0, .ref x0), (1, .int x1), (2, .int x2), (3, .int x3), (4, .int x4)] [.int s0] := by
  unfold f_PQ_arc_37 at h
  refine z_istore (lv' := [(5, .int s0), (0, .ref x0), (1, .int x1), (2, .int x2), (3, .int x3), (4, .int x4)]) X dd_PQ_arc_37 (by decide) rfl ?_
  refine z_iload X dd_PQ_arc_39 0 rfl ?_
  refine z_if_eq (tgt := 56) X dd_PQ_arc_41 (by decide) (fun q5 => ?_) (fun q5 => ?_)
  · rw [if_pos q5] at h
    refine z_sub [] rfl ?_
    exact t_PQ_arc_56 X H h
  · rw [if_neg q5] at h
    refine z_iload X dd_PQ_arc_44 5 rfl ?_
    refine z_if_lt (tgt := 56) X dd_PQ_arc_46 (by decide) (fun q6 => ?_) (fun q6 => ?_)
    · rw [if_pos q6] at h
      refine z_sub [] rfl ?_
      exact t_PQ_arc_56 X H h
    · rw [if_neg q6] at h
      refine z_iload X dd_PQ_arc_49 5 rfl ?_
      refine z_bipush (v := 99) X dd_PQ_arc_51 (by decide) ?_
      refine z_icmp_le (tgt := 58) X dd_PQ_arc_53 (by decide) (fun q7 => ?_) (fun q7 => ?_)
      · rw [if_pos q7] at h
        refine z_aload_n X dd_PQ_arc_58 rfl 1 rfl ?_
        obtain ⟨v8, ev8, h⟩ := zb h
        refine z_get (j := 1) X dd_PQ_arc_59 kc_11 ki_11 (by decide) km_690 (zgr_v ev8) ?_
        refine z_iload_n X dd_PQ_arc_62 rfl 2 rfl ?_
        refine z_iload_n X dd_PQ_arc_63 rfl 3 rfl ?_
        refine z_iload_n X dd_PQ_arc_64 rfl 4 rfl ?_
        refine z_iload X dd_PQ_arc_65 5 rfl ?_
        obtain ⟨w10, ew10, h⟩ := zb h
        obtain ⟨q9, eq9, h⟩ := zb h
        refine z_callVi X [.int x1, .int x2, .int x3, .int x4] rfl dd_PQ_arc_67 (c_Graph_addArc l eq9) (cwV 4 X.1.2.2.2.2 (zg_V km_767 km_768 km_769 km_126 km_770) rfl rfl rfl (by decide +kernel) ⟨Nat.le_of_ble_eq_true rfl, Nat.le_of_ble_eq_true rfl⟩) (zob_s ew10) kc_0 rfl (Nat.le_of_ble_eq_true rfl) ⟨Nat.le_of_ble_eq_true rfl, Nat.le_of_ble_eq_true rfl⟩ ?_
        obtain rfl := Option.some.inj h
        exact z_iret X H.1 H.2.1 H.2.2.1 dd_PQ_arc_70
      · rw [if_neg q7] at h
        refine z_sub [] rfl ?_
        exact t_PQ_arc_56 X H h
set_option maxRecDepth 100000 in
set_option maxHeartbeats 4000000 in
theorem t_PQ_arc_36  (X : zX p s m args cd D cid B bb_PQ_arc 6 rr_PQ zT) (H : zH s meth B n0 (some (.int)) "arc") {nf : Nat} {x0 : Nat} {x1 : Int32} {x2 : Int32} {x3 : Int32} {x4 : Int32} {c : Zc} {res : Int32 × Zc} (h : f_PQ_arc_36 nf x0 x1 x2 x3 x4 c = some res) : Zz p l e (zRm 1 25 0 0) s m args below meth cd (MQ below (zQi D cid B res.1 res.2 n0 0) args s 0 0 (fun q => B ≤ q)) D cid B 6 0 0 c 36 [(0, .ref x0), (1, .int x1), (2, .int x2), (3, .int x3), (4, .int x4)] [] := by
  unfold f_PQ_arc_36 at h
  refine z_iconst (v := 0) X dd_PQ_arc_36 (by decide) ?_
  exact t_PQ_arc_37 X H h
set_option maxRecDepth 100000 in
set_option maxHeartbeats 4000000 in
theorem c_PQ_arc (l : Launch) {nf : Nat} {a0 : Nat} {a1 : Int32} {a2 : Int32} {a3 : Int32} {a4 : Int32} {c : Zc} {res : Int32 × Zc} (h : f_PQ_arc nf a0 a1 a2 a3 a4 c = some res) : zM l yy_PQ_arc ww_PQ_arc 1 25 0 0 [.ref a0, .int a1, .int a2, .int a3, .int a4] c (fun D cid B => zQi D cid B res.1 res.2 c.length 0) := by
  refine z_met (cc := bb_PQ_arc) (maxL := 6) (ret := (some (.int))) (by decide +kernel) rfl (Nat.le_of_ble_eq_true rfl) ?_
  intro p e s m args below meth cd D cid B X h1 h2 h3 h4
  have X : zX p s m args cd D cid B bb_PQ_arc 6 rr_PQ zT := X
  have H : zH s meth B c.length (some (.int)) "arc" := ⟨h1, h2, h4, h3⟩
  unfold f_PQ_arc at h
  show Zz p l e (zRm 1 25 0 0) s m args below meth cd _ D cid B 6 0 0 c 0 [(0, .ref a0), (1, .int a1), (2, .int a2), (3, .int a3), (4, .int a4)] []
  refine z_aload_n X dd_PQ_arc_0 rfl 0 rfl ?_
  obtain ⟨v1, ev1, h⟩ := zb h
  refine z_get (j := 1) X dd_PQ_arc_1 kc_11 ki_11 (by decide) km_690 (zgr_v ev1) ?_
  refine z_iload_n X dd_PQ_arc_4 rfl 1 rfl ?_
  obtain ⟨w3, ew3, h⟩ := zb h
  obtain ⟨q2, eq2, h⟩ := zb h
  refine z_callVi X [.int a1] rfl dd_PQ_arc_5 (c_Graph_isNode l eq2) (cwV 1 X.1.2.2.2.2 (zg_V km_747 km_748 km_749 km_126 km_750) rfl rfl rfl (by decide +kernel) ⟨Nat.le_of_ble_eq_true rfl, Nat.le_of_ble_eq_true rfl⟩) (zob_s ew3) kc_0 rfl (Nat.le_of_ble_eq_true rfl) ⟨Nat.le_of_ble_eq_true rfl, Nat.le_of_ble_eq_true rfl⟩ ?_
  refine z_if_eq (tgt := 36) X dd_PQ_arc_8 (by decide) (fun q4 => ?_) (fun q4 => ?_)
  · rw [if_pos q4] at h
    exact t_PQ_arc_36 X H h
  · rw [if_neg q4] at h
    refine z_aload_n X dd_PQ_arc_11 rfl 0 rfl ?_
    obtain ⟨v11, ev11, h⟩ := zb h
    refine z_get (j := 1) X dd_PQ_arc_12 kc_11 ki_11 (by decide) km_690 (zgr_v ev11) ?_
    refine z_iload_n X dd_PQ_arc_15 rfl 2 rfl ?_
    obtain ⟨w13, ew13, h⟩ := zb h
    obtain ⟨q12, eq12, h⟩ := zb h
    refine z_callVi X [.int a2] rfl dd_PQ_arc_16 (c_Graph_isNode l eq12) (cwV 1 X.1.2.2.2.2 (zg_V km_747 km_748 km_749 km_126 km_750) rfl rfl rfl (by decide +kernel) ⟨Nat.le_of_ble_eq_true rfl, Nat.le_of_ble_eq_true rfl⟩) (zob_s ew13) kc_0 rfl (Nat.le_of_ble_eq_true rfl) ⟨Nat.le_of_ble_eq_true rfl, Nat.le_of_ble_eq_true rfl⟩ ?_
    refine z_if_eq (tgt := 36) X dd_PQ_arc_19 (by decide) (fun q14 => ?_) (fun q14 => ?_)
    · rw [if_pos q14] at h
      exact t_PQ_arc_36 X H h
    · rw [if_neg q14] at h
      refine z_iload_n X dd_PQ_arc_22 rfl 3 rfl ?_
      refine z_if_lt (tgt := 36) X dd_PQ_arc_23 (by decide) (fun q15 => ?_) (fun q15 => ?_)
      · rw [if_pos q15] at h
        exact t_PQ_arc_36 X H h
      · rw [if_neg q15] at h
        refine z_iload_n X dd_PQ_arc_26 rfl 3 rfl ?_
        refine z_bipush (v := 8) X dd_PQ_arc_27 (by decide) ?_
        refine z_icmp_ge (tgt := 36) X dd_PQ_arc_29 (by decide) (fun q16 => ?_) (fun q16 => ?_)
        · rw [if_pos q16] at h
          exact t_PQ_arc_36 X H h
        · rw [if_neg q16] at h
          refine z_iconst (v := 1) X dd_PQ_arc_32 (by decide) ?_
          refine z_goto (tgt := 37) X dd_PQ_arc_33 (by decide) ?_
          exact t_PQ_arc_37 X H h
theorem dd_PQ_drop_0 : decode bb_PQ_drop 0 = .ok (.aload_n 0, 1) := by decide +kernel
theorem dd_PQ_drop_1 : decode bb_PQ_drop 1 = .ok (.getfield 16, 3) := by decide +kernel
theorem dd_PQ_drop_4 : decode bb_PQ_drop 4 = .ok (.iload_n 1, 1) := by decide +kernel
theorem dd_PQ_drop_5 : decode bb_PQ_drop 5 = .ok (.invokevirtual 106, 3) := by decide +kernel
theorem dd_PQ_drop_8 : decode bb_PQ_drop 8 = .ok (.ifCond .ne 5, 3) := by decide +kernel
theorem dd_PQ_drop_11 : decode bb_PQ_drop 11 = .ok (.iconst (-1), 1) := by decide +kernel
theorem dd_PQ_drop_12 : decode bb_PQ_drop 12 = .ok (.ireturn, 1) := by decide +kernel
theorem dd_PQ_drop_13 : decode bb_PQ_drop 13 = .ok (.aload_n 0, 1) := by decide +kernel
theorem dd_PQ_drop_14 : decode bb_PQ_drop 14 = .ok (.getfield 16, 3) := by decide +kernel
theorem dd_PQ_drop_17 : decode bb_PQ_drop 17 = .ok (.iload_n 1, 1) := by decide +kernel
theorem dd_PQ_drop_18 : decode bb_PQ_drop 18 = .ok (.invokevirtual 109, 3) := by decide +kernel
theorem dd_PQ_drop_21 : decode bb_PQ_drop 21 = .ok (.aload_n 0, 1) := by decide +kernel
theorem dd_PQ_drop_22 : decode bb_PQ_drop 22 = .ok (.getfield 16, 3) := by decide +kernel
theorem dd_PQ_drop_25 : decode bb_PQ_drop 25 = .ok (.getfield 112, 3) := by decide +kernel
theorem dd_PQ_drop_28 : decode bb_PQ_drop 28 = .ok (.ireturn, 1) := by decide +kernel
def f_PQ_drop (nf : Nat) (a0 : Nat) (a1 : Int32) (c : Zc) : Option (Int32 × Zc) :=
  (zgr c a0 11 1).bind fun v1 => (zob c v1 0).bind fun w3 => (f_Graph_isArc nf v1 a1 c).bind fun q2 => if q2.1 = 0 then (some ((-1), q2.2)) else ((zgr q2.2 a0 11 1).bind fun v5 => (zob q2.2 v5 0).bind fun w7 => (f_Graph_removeArc nf v5 a1 q2.2).bind fun q6 => (zgr q6 a0 11 1).bind fun v8 => (zgi q6 v8 0 8).bind fun v9 => some (v9, q6))
set_option maxRecDepth 100000 in
set_option maxHeartbeats 4000000 in
theorem c_PQ_drop (l : Launch) {nf : Nat} {a0 : Nat} {a1 : Int32} {c : Zc} {res : Int32 × Zc} (h : f_PQ_drop nf a0 a1 c = some res) : zM l yy_PQ_drop ww_PQ_drop 1 21 0 0 [.ref a0, .int a1] c (fun D cid B => zQi D cid B res.1 res.2 c.length 0) := by
  refine z_met (cc := bb_PQ_drop) (maxL := 2) (ret := (some (.int))) (by decide +kernel) rfl (Nat.le_of_ble_eq_true rfl) ?_
  intro p e s m args below meth cd D cid B X h1 h2 h3 h4
  have X : zX p s m args cd D cid B bb_PQ_drop 2 rr_PQ zT := X
  have H : zH s meth B c.length (some (.int)) "drop" := ⟨h1, h2, h4, h3⟩
  unfold f_PQ_drop at h
  show Zz p l e (zRm 1 21 0 0) s m args below meth cd _ D cid B 2 0 0 c 0 [(0, .ref a0), (1, .int a1)] []
  refine z_aload_n X dd_PQ_drop_0 rfl 0 rfl ?_
  obtain ⟨v1, ev1, h⟩ := zb h
  refine z_get (j := 1) X dd_PQ_drop_1 kc_11 ki_11 (by decide) km_690 (zgr_v ev1) ?_
  refine z_iload_n X dd_PQ_drop_4 rfl 1 rfl ?_
  obtain ⟨w3, ew3, h⟩ := zb h
  obtain ⟨q2, eq2, h⟩ := zb h
  refine z_callVi X [.int a1] rfl dd_PQ_drop_5 (c_Graph_isArc l eq2) (cwV 1 X.1.2.2.2.2 (zg_V km_775 km_776 km_777 km_126 km_778) rfl rfl rfl (by decide +kernel) ⟨Nat.le_of_ble_eq_true rfl, Nat.le_of_ble_eq_true rfl⟩) (zob_s ew3) kc_0 rfl (Nat.le_of_ble_eq_true rfl) ⟨Nat.le_of_ble_eq_true rfl, Nat.le_of_ble_eq_true rfl⟩ ?_
  refine z_if_ne (tgt := 13) X dd_PQ_drop_8 (by decide) (fun q4 => ?_) (fun q4 => ?_)
  · rw [if_neg q4] at h
    refine z_aload_n X dd_PQ_drop_13 rfl 0 rfl ?_
    obtain ⟨v5, ev5, h⟩ := zb h
    refine z_get (j := 1) X dd_PQ_drop_14 kc_11 ki_11 (by decide) km_690 (zgr_v ev5) ?_
    refine z_iload_n X dd_PQ_drop_17 rfl 1 rfl ?_
    obtain ⟨w7, ew7, h⟩ := zb h
    obtain ⟨q6, eq6, h⟩ := zb h
    refine z_callVv X [.int a1] rfl dd_PQ_drop_18 (c_Graph_removeArc l eq6) (cwV 1 X.1.2.2.2.2 (zg_V km_779 km_780 km_781 km_126 km_782) rfl rfl rfl (by decide +kernel) ⟨Nat.le_of_ble_eq_true rfl, Nat.le_of_ble_eq_true rfl⟩) (zob_s ew7) kc_0 rfl (Nat.le_of_ble_eq_true rfl) ⟨Nat.le_of_ble_eq_true rfl, Nat.le_of_ble_eq_true rfl⟩ ?_
    refine z_aload_n X dd_PQ_drop_21 rfl 0 rfl ?_
    obtain ⟨v8, ev8, h⟩ := zb h
    refine z_get (j := 1) X dd_PQ_drop_22 kc_11 ki_11 (by decide) km_690 (zgr_v ev8) ?_
    obtain ⟨v9, ev9, h⟩ := zb h
    refine z_get (j := 8) X dd_PQ_drop_25 kc_0 ki_0 (by decide) km_179 (zgi_v ev9) ?_
    obtain rfl := Option.some.inj h
    exact z_iret X H.1 H.2.1 H.2.2.1 dd_PQ_drop_28
  · rw [if_pos q4] at h
    refine z_iconst (v := (-1)) X dd_PQ_drop_11 (by decide) ?_
    obtain rfl := Option.some.inj h
    exact z_iret X H.1 H.2.1 H.2.2.1 dd_PQ_drop_12
theorem dd_PQ_told_0 : decode bb_PQ_told 0 = .ok (.iload_n 1, 1) := by decide +kernel
theorem dd_PQ_told_1 : decode bb_PQ_told 1 = .ok (.ifCond .ne 11, 3) := by decide +kernel
theorem dd_PQ_told_4 : decode bb_PQ_told 4 = .ok (.aload_n 0, 1) := by decide +kernel
theorem dd_PQ_told_5 : decode bb_PQ_told 5 = .ok (.getfield 16, 3) := by decide +kernel
theorem dd_PQ_told_8 : decode bb_PQ_told 8 = .ok (.getfield 115, 3) := by decide +kernel
theorem dd_PQ_told_11 : decode bb_PQ_told 11 = .ok (.ireturn, 1) := by decide +kernel
theorem dd_PQ_told_12 : decode bb_PQ_told 12 = .ok (.iload_n 1, 1) := by decide +kernel
theorem dd_PQ_told_13 : decode bb_PQ_told 13 = .ok (.iconst 1, 1) := by decide +kernel
theorem dd_PQ_told_14 : decode bb_PQ_told 14 = .ok (.if_icmp .ne 11, 3) := by decide +kernel
theorem dd_PQ_told_17 : decode bb_PQ_told 17 = .ok (.aload_n 0, 1) := by decide +kernel
theorem dd_PQ_told_18 : decode bb_PQ_told 18 = .ok (.getfield 16, 3) := by decide +kernel
theorem dd_PQ_told_21 : decode bb_PQ_told 21 = .ok (.getfield 112, 3) := by decide +kernel
theorem dd_PQ_told_24 : decode bb_PQ_told 24 = .ok (.ireturn, 1) := by decide +kernel
theorem dd_PQ_told_25 : decode bb_PQ_told 25 = .ok (.iload_n 1, 1) := by decide +kernel
theorem dd_PQ_told_26 : decode bb_PQ_told 26 = .ok (.iconst 2, 1) := by decide +kernel
theorem dd_PQ_told_27 : decode bb_PQ_told 27 = .ok (.if_icmp .ne 11, 3) := by decide +kernel
theorem dd_PQ_told_30 : decode bb_PQ_told 30 = .ok (.aload_n 0, 1) := by decide +kernel
theorem dd_PQ_told_31 : decode bb_PQ_told 31 = .ok (.getfield 50, 3) := by decide +kernel
theorem dd_PQ_told_34 : decode bb_PQ_told 34 = .ok (.invokevirtual 118, 3) := by decide +kernel
theorem dd_PQ_told_37 : decode bb_PQ_told 37 = .ok (.ireturn, 1) := by decide +kernel
theorem dd_PQ_told_38 : decode bb_PQ_told 38 = .ok (.iload_n 1, 1) := by decide +kernel
theorem dd_PQ_told_39 : decode bb_PQ_told 39 = .ok (.iconst 3, 1) := by decide +kernel
theorem dd_PQ_told_40 : decode bb_PQ_told 40 = .ok (.if_icmp .lt 30, 3) := by decide +kernel
theorem dd_PQ_told_43 : decode bb_PQ_told 43 = .ok (.iload_n 1, 1) := by decide +kernel
theorem dd_PQ_told_44 : decode bb_PQ_told 44 = .ok (.bipush 9, 2) := by decide +kernel
theorem dd_PQ_told_46 : decode bb_PQ_told 46 = .ok (.if_icmp .gt 24, 3) := by decide +kernel
theorem dd_PQ_told_49 : decode bb_PQ_told 49 = .ok (.aload_n 0, 1) := by decide +kernel
theorem dd_PQ_told_50 : decode bb_PQ_told 50 = .ok (.getfield 16, 3) := by decide +kernel
theorem dd_PQ_told_53 : decode bb_PQ_told 53 = .ok (.iload_n 2, 1) := by decide +kernel
theorem dd_PQ_told_54 : decode bb_PQ_told 54 = .ok (.invokevirtual 90, 3) := by decide +kernel
theorem dd_PQ_told_57 : decode bb_PQ_told 57 = .ok (.ifCond .eq 13, 3) := by decide +kernel
theorem dd_PQ_told_60 : decode bb_PQ_told 60 = .ok (.aload_n 0, 1) := by decide +kernel
theorem dd_PQ_told_61 : decode bb_PQ_told 61 = .ok (.getfield 16, 3) := by decide +kernel
theorem dd_PQ_told_64 : decode bb_PQ_told 64 = .ok (.iload_n 1, 1) := by decide +kernel
theorem dd_PQ_told_65 : decode bb_PQ_told 65 = .ok (.iload_n 2, 1) := by decide +kernel
theorem dd_PQ_told_66 : decode bb_PQ_told 66 = .ok (.invokevirtual 122, 3) := by decide +kernel
theorem dd_PQ_told_69 : decode bb_PQ_told 69 = .ok (.ireturn, 1) := by decide +kernel
theorem dd_PQ_told_70 : decode bb_PQ_told 70 = .ok (.iload_n 1, 1) := by decide +kernel
theorem dd_PQ_told_71 : decode bb_PQ_told 71 = .ok (.bipush 10, 2) := by decide +kernel
theorem dd_PQ_told_73 : decode bb_PQ_told 73 = .ok (.if_icmp .lt 30, 3) := by decide +kernel
theorem dd_PQ_told_76 : decode bb_PQ_told 76 = .ok (.iload_n 1, 1) := by decide +kernel
theorem dd_PQ_told_77 : decode bb_PQ_told 77 = .ok (.bipush 13, 2) := by decide +kernel
theorem dd_PQ_told_79 : decode bb_PQ_told 79 = .ok (.if_icmp .gt 24, 3) := by decide +kernel
theorem dd_PQ_told_82 : decode bb_PQ_told 82 = .ok (.aload_n 0, 1) := by decide +kernel
theorem dd_PQ_told_83 : decode bb_PQ_told 83 = .ok (.getfield 16, 3) := by decide +kernel
theorem dd_PQ_told_86 : decode bb_PQ_told 86 = .ok (.iload_n 2, 1) := by decide +kernel
theorem dd_PQ_told_87 : decode bb_PQ_told 87 = .ok (.invokevirtual 106, 3) := by decide +kernel
theorem dd_PQ_told_90 : decode bb_PQ_told 90 = .ok (.ifCond .eq 13, 3) := by decide +kernel
theorem dd_PQ_told_93 : decode bb_PQ_told 93 = .ok (.aload_n 0, 1) := by decide +kernel
theorem dd_PQ_told_94 : decode bb_PQ_told 94 = .ok (.getfield 16, 3) := by decide +kernel
theorem dd_PQ_told_97 : decode bb_PQ_told 97 = .ok (.iload_n 1, 1) := by decide +kernel
theorem dd_PQ_told_98 : decode bb_PQ_told 98 = .ok (.iload_n 2, 1) := by decide +kernel
theorem dd_PQ_told_99 : decode bb_PQ_told 99 = .ok (.invokevirtual 125, 3) := by decide +kernel
theorem dd_PQ_told_102 : decode bb_PQ_told 102 = .ok (.ireturn, 1) := by decide +kernel
theorem dd_PQ_told_103 : decode bb_PQ_told 103 = .ok (.sipush 10000, 3) := by decide +kernel
theorem dd_PQ_told_106 : decode bb_PQ_told 106 = .ok (.ireturn, 1) := by decide +kernel
def f_PQ_told_103 (nf : Nat)  (c : Zc) : Option (Int32 × Zc) :=
  some (10000, c)
def f_PQ_told_70 (nf : Nat) (x0 : Nat) (x1 : Int32) (x2 : Int32) (c : Zc) : Option (Int32 × Zc) :=
  if x1 < 10 then (f_PQ_told_103 nf  c) else (if 13 < x1 then (f_PQ_told_103 nf  c) else ((zgr c x0 11 1).bind fun v7 => (zob c v7 0).bind fun w9 => (f_Graph_isArc nf v7 x2 c).bind fun q8 => if q8.1 = 0 then (f_PQ_told_103 nf  q8.2) else ((zgr q8.2 x0 11 1).bind fun v11 => (zob q8.2 v11 0).bind fun w13 => (f_Graph_ofArc nf v11 x1 x2 q8.2).bind fun q12 => some (q12.1, q12.2))))
def f_PQ_told (nf : Nat) (a0 : Nat) (a1 : Int32) (a2 : Int32) (c : Zc) : Option (Int32 × Zc) :=
  if a1 = 0 then ((zgr c a0 11 1).bind fun v27 => (zgi c v27 0 7).bind fun v28 => some (v28, c)) else (if a1 = 1 then ((zgr c a0 11 1).bind fun v25 => (zgi c v25 0 8).bind fun v26 => some (v26, c)) else (if a1 = 2 then ((zgr c a0 11 5).bind fun v22 => (zob c v22 8).bind fun w24 => (f_RuleBook_standing nf v22 c).bind fun q23 => some (q23.1, q23.2)) else (if a1 < 3 then (f_PQ_told_70 nf a0 a1 a2 c) else (if 9 < a1 then (f_PQ_told_70 nf a0 a1 a2 c) else ((zgr c a0 11 1).bind fun v15 => (zob c v15 0).bind fun w17 => (f_Graph_isNode nf v15 a2 c).bind fun q16 => if q16.1 = 0 then (f_PQ_told_70 nf a0 a1 a2 q16.2) else ((zgr q16.2 a0 11 1).bind fun v19 => (zob q16.2 v19 0).bind fun w21 => (f_Graph_ofNode nf v19 a1 a2 q16.2).bind fun q20 => some (q20.1, q20.2)))))))
set_option maxRecDepth 100000 in
set_option maxHeartbeats 4000000 in
theorem t_PQ_told_103  (X : zX p s m args cd D cid B bb_PQ_told 3 rr_PQ zT) (H : zH s meth B n0 (some (.int)) "told") {nf : Nat}  {c : Zc} {res : Int32 × Zc} (h : f_PQ_told_103 nf  c = some res) : Zz p l e (zRm 1 24 0 0) s m args below meth cd (MQ below (zQi D cid B res.1 res.2 n0 0) args s 0 0 (fun q => B ≤ q)) D cid B 3 0 0 c 103 [] [] := by
  unfold f_PQ_told_103 at h
  refine z_sipush (v := 10000) X dd_PQ_told_103 (by decide) ?_
  obtain rfl := Option.some.inj h
  exact z_iret X H.1 H.2.1 H.2.2.1 dd_PQ_told_106
set_option maxRecDepth 100000 in
set_option maxHeartbeats 4000000 in
theorem t_PQ_told_70  (X : zX p s m args cd D cid B bb_PQ_told 3 rr_PQ zT) (H : zH s meth B n0 (some (.int)) "told") {nf : Nat} {x0 : Nat} {x1 : Int32} {x2 : Int32} {c : Zc} {res : Int32 × Zc} (h : f_PQ_told_70 nf x0 x1 x2 c = some res) : Zz p l e (zRm 1 24 0 0) s m args below meth cd (MQ below (zQi D cid B res.1 res.2 n0 0) args s 0 0 (fun q => B ≤ q)) D cid B 3 0 0 c 70 [(0, .ref x0), (1, .int x1), (2, .int x2)] [] := by
  unfold f_PQ_told_70 at h
  refine z_iload_n X dd_PQ_told_70 rfl 1 rfl ?_
  refine z_bipush (v := 10) X dd_PQ_told_71 (by decide) ?_
  refine z_icmp_lt (tgt := 103) X dd_PQ_told_73 (by decide) (fun q5 => ?_) (fun q5 => ?_)
  · rw [if_pos q5] at h
    refine z_sub [] rfl ?_
    exact t_PQ_told_103 X H h
  · rw [if_neg q5] at h
    refine z_iload_n X dd_PQ_told_76 rfl 1 rfl ?_
    refine z_bipush (v := 13) X dd_PQ_told_77 (by decide) ?_
    refine z_icmp_gt (tgt := 103) X dd_PQ_told_79 (by decide) (fun q6 => ?_) (fun q6 => ?_)
    · rw [if_pos q6] at h
      refine z_sub [] rfl ?_
      exact t_PQ_told_103 X H h
    · rw [if_neg q6] at h
      refine z_aload_n X dd_PQ_told_82 rfl 0 rfl ?_
      obtain ⟨v7, ev7, h⟩ := zb h
      refine z_get (j := 1) X dd_PQ_told_83 kc_11 ki_11 (by decide) km_690 (zgr_v ev7) ?_
      refine z_iload_n X dd_PQ_told_86 rfl 2 rfl ?_
      obtain ⟨w9, ew9, h⟩ := zb h
      obtain ⟨q8, eq8, h⟩ := zb h
      refine z_callVi X [.int x2] rfl dd_PQ_told_87 (c_Graph_isArc l eq8) (cwV 1 X.1.2.2.2.2 (zg_V km_775 km_776 km_777 km_126 km_778) rfl rfl rfl (by decide +kernel) ⟨Nat.le_of_ble_eq_true rfl, Nat.le_of_ble_eq_true rfl⟩) (zob_s ew9) kc_0 rfl (Nat.le_of_ble_eq_true rfl) ⟨Nat.le_of_ble_eq_true rfl, Nat.le_of_ble_eq_true rfl⟩ ?_
      refine z_if_eq (tgt := 103) X dd_PQ_told_90 (by decide) (fun q10 => ?_) (fun q10 => ?_)
      · rw [if_pos q10] at h
        refine z_sub [] rfl ?_
        exact t_PQ_told_103 X H h
      · rw [if_neg q10] at h
        refine z_aload_n X dd_PQ_told_93 rfl 0 rfl ?_
        obtain ⟨v11, ev11, h⟩ := zb h
        refine z_get (j := 1) X dd_PQ_told_94 kc_11 ki_11 (by decide) km_690 (zgr_v ev11) ?_
        refine z_iload_n X dd_PQ_told_97 rfl 1 rfl ?_
        refine z_iload_n X dd_PQ_told_98 rfl 2 rfl ?_
        obtain ⟨w13, ew13, h⟩ := zb h
        obtain ⟨q12, eq12, h⟩ := zb h
        refine z_callVi X [.int x1, .int x2] rfl dd_PQ_told_99 (c_Graph_ofArc l eq12) (cwV 2 X.1.2.2.2.2 (zg_V km_795 km_796 km_797 km_126 km_798) rfl rfl rfl (by decide +kernel) ⟨Nat.le_of_ble_eq_true rfl, Nat.le_of_ble_eq_true rfl⟩) (zob_s ew13) kc_0 rfl (Nat.le_of_ble_eq_true rfl) ⟨Nat.le_of_ble_eq_true rfl, Nat.le_of_ble_eq_true rfl⟩ ?_
        obtain rfl := Option.some.inj h
        exact z_iret X H.1 H.2.1 H.2.2.1 dd_PQ_told_102
set_option maxRecDepth 100000 in
set_option maxHeartbeats 4000000 in
theorem c_PQ_told (l : Launch) {nf : Nat} {a0 : Nat} {a1 : Int32} {a2 : Int32} {c : Zc} {res : Int32 × Zc} (h : f_PQ_told nf a0 a1 a2 c = some res) : zM l yy_PQ_told ww_PQ_told 1 24 0 0 [.ref a0, .int a1, .int a2] c (fun D cid B => zQi D cid B res.1 res.2 c.length 0) := by
  refine z_met (cc := bb_PQ_told) (maxL := 3) (ret := (some (.int))) (by decide +kernel) rfl (Nat.le_of_ble_eq_true rfl) ?_
  intro p e s m args below meth cd D cid B X h1 h2 h3 h4
  have X : zX p s m args cd D cid B bb_PQ_told 3 rr_PQ zT := X
  have H : zH s meth B c.length (some (.int)) "told" := ⟨h1, h2, h4, h3⟩
  unfold f_PQ_told at h
  show Zz p l e (zRm 1 24 0 0) s m args below meth cd _ D cid B 3 0 0 c 0 [(0, .ref a0), (1, .int a1), (2, .int a2)] []
  refine z_iload_n X dd_PQ_told_0 rfl 1 rfl ?_
  refine z_if_ne (tgt := 12) X dd_PQ_told_1 (by decide) (fun q1 => ?_) (fun q1 => ?_)
  · rw [if_neg q1] at h
    refine z_iload_n X dd_PQ_told_12 rfl 1 rfl ?_
    refine z_iconst (v := 1) X dd_PQ_told_13 (by decide) ?_
    refine z_icmp_ne (tgt := 25) X dd_PQ_told_14 (by decide) (fun q2 => ?_) (fun q2 => ?_)
    · rw [if_neg q2] at h
      refine z_iload_n X dd_PQ_told_25 rfl 1 rfl ?_
      refine z_iconst (v := 2) X dd_PQ_told_26 (by decide) ?_
      refine z_icmp_ne (tgt := 38) X dd_PQ_told_27 (by decide) (fun q3 => ?_) (fun q3 => ?_)
      · rw [if_neg q3] at h
        refine z_iload_n X dd_PQ_told_38 rfl 1 rfl ?_
        refine z_iconst (v := 3) X dd_PQ_told_39 (by decide) ?_
        refine z_icmp_lt (tgt := 70) X dd_PQ_told_40 (by decide) (fun q4 => ?_) (fun q4 => ?_)
        · rw [if_pos q4] at h
          exact t_PQ_told_70 X H h
        · rw [if_neg q4] at h
          refine z_iload_n X dd_PQ_told_43 rfl 1 rfl ?_
          refine z_bipush (v := 9) X dd_PQ_told_44 (by decide) ?_
          refine z_icmp_gt (tgt := 70) X dd_PQ_told_46 (by decide) (fun q14 => ?_) (fun q14 => ?_)
          · rw [if_pos q14] at h
            exact t_PQ_told_70 X H h
          · rw [if_neg q14] at h
            refine z_aload_n X dd_PQ_told_49 rfl 0 rfl ?_
            obtain ⟨v15, ev15, h⟩ := zb h
            refine z_get (j := 1) X dd_PQ_told_50 kc_11 ki_11 (by decide) km_690 (zgr_v ev15) ?_
            refine z_iload_n X dd_PQ_told_53 rfl 2 rfl ?_
            obtain ⟨w17, ew17, h⟩ := zb h
            obtain ⟨q16, eq16, h⟩ := zb h
            refine z_callVi X [.int a2] rfl dd_PQ_told_54 (c_Graph_isNode l eq16) (cwV 1 X.1.2.2.2.2 (zg_V km_747 km_748 km_749 km_126 km_750) rfl rfl rfl (by decide +kernel) ⟨Nat.le_of_ble_eq_true rfl, Nat.le_of_ble_eq_true rfl⟩) (zob_s ew17) kc_0 rfl (Nat.le_of_ble_eq_true rfl) ⟨Nat.le_of_ble_eq_true rfl, Nat.le_of_ble_eq_true rfl⟩ ?_
            refine z_if_eq (tgt := 70) X dd_PQ_told_57 (by decide) (fun q18 => ?_) (fun q18 => ?_)
            · rw [if_pos q18] at h
              exact t_PQ_told_70 X H h
            · rw [if_neg q18] at h
              refine z_aload_n X dd_PQ_told_60 rfl 0 rfl ?_
              obtain ⟨v19, ev19, h⟩ := zb h
              refine z_get (j := 1) X dd_PQ_told_61 kc_11 ki_11 (by decide) km_690 (zgr_v ev19) ?_
              refine z_iload_n X dd_PQ_told_64 rfl 1 rfl ?_
              refine z_iload_n X dd_PQ_told_65 rfl 2 rfl ?_
              obtain ⟨w21, ew21, h⟩ := zb h
              obtain ⟨q20, eq20, h⟩ := zb h
              refine z_callVi X [.int a1, .int a2] rfl dd_PQ_told_66 (c_Graph_ofNode l eq20) (cwV 2 X.1.2.2.2.2 (zg_V km_791 km_792 km_793 km_126 km_794) rfl rfl rfl (by decide +kernel) ⟨Nat.le_of_ble_eq_true rfl, Nat.le_of_ble_eq_true rfl⟩) (zob_s ew21) kc_0 rfl (Nat.le_of_ble_eq_true rfl) ⟨Nat.le_of_ble_eq_true rfl, Nat.le_of_ble_eq_true rfl⟩ ?_
              obtain rfl := Option.some.inj h
              exact z_iret X H.1 H.2.1 H.2.2.1 dd_PQ_told_69
      · rw [if_pos q3] at h
        refine z_aload_n X dd_PQ_told_30 rfl 0 rfl ?_
        obtain ⟨v22, ev22, h⟩ := zb h
        refine z_get (j := 5) X dd_PQ_told_31 kc_11 ki_11 (by decide) km_694 (zgr_v ev22) ?_
        obtain ⟨w24, ew24, h⟩ := zb h
        obtain ⟨q23, eq23, h⟩ := zb h
        refine z_callVi X [] rfl dd_PQ_told_34 (c_RuleBook_standing l eq23) (cwV 0 X.1.2.2.2.2 (zg_V km_787 km_788 km_789 km_135 km_790) rfl rfl rfl (by decide +kernel) ⟨Nat.le_of_ble_eq_true rfl, Nat.le_of_ble_eq_true rfl⟩) (zob_s ew24) kc_8 rfl (Nat.le_of_ble_eq_true rfl) ⟨Nat.le_of_ble_eq_true rfl, Nat.le_of_ble_eq_true rfl⟩ ?_
        obtain rfl := Option.some.inj h
        exact z_iret X H.1 H.2.1 H.2.2.1 dd_PQ_told_37
    · rw [if_pos q2] at h
      refine z_aload_n X dd_PQ_told_17 rfl 0 rfl ?_
      obtain ⟨v25, ev25, h⟩ := zb h
      refine z_get (j := 1) X dd_PQ_told_18 kc_11 ki_11 (by decide) km_690 (zgr_v ev25) ?_
      obtain ⟨v26, ev26, h⟩ := zb h
      refine z_get (j := 8) X dd_PQ_told_21 kc_0 ki_0 (by decide) km_179 (zgi_v ev26) ?_
      obtain rfl := Option.some.inj h
      exact z_iret X H.1 H.2.1 H.2.2.1 dd_PQ_told_24
  · rw [if_pos q1] at h
    refine z_aload_n X dd_PQ_told_4 rfl 0 rfl ?_
    obtain ⟨v27, ev27, h⟩ := zb h
    refine z_get (j := 1) X dd_PQ_told_5 kc_11 ki_11 (by decide) km_690 (zgr_v ev27) ?_
    obtain ⟨v28, ev28, h⟩ := zb h
    refine z_get (j := 7) X dd_PQ_told_8 kc_0 ki_0 (by decide) km_177 (zgi_v ev28) ?_
    obtain rfl := Option.some.inj h
    exact z_iret X H.1 H.2.1 H.2.2.1 dd_PQ_told_11
end ZzM
