section ZzM
variable {p : Program} {l : Launch} {e : Env} {s : State} {m : MethodId} {args : Array Value} {below : List Frame} {meth : Method} {cd : Code} {Q : State → Prop} {D : va_G} {cid : Nat → ClassId} {B n0 : Nat}
theorem dd_Collector_keysOf_0 : decode bb_Collector_keysOf 0 = .ok (.iconst 0, 1) := by decide +kernel
theorem dd_Collector_keysOf_1 : decode bb_Collector_keysOf 1 = .ok (.istore_n 1, 1) := by decide +kernel
theorem dd_Collector_keysOf_2 : decode bb_Collector_keysOf 2 = .ok (.iconst 0, 1) := by decide +kernel
theorem dd_Collector_keysOf_3 : decode bb_Collector_keysOf 3 = .ok (.istore_n 2, 1) := by decide +kernel
theorem dd_Collector_keysOf_4 : decode bb_Collector_keysOf 4 = .ok (.iload_n 2, 1) := by decide +kernel
theorem dd_Collector_keysOf_5 : decode bb_Collector_keysOf 5 = .ok (.aload_n 0, 1) := by decide +kernel
theorem dd_Collector_keysOf_6 : decode bb_Collector_keysOf 6 = .ok (.getfield 45, 3) := by decide +kernel
theorem dd_Collector_keysOf_9 : decode bb_Collector_keysOf 9 = .ok (.if_icmp .ge 25, 3) := by decide +kernel
theorem dd_Collector_keysOf_12 : decode bb_Collector_keysOf 12 = .ok (.aload_n 0, 1) := by decide +kernel
theorem dd_Collector_keysOf_13 : decode bb_Collector_keysOf 13 = .ok (.getfield 92, 3) := by decide +kernel
theorem dd_Collector_keysOf_16 : decode bb_Collector_keysOf 16 = .ok (.iload_n 2, 1) := by decide +kernel
theorem dd_Collector_keysOf_17 : decode bb_Collector_keysOf 17 = .ok (.iaload, 1) := by decide +kernel
theorem dd_Collector_keysOf_18 : decode bb_Collector_keysOf 18 = .ok (.iconst 2, 1) := by decide +kernel
theorem dd_Collector_keysOf_19 : decode bb_Collector_keysOf 19 = .ok (.if_icmp .ne 9, 3) := by decide +kernel
theorem dd_Collector_keysOf_22 : decode bb_Collector_keysOf 22 = .ok (.iload_n 1, 1) := by decide +kernel
theorem dd_Collector_keysOf_23 : decode bb_Collector_keysOf 23 = .ok (.iconst 1, 1) := by decide +kernel
theorem dd_Collector_keysOf_24 : decode bb_Collector_keysOf 24 = .ok (.iload_n 2, 1) := by decide +kernel
theorem dd_Collector_keysOf_25 : decode bb_Collector_keysOf 25 = .ok (.ishl, 1) := by decide +kernel
theorem dd_Collector_keysOf_26 : decode bb_Collector_keysOf 26 = .ok (.ior, 1) := by decide +kernel
theorem dd_Collector_keysOf_27 : decode bb_Collector_keysOf 27 = .ok (.istore_n 1, 1) := by decide +kernel
theorem dd_Collector_keysOf_28 : decode bb_Collector_keysOf 28 = .ok (.iinc 2 1, 3) := by decide +kernel
theorem dd_Collector_keysOf_31 : decode bb_Collector_keysOf 31 = .ok (.goto (-27), 3) := by decide +kernel
theorem dd_Collector_keysOf_34 : decode bb_Collector_keysOf 34 = .ok (.iload_n 1, 1) := by decide +kernel
theorem dd_Collector_keysOf_35 : decode bb_Collector_keysOf 35 = .ok (.ireturn, 1) := by decide +kernel
set_option maxRecDepth 100000 in
set_option maxHeartbeats 4000000 in
theorem t_Collector_keysOf_28  (X : zX p s m args cd D cid B bb_Collector_keysOf 3 rr_Collector zT) (H : zH s meth B n0 (some (.int)) "keysOf") {nf : Nat} {x0 : Nat} {x1 : Int32} {x2 : Int32} {c : Zc} {r : (Nat × Int32 × Int32 × Zc) ⊕ (Int32 × Zc)} (h : f_Collector_keysOf_28 nf x0 x1 x2 c = some r) (k0 : ∀ a, r = .inl a → (fun a : Nat × Int32 × Int32 × Zc => Zz p l e (zRm 0 0 0 0) s m args below meth cd Q D cid B 3 0 0 a.2.2.2 4 [(0, .ref a.1), (1, .int a.2.1), (2, .int a.2.2.1)] []) a) (k1 : ∀ b, r = .inr b → (fun b : Int32 × Zc => Zz p l e (zRm 0 0 0 0) s m args below meth cd Q D cid B 3 0 0 b.2 34 [(1, .int b.1)] []) b) : Zz p l e (zRm 0 0 0 0) s m args below meth cd Q D cid B 3 0 0 c 28 [(0, .ref x0), (1, .int x1), (2, .int x2)] [] := by
  unfold f_Collector_keysOf_28 at h
  refine z_iinc (v := (x2 + 1)) (lv' := [(2, .int (x2 + 1)), (0, .ref x0), (1, .int x1)]) X dd_Collector_keysOf_28 2 rfl rfl (by decide) rfl ?_
  refine z_goto (tgt := 4) X dd_Collector_keysOf_31 (by decide) ?_
  refine z_sub [1, 2, 0] rfl ?_
  obtain rfl := Option.some.inj h
  exact k0 _ rfl
set_option maxRecDepth 100000 in
set_option maxHeartbeats 4000000 in
theorem u_Collector_keysOf_4  (X : zX p s m args cd D cid B bb_Collector_keysOf 3 rr_Collector zT) (H : zH s meth B n0 (some (.int)) "keysOf") {nf : Nat} {x0 : Nat} {x1 : Int32} {x2 : Int32} {c : Zc} {r : (Nat × Int32 × Int32 × Zc) ⊕ (Int32 × Zc)} (h : g_Collector_keysOf_4 nf x0 x1 x2 c = some r) (k0 : ∀ a, r = .inl a → (fun a : Nat × Int32 × Int32 × Zc => Zz p l e (zRm 0 0 0 0) s m args below meth cd Q D cid B 3 0 0 a.2.2.2 4 [(0, .ref a.1), (1, .int a.2.1), (2, .int a.2.2.1)] []) a) (k1 : ∀ b, r = .inr b → (fun b : Int32 × Zc => Zz p l e (zRm 0 0 0 0) s m args below meth cd Q D cid B 3 0 0 b.2 34 [(1, .int b.1)] []) b) : Zz p l e (zRm 0 0 0 0) s m args below meth cd Q D cid B 3 0 0 c 4 [(0, .ref x0), (1, .int x1), (2, .int x2)] [] := by
  unfold g_Collector_keysOf_4 at h
  refine z_iload_n X dd_Collector_keysOf_4 rfl 2 rfl ?_
  refine z_aload_n X dd_Collector_keysOf_5 rfl 0 rfl ?_
  obtain ⟨v1, ev1, h⟩ := zb h
  refine z_get (j := 15) X dd_Collector_keysOf_6 kc_2 ki_2 (by decide) km_345 (zgi_v ev1) ?_
  refine z_icmp_ge (tgt := 34) X dd_Collector_keysOf_9 (by decide) (fun q2 => ?_) (fun q2 => ?_)
  · rw [if_pos q2] at h
    refine z_sub [1] rfl ?_
    obtain rfl := Option.some.inj h
    exact k1 _ rfl
  · rw [if_neg q2] at h
    refine z_aload_n X dd_Collector_keysOf_12 rfl 0 rfl ?_
    obtain ⟨v3, ev3, h⟩ := zb h
    refine z_get (j := 16) X dd_Collector_keysOf_13 kc_2 ki_2 (by decide) km_349 (zgr_v ev3) ?_
    refine z_iload_n X dd_Collector_keysOf_16 rfl 2 rfl ?_
    obtain ⟨v4, ev4, h⟩ := zb h
    refine z_iaload X dd_Collector_keysOf_17 rfl ev4 ?_
    refine z_iconst (v := 2) X dd_Collector_keysOf_18 (by decide) ?_
    refine z_icmp_ne (tgt := 28) X dd_Collector_keysOf_19 (by decide) (fun q5 => ?_) (fun q5 => ?_)
    · rw [if_neg q5] at h
      exact t_Collector_keysOf_28 X H h k0 k1
    · rw [if_pos q5] at h
      refine z_iload_n X dd_Collector_keysOf_22 rfl 1 rfl ?_
      refine z_iconst (v := 1) X dd_Collector_keysOf_23 (by decide) ?_
      refine z_iload_n X dd_Collector_keysOf_24 rfl 2 rfl ?_
      refine z_ishl X dd_Collector_keysOf_25 ?_
      refine z_ior X dd_Collector_keysOf_26 ?_
      refine z_istore_n (lv' := [(1, .int (x1 ||| (1 <<< (x2 &&& 31)))), (0, .ref x0), (2, .int x2)]) X dd_Collector_keysOf_27 rfl (by decide) rfl ?_
      refine z_sub [1, 0, 2] rfl ?_
      exact t_Collector_keysOf_28 X H h k0 k1
set_option maxRecDepth 100000 in
set_option maxHeartbeats 4000000 in
theorem t_Collector_keysOf_4  (X : zX p s m args cd D cid B bb_Collector_keysOf 3 rr_Collector zT) (H : zH s meth B n0 (some (.int)) "keysOf") {nf : Nat} {x0 : Nat} {x1 : Int32} {x2 : Int32} {c : Zc} {res : Int32 × Zc} (h : f_Collector_keysOf_4 nf x0 x1 x2 c = some res) : Zz p l e (zRm 0 0 0 0) s m args below meth cd (MQ below (zQi D cid B res.1 res.2 n0 0) args s 0 0 (fun q => B ≤ q)) D cid B 3 0 0 c 4 [(0, .ref x0), (1, .int x1), (2, .int x2)] [] := by
  unfold f_Collector_keysOf_4 at h
  obtain ⟨b, eb, h⟩ := zb h
  refine zlp_ok (P := fun a : Nat × Int32 × Int32 × Zc => Zz p l e (zRm 0 0 0 0) s m args below meth cd _ D cid B 3 0 0 a.2.2.2 4 [(0, .ref a.1), (1, .int a.2.1), (2, .int a.2.2.1)] []) (G := fun b : Int32 × Zc => Zz p l e (zRm 0 0 0 0) s m args below meth cd _ D cid B 3 0 0 b.2 34 [(1, .int b.1)] []) (fun a r ha k0 k1 => u_Collector_keysOf_4 X H ha k0 k1) nf _ b eb ?_
  refine z_iload_n X dd_Collector_keysOf_34 rfl 0 rfl ?_
  obtain rfl := Option.some.inj h
  exact z_iret X H.1 H.2.1 H.2.2.1 dd_Collector_keysOf_35
set_option maxRecDepth 100000 in
set_option maxHeartbeats 4000000 in
theorem c_Collector_keysOf (l : Launch) {nf : Nat} {a0 : Nat} {c : Zc} {res : Int32 × Zc} (h : f_Collector_keysOf nf a0 c = some res) : zM l yy_Collector_keysOf ww_Collector_keysOf 0 0 0 0 [.ref a0] c (fun D cid B => zQi D cid B res.1 res.2 c.length 0) := by
  refine z_met (cc := bb_Collector_keysOf) (maxL := 3) (ret := (some (.int))) (by decide +kernel) rfl (Nat.le_of_ble_eq_true rfl) ?_
  intro p e s m args below meth cd D cid B X h1 h2 h3 h4
  have X : zX p s m args cd D cid B bb_Collector_keysOf 3 rr_Collector zT := X
  have H : zH s meth B c.length (some (.int)) "keysOf" := ⟨h1, h2, h4, h3⟩
  unfold f_Collector_keysOf at h
  show Zz p l e (zRm 0 0 0 0) s m args below meth cd _ D cid B 3 0 0 c 0 [(0, .ref a0)] []
  refine z_iconst (v := 0) X dd_Collector_keysOf_0 (by decide) ?_
  refine z_istore_n (lv' := [(1, .int 0), (0, .ref a0)]) X dd_Collector_keysOf_1 rfl (by decide) rfl ?_
  refine z_iconst (v := 0) X dd_Collector_keysOf_2 (by decide) ?_
  refine z_istore_n (lv' := [(2, .int 0), (1, .int 0), (0, .ref a0)]) X dd_Collector_keysOf_3 rfl (by decide) rfl ?_
  refine z_sub [2, 1, 0] rfl ?_
  exact t_Collector_keysOf_4 X H h
theorem dd_Math_min_1_0 : decode bb_Math_min_1 0 = .ok (.lload_n 0, 1) := by decide +kernel
theorem dd_Math_min_1_1 : decode bb_Math_min_1 1 = .ok (.lload_n 2, 1) := by decide +kernel
theorem dd_Math_min_1_2 : decode bb_Math_min_1 2 = .ok (.lcmp, 1) := by decide +kernel
theorem dd_Math_min_1_3 : decode bb_Math_min_1 3 = .ok (.ifCond .gt 7, 3) := by decide +kernel
theorem dd_Math_min_1_6 : decode bb_Math_min_1 6 = .ok (.lload_n 0, 1) := by decide +kernel
theorem dd_Math_min_1_7 : decode bb_Math_min_1 7 = .ok (.goto 4, 3) := by decide +kernel
theorem dd_Math_min_1_10 : decode bb_Math_min_1 10 = .ok (.lload_n 2, 1) := by decide +kernel
theorem dd_Math_min_1_11 : decode bb_Math_min_1 11 = .ok (.lreturn, 1) := by decide +kernel
set_option maxRecDepth 100000 in
set_option maxHeartbeats 4000000 in
theorem t_Math_min_1_11  (X : zX p s m args cd D cid B bb_Math_min_1 4 rr_Math zT) (H : zH s meth B n0 (some (.long)) "min") {nf : Nat} {s0 : Int64} {c : Zc} {res : Int64 × Zc} (h : f_Math_min_1_11 nf s0 c = some res) : Zz p l e (zRm 0 0 0 0) s m args below meth cd (MQ below (zQl D cid B res.1 res.2 n0 0) args s 0 0 (fun q => B ≤ q)) D cid B 4 0 0 c 11 [] [.long s0] := by
  unfold f_Math_min_1_11 at h
  obtain rfl := Option.some.inj h
  exact z_lret X H.1 H.2.1 H.2.2.1 dd_Math_min_1_11
set_option maxRecDepth 100000 in
set_option maxHeartbeats 4000000 in
theorem c_Math_min_1 (l : Launch) {nf : Nat} {a0 : Int64} {a2 : Int64} {c : Zc} {res : Int64 × Zc} (h : f_Math_min_1 nf a0 a2 c = some res) : zM l yy_Math_min_1 ww_Math_min_1 0 0 0 0 [.long a0, .long a2] c (fun D cid B => zQl D cid B res.1 res.2 c.length 0) := by
  refine z_metF (cc := bb_Math_min_1) (maxL := 4) (ret := (some (.long))) (by decide +kernel) rfl (Nat.le_of_ble_eq_true rfl) ?_
  intro p e s m args below meth cd D cid B X h1 h2 h3 h4
  have X : zX p s m args cd D cid B bb_Math_min_1 4 rr_Math zT := X
  have H : zH s meth B c.length (some (.long)) "min" := ⟨h1, h2, h4, h3⟩
  unfold f_Math_min_1 at h
  show Zz p l e (zRm 0 0 0 0) s m args below meth cd _ D cid B 4 0 0 c 0 [(0, .long a0), (2, .long a2)] []
  refine z_lload_n X dd_Math_min_1_0 rfl 0 rfl ?_
  refine z_lload_n X dd_Math_min_1_1 rfl 1 rfl ?_
  refine z_lcmp X dd_Math_min_1_2 ?_
  refine z_if_gt (tgt := 10) X dd_Math_min_1_3 (by decide) (fun q1 => ?_) (fun q1 => ?_)
  · rw [if_pos q1] at h
    refine z_lload_n X dd_Math_min_1_10 rfl 1 rfl ?_
    refine z_sub [] rfl ?_
    exact t_Math_min_1_11 X H h
  · rw [if_neg q1] at h
    refine z_lload_n X dd_Math_min_1_6 rfl 0 rfl ?_
    refine z_goto (tgt := 11) X dd_Math_min_1_7 (by decide) ?_
    refine z_sub [] rfl ?_
    exact t_Math_min_1_11 X H h
theorem dd_Math_max_1_0 : decode bb_Math_max_1 0 = .ok (.lload_n 0, 1) := by decide +kernel
theorem dd_Math_max_1_1 : decode bb_Math_max_1 1 = .ok (.lload_n 2, 1) := by decide +kernel
theorem dd_Math_max_1_2 : decode bb_Math_max_1 2 = .ok (.lcmp, 1) := by decide +kernel
theorem dd_Math_max_1_3 : decode bb_Math_max_1 3 = .ok (.ifCond .lt 7, 3) := by decide +kernel
theorem dd_Math_max_1_6 : decode bb_Math_max_1 6 = .ok (.lload_n 0, 1) := by decide +kernel
theorem dd_Math_max_1_7 : decode bb_Math_max_1 7 = .ok (.goto 4, 3) := by decide +kernel
theorem dd_Math_max_1_10 : decode bb_Math_max_1 10 = .ok (.lload_n 2, 1) := by decide +kernel
theorem dd_Math_max_1_11 : decode bb_Math_max_1 11 = .ok (.lreturn, 1) := by decide +kernel
set_option maxRecDepth 100000 in
set_option maxHeartbeats 4000000 in
theorem t_Math_max_1_11  (X : zX p s m args cd D cid B bb_Math_max_1 4 rr_Math zT) (H : zH s meth B n0 (some (.long)) "max") {nf : Nat} {s0 : Int64} {c : Zc} {res : Int64 × Zc} (h : f_Math_max_1_11 nf s0 c = some res) : Zz p l e (zRm 0 0 0 0) s m args below meth cd (MQ below (zQl D cid B res.1 res.2 n0 0) args s 0 0 (fun q => B ≤ q)) D cid B 4 0 0 c 11 [] [.long s0] := by
  unfold f_Math_max_1_11 at h
  obtain rfl := Option.some.inj h
  exact z_lret X H.1 H.2.1 H.2.2.1 dd_Math_max_1_11
set_option maxRecDepth 100000 in
set_option maxHeartbeats 4000000 in
theorem c_Math_max_1 (l : Launch) {nf : Nat} {a0 : Int64} {a2 : Int64} {c : Zc} {res : Int64 × Zc} (h : f_Math_max_1 nf a0 a2 c = some res) : zM l yy_Math_max_1 ww_Math_max_1 0 0 0 0 [.long a0, .long a2] c (fun D cid B => zQl D cid B res.1 res.2 c.length 0) := by
  refine z_metF (cc := bb_Math_max_1) (maxL := 4) (ret := (some (.long))) (by decide +kernel) rfl (Nat.le_of_ble_eq_true rfl) ?_
  intro p e s m args below meth cd D cid B X h1 h2 h3 h4
  have X : zX p s m args cd D cid B bb_Math_max_1 4 rr_Math zT := X
  have H : zH s meth B c.length (some (.long)) "max" := ⟨h1, h2, h4, h3⟩
  unfold f_Math_max_1 at h
  show Zz p l e (zRm 0 0 0 0) s m args below meth cd _ D cid B 4 0 0 c 0 [(0, .long a0), (2, .long a2)] []
  refine z_lload_n X dd_Math_max_1_0 rfl 0 rfl ?_
  refine z_lload_n X dd_Math_max_1_1 rfl 1 rfl ?_
  refine z_lcmp X dd_Math_max_1_2 ?_
  refine z_if_lt (tgt := 10) X dd_Math_max_1_3 (by decide) (fun q1 => ?_) (fun q1 => ?_)
  · rw [if_pos q1] at h
    refine z_lload_n X dd_Math_max_1_10 rfl 1 rfl ?_
    refine z_sub [] rfl ?_
    exact t_Math_max_1_11 X H h
  · rw [if_neg q1] at h
    refine z_lload_n X dd_Math_max_1_6 rfl 0 rfl ?_
    refine z_goto (tgt := 11) X dd_Math_max_1_7 (by decide) ?_
    refine z_sub [] rfl ?_
    exact t_Math_max_1_11 X H h
theorem dd_Collector_addTo_0 : decode bb_Collector_addTo 0 = .ok (.iconst 0, 1) := by decide +kernel
theorem dd_Collector_addTo_1 : decode bb_Collector_addTo 1 = .ok (.istore_n 3, 1) := by decide +kernel
theorem dd_Collector_addTo_2 : decode bb_Collector_addTo 2 = .ok (.iload_n 3, 1) := by decide +kernel
theorem dd_Collector_addTo_3 : decode bb_Collector_addTo 3 = .ok (.aload_n 1, 1) := by decide +kernel
theorem dd_Collector_addTo_4 : decode bb_Collector_addTo 4 = .ok (.getfield 45, 3) := by decide +kernel
theorem dd_Collector_addTo_7 : decode bb_Collector_addTo 7 = .ok (.if_icmp .ge 110, 3) := by decide +kernel
theorem dd_Collector_addTo_10 : decode bb_Collector_addTo 10 = .ok (.aload_n 0, 1) := by decide +kernel
theorem dd_Collector_addTo_11 : decode bb_Collector_addTo 11 = .ok (.getfield 12, 3) := by decide +kernel
theorem dd_Collector_addTo_14 : decode bb_Collector_addTo 14 = .ok (.iload_n 2, 1) := by decide +kernel
theorem dd_Collector_addTo_15 : decode bb_Collector_addTo 15 = .ok (.iload_n 3, 1) := by decide +kernel
theorem dd_Collector_addTo_16 : decode bb_Collector_addTo 16 = .ok (.invokevirtual 76, 3) := by decide +kernel
theorem dd_Collector_addTo_19 : decode bb_Collector_addTo 19 = .ok (.istore 4, 2) := by decide +kernel
theorem dd_Collector_addTo_21 : decode bb_Collector_addTo 21 = .ok (.aload_n 1, 1) := by decide +kernel
theorem dd_Collector_addTo_22 : decode bb_Collector_addTo 22 = .ok (.getfield 92, 3) := by decide +kernel
theorem dd_Collector_addTo_25 : decode bb_Collector_addTo 25 = .ok (.iload_n 3, 1) := by decide +kernel
theorem dd_Collector_addTo_26 : decode bb_Collector_addTo 26 = .ok (.iaload, 1) := by decide +kernel
theorem dd_Collector_addTo_27 : decode bb_Collector_addTo 27 = .ok (.istore 5, 2) := by decide +kernel
theorem dd_Collector_addTo_29 : decode bb_Collector_addTo 29 = .ok (.iload 5, 2) := by decide +kernel
theorem dd_Collector_addTo_31 : decode bb_Collector_addTo 31 = .ok (.bipush 19, 2) := by decide +kernel
theorem dd_Collector_addTo_33 : decode bb_Collector_addTo 33 = .ok (.if_icmp .eq 10, 3) := by decide +kernel
theorem dd_Collector_addTo_36 : decode bb_Collector_addTo 36 = .ok (.iload 5, 2) := by decide +kernel
theorem dd_Collector_addTo_38 : decode bb_Collector_addTo 38 = .ok (.bipush 20, 2) := by decide +kernel
theorem dd_Collector_addTo_40 : decode bb_Collector_addTo 40 = .ok (.if_icmp .ne 18, 3) := by decide +kernel
theorem dd_Collector_addTo_43 : decode bb_Collector_addTo 43 = .ok (.aload_n 0, 1) := by decide +kernel
theorem dd_Collector_addTo_44 : decode bb_Collector_addTo 44 = .ok (.getfield 21, 3) := by decide +kernel
theorem dd_Collector_addTo_47 : decode bb_Collector_addTo 47 = .ok (.iload_n 3, 1) := by decide +kernel
theorem dd_Collector_addTo_48 : decode bb_Collector_addTo 48 = .ok (.dup2, 1) := by decide +kernel
theorem dd_Collector_addTo_49 : decode bb_Collector_addTo 49 = .ok (.laload, 1) := by decide +kernel
theorem dd_Collector_addTo_50 : decode bb_Collector_addTo 50 = .ok (.iload 4, 2) := by decide +kernel
theorem dd_Collector_addTo_52 : decode bb_Collector_addTo 52 = .ok (.i2l, 1) := by decide +kernel
theorem dd_Collector_addTo_53 : decode bb_Collector_addTo 53 = .ok (.ladd, 1) := by decide +kernel
theorem dd_Collector_addTo_54 : decode bb_Collector_addTo 54 = .ok (.lastore, 1) := by decide +kernel
theorem dd_Collector_addTo_55 : decode bb_Collector_addTo 55 = .ok (.goto 56, 3) := by decide +kernel
theorem dd_Collector_addTo_58 : decode bb_Collector_addTo 58 = .ok (.iload 5, 2) := by decide +kernel
theorem dd_Collector_addTo_60 : decode bb_Collector_addTo 60 = .ok (.bipush 21, 2) := by decide +kernel
theorem dd_Collector_addTo_62 : decode bb_Collector_addTo 62 = .ok (.if_icmp .ne 24, 3) := by decide +kernel
theorem dd_Collector_addTo_65 : decode bb_Collector_addTo 65 = .ok (.aload_n 0, 1) := by decide +kernel
theorem dd_Collector_addTo_66 : decode bb_Collector_addTo 66 = .ok (.getfield 21, 3) := by decide +kernel
theorem dd_Collector_addTo_69 : decode bb_Collector_addTo 69 = .ok (.iload_n 3, 1) := by decide +kernel
theorem dd_Collector_addTo_70 : decode bb_Collector_addTo 70 = .ok (.aload_n 0, 1) := by decide +kernel
theorem dd_Collector_addTo_71 : decode bb_Collector_addTo 71 = .ok (.getfield 21, 3) := by decide +kernel
theorem dd_Collector_addTo_74 : decode bb_Collector_addTo 74 = .ok (.iload_n 3, 1) := by decide +kernel
theorem dd_Collector_addTo_75 : decode bb_Collector_addTo 75 = .ok (.laload, 1) := by decide +kernel
theorem dd_Collector_addTo_76 : decode bb_Collector_addTo 76 = .ok (.iload 4, 2) := by decide +kernel
theorem dd_Collector_addTo_78 : decode bb_Collector_addTo 78 = .ok (.i2l, 1) := by decide +kernel
theorem dd_Collector_addTo_79 : decode bb_Collector_addTo 79 = .ok (.invokestatic 116, 3) := by decide +kernel
theorem dd_Collector_addTo_82 : decode bb_Collector_addTo 82 = .ok (.lastore, 1) := by decide +kernel
theorem dd_Collector_addTo_83 : decode bb_Collector_addTo 83 = .ok (.goto 28, 3) := by decide +kernel
theorem dd_Collector_addTo_86 : decode bb_Collector_addTo 86 = .ok (.iload 5, 2) := by decide +kernel
theorem dd_Collector_addTo_88 : decode bb_Collector_addTo 88 = .ok (.bipush 22, 2) := by decide +kernel
theorem dd_Collector_addTo_90 : decode bb_Collector_addTo 90 = .ok (.if_icmp .ne 21, 3) := by decide +kernel
theorem dd_Collector_addTo_93 : decode bb_Collector_addTo 93 = .ok (.aload_n 0, 1) := by decide +kernel
theorem dd_Collector_addTo_94 : decode bb_Collector_addTo 94 = .ok (.getfield 21, 3) := by decide +kernel
theorem dd_Collector_addTo_97 : decode bb_Collector_addTo 97 = .ok (.iload_n 3, 1) := by decide +kernel
theorem dd_Collector_addTo_98 : decode bb_Collector_addTo 98 = .ok (.aload_n 0, 1) := by decide +kernel
theorem dd_Collector_addTo_99 : decode bb_Collector_addTo 99 = .ok (.getfield 21, 3) := by decide +kernel
theorem dd_Collector_addTo_102 : decode bb_Collector_addTo 102 = .ok (.iload_n 3, 1) := by decide +kernel
theorem dd_Collector_addTo_103 : decode bb_Collector_addTo 103 = .ok (.laload, 1) := by decide +kernel
theorem dd_Collector_addTo_104 : decode bb_Collector_addTo 104 = .ok (.iload 4, 2) := by decide +kernel
theorem dd_Collector_addTo_106 : decode bb_Collector_addTo 106 = .ok (.i2l, 1) := by decide +kernel
theorem dd_Collector_addTo_107 : decode bb_Collector_addTo 107 = .ok (.invokestatic 119, 3) := by decide +kernel
theorem dd_Collector_addTo_110 : decode bb_Collector_addTo 110 = .ok (.lastore, 1) := by decide +kernel
theorem dd_Collector_addTo_111 : decode bb_Collector_addTo 111 = .ok (.iinc 3 1, 3) := by decide +kernel
theorem dd_Collector_addTo_114 : decode bb_Collector_addTo 114 = .ok (.goto (-112), 3) := by decide +kernel
theorem dd_Collector_addTo_117 : decode bb_Collector_addTo 117 = .ok (.return_, 1) := by decide +kernel
set_option maxRecDepth 100000 in
set_option maxHeartbeats 4000000 in
theorem t_Collector_addTo_111  (X : zX p s m args cd D cid B bb_Collector_addTo 6 rr_Collector zT) (H : zH s meth B n0 none "addTo") {nf : Nat} {x0 : Nat} {x1 : Nat} {x2 : Int32} {x3 : Int32} {c : Zc} {r : (Nat × Nat × Int32 × Int32 × Zc) ⊕ (Zc)} (h : f_Collector_addTo_111 nf x0 x1 x2 x3 c = some r) (k0 : ∀ a, r = .inl a → (fun a : Nat × Nat × Int32 × Int32 × Zc => Zz p l e (zRm 1 23 0 0) s m args below meth cd Q D cid B 6 0 0 a.2.2.2.2 2 [(0, .ref a.1), (1, .ref a.2.1), (2, .int a.2.2.1), (3, .int a.2.2.2.1)] []) a) (k1 : ∀ b, r = .inr b → (fun b : Zc => Zz p l e (zRm 1 23 0 0) s m args below meth cd Q D cid B 6 0 0 b 117 [] []) b) : Zz p l e (zRm 1 23 0 0) s m args below meth cd Q D cid B 6 0 0 c 111 [(0, .ref x0), (1, .ref x1), (2, .int x2), (3, .int x3)] [] := by
  unfold f_Collector_addTo_111 at h
  refine z_iinc (v := (x3 + 1)) (lv' := [(3, .int (x3 + 1)), (0, .ref x0), (1, .ref x1), (2, .int x2)]) X dd_Collector_addTo_111 3 rfl rfl (by decide) rfl ?_
  refine z_goto (tgt := 2) X dd_Collector_addTo_114 (by decide) ?_
  refine z_sub [1, 2, 3, 0] rfl ?_
  obtain rfl := Option.some.inj h
  exact k0 _ rfl
set_option maxRecDepth 100000 in
set_option maxHeartbeats 4000000 in
theorem t_Collector_addTo_43  (X : zX p s m args cd D cid B bb_Collector_addTo 6 rr_Collector zT) (H : zH s meth B n0 none "addTo") {nf : Nat} {x0 : Nat} {x1 : Nat} {x2 : Int32} {x3 : Int32} {x4 : Int32} {c : Zc} {r : (Nat × Nat × Int32 × Int32 × Zc) ⊕ (Zc)} (h : f_Collector_addTo_43 nf x0 x1 x2 x3 x4 c = some r) (k0 : ∀ a, r = .inl a → (fun a : Nat × Nat × Int32 × Int32 × Zc => Zz p l e (zRm 1 23 0 0) s m args below meth cd Q D cid B 6 0 0 a.2.2.2.2 2 [(0, .ref a.1), (1, .ref a.2.1), (2, .int a.2.2.1), (3, .int a.2.2.2.1)] []) a) (k1 : ∀ b, r = .inr b → (fun b : Zc => Zz p l e (zRm 1 23 0 0) s m args below meth cd Q D cid B 6 0 0 b 117 [] []) b) : Zz p l e (zRm 1 23 0 0) s m args below meth cd Q D cid B 6 0 0 c 43 [(0, .ref x0), (1, .ref x1), (2, .int x2), (3, .int x3), (4, .int x4)] [] := by
  unfold f_Collector_addTo_43 at h
  refine z_aload_n X dd_Collector_addTo_43 rfl 0 rfl ?_
  obtain ⟨v9, ev9, h⟩ := zb h
  refine z_get (j := 3) X dd_Collector_addTo_44 kc_10 ki_10 (by decide) km_676 (zgr_v ev9) ?_
  refine z_iload_n X dd_Collector_addTo_47 rfl 3 rfl ?_
  refine z_dup2_11 X dd_Collector_addTo_48 rfl rfl ?_
  obtain ⟨v10, ev10, h⟩ := zb h
  refine z_laload X dd_Collector_addTo_49 rfl ev10 ?_
  refine z_iload X dd_Collector_addTo_50 4 rfl ?_
  refine z_i2l X dd_Collector_addTo_52 ?_
  refine z_ladd X dd_Collector_addTo_53 ?_
  obtain ⟨c11, ec11, h⟩ := zb h
  refine z_lastore X dd_Collector_addTo_54 rfl ec11 ?_
  refine z_goto (tgt := 111) X dd_Collector_addTo_55 (by decide) ?_
  refine z_sub [0, 1, 2, 3] rfl ?_
  exact t_Collector_addTo_111 X H h k0 k1
set_option maxRecDepth 100000 in
set_option maxHeartbeats 4000000 in
theorem u_Collector_addTo_2  (X : zX p s m args cd D cid B bb_Collector_addTo 6 rr_Collector zT) (H : zH s meth B n0 none "addTo") {nf : Nat} {x0 : Nat} {x1 : Nat} {x2 : Int32} {x3 : Int32} {c : Zc} {r : (Nat × Nat × Int32 × Int32 × Zc) ⊕ (Zc)} (h : g_Collector_addTo_2 nf x0 x1 x2 x3 c = some r) (k0 : ∀ a, r = .inl a → (fun a : Nat × Nat × Int32 × Int32 × Zc => Zz p l e (zRm 1 23 0 0) s m args below meth cd Q D cid B 6 0 0 a.2.2.2.2 2 [(0, .ref a.1), (1, .ref a.2.1), (2, .int a.2.2.1), (3, .int a.2.2.2.1)] []) a) (k1 : ∀ b, r = .inr b → (fun b : Zc => Zz p l e (zRm 1 23 0 0) s m args below meth cd Q D cid B 6 0 0 b 117 [] []) b) : Zz p l e (zRm 1 23 0 0) s m args below meth cd Q D cid B 6 0 0 c 2 [(0, .ref x0), (1, .ref x1), (2, .int x2), (3, .int x3)] [] := by
  unfold g_Collector_addTo_2 at h
  refine z_iload_n X dd_Collector_addTo_2 rfl 3 rfl ?_
  refine z_aload_n X dd_Collector_addTo_3 rfl 1 rfl ?_
  obtain ⟨v1, ev1, h⟩ := zb h
  refine z_get (j := 15) X dd_Collector_addTo_4 kc_2 ki_2 (by decide) km_345 (zgi_v ev1) ?_
  refine z_icmp_ge (tgt := 117) X dd_Collector_addTo_7 (by decide) (fun q2 => ?_) (fun q2 => ?_)
  · rw [if_pos q2] at h
    refine z_sub [] rfl ?_
    obtain rfl := Option.some.inj h
    exact k1 _ rfl
  · rw [if_neg q2] at h
    refine z_aload_n X dd_Collector_addTo_10 rfl 0 rfl ?_
    obtain ⟨v3, ev3, h⟩ := zb h
    refine z_get (j := 1) X dd_Collector_addTo_11 kc_10 ki_10 (by decide) km_674 (zgr_v ev3) ?_
    refine z_iload_n X dd_Collector_addTo_14 rfl 2 rfl ?_
    refine z_iload_n X dd_Collector_addTo_15 rfl 3 rfl ?_
    obtain ⟨w5, ew5, h⟩ := zb h
    obtain ⟨q4, eq4, h⟩ := zb h
    refine z_callVi X [.int x2, .int x3] rfl dd_Collector_addTo_16 (c_Rows_cell l eq4) (cwV 2 X.1.2.2.2.2 (zg_V km_1465 km_1466 km_1467 km_137 km_1468) rfl rfl rfl (by decide +kernel) ⟨Nat.le_of_ble_eq_true rfl, Nat.le_of_ble_eq_true rfl⟩) (zob_s ew5) kc_9 rfl (Nat.le_of_ble_eq_true rfl) ⟨Nat.le_of_ble_eq_true rfl, Nat.le_of_ble_eq_true rfl⟩ ?_
    refine z_istore (lv' := [(4, .int q4.1), (0, .ref x0), (1, .ref x1), (2, .int x2), (3, .int x3)]) X dd_Collector_addTo_19 (by decide) rfl ?_
    refine z_aload_n X dd_Collector_addTo_21 rfl 2 rfl ?_
    obtain ⟨v6, ev6, h⟩ := zb h
    refine z_get (j := 16) X dd_Collector_addTo_22 kc_2 ki_2 (by decide) km_349 (zgr_v ev6) ?_
    refine z_iload_n X dd_Collector_addTo_25 rfl 4 rfl ?_
    obtain ⟨v7, ev7, h⟩ := zb h
    refine z_iaload X dd_Collector_addTo_26 rfl ev7 ?_
    refine z_istore (lv' := [(5, .int v7), (4, .int q4.1), (0, .ref x0), (1, .ref x1), (2, .int x2), (3, .int x3)]) X dd_Collector_addTo_27 (by decide) rfl ?_
    refine z_iload X dd_Collector_addTo_29 0 rfl ?_
    refine z_bipush (v := 19) X dd_Collector_addTo_31 (by decide) ?_
    refine z_icmp_eq (tgt := 43) X dd_Collector_addTo_33 (by decide) (fun q8 => ?_) (fun q8 => ?_)
    · rw [if_pos q8] at h
      refine z_sub [2, 3, 4, 5, 1] rfl ?_
      exact t_Collector_addTo_43 X H h k0 k1
    · rw [if_neg q8] at h
      refine z_iload X dd_Collector_addTo_36 0 rfl ?_
      refine z_bipush (v := 20) X dd_Collector_addTo_38 (by decide) ?_
      refine z_icmp_ne (tgt := 58) X dd_Collector_addTo_40 (by decide) (fun q12 => ?_) (fun q12 => ?_)
      · rw [if_neg q12] at h
        refine z_iload X dd_Collector_addTo_58 0 rfl ?_
        refine z_bipush (v := 21) X dd_Collector_addTo_60 (by decide) ?_
        refine z_icmp_ne (tgt := 86) X dd_Collector_addTo_62 (by decide) (fun q13 => ?_) (fun q13 => ?_)
        · rw [if_neg q13] at h
          refine z_iload X dd_Collector_addTo_86 0 rfl ?_
          refine z_bipush (v := 22) X dd_Collector_addTo_88 (by decide) ?_
          refine z_icmp_ne (tgt := 111) X dd_Collector_addTo_90 (by decide) (fun q14 => ?_) (fun q14 => ?_)
          · rw [if_neg q14] at h
            refine z_sub [2, 3, 4, 5] rfl ?_
            exact t_Collector_addTo_111 X H h k0 k1
          · rw [if_pos q14] at h
            refine z_aload_n X dd_Collector_addTo_93 rfl 2 rfl ?_
            obtain ⟨v15, ev15, h⟩ := zb h
            refine z_get (j := 3) X dd_Collector_addTo_94 kc_10 ki_10 (by decide) km_676 (zgr_v ev15) ?_
            refine z_iload_n X dd_Collector_addTo_97 rfl 5 rfl ?_
            refine z_aload_n X dd_Collector_addTo_98 rfl 2 rfl ?_
            obtain ⟨v16, ev16, h⟩ := zb h
            refine z_get (j := 3) X dd_Collector_addTo_99 kc_10 ki_10 (by decide) km_676 (zgr_v ev16) ?_
            refine z_iload_n X dd_Collector_addTo_102 rfl 5 rfl ?_
            obtain ⟨v17, ev17, h⟩ := zb h
            refine z_laload X dd_Collector_addTo_103 rfl ev17 ?_
            refine z_iload X dd_Collector_addTo_104 1 rfl ?_
            refine z_i2l X dd_Collector_addTo_106 ?_
            obtain ⟨q18, eq18, h⟩ := zb h
            refine z_callSl X [.long v17, .long (Int32.toInt64 q4.1)] rfl dd_Collector_addTo_107 (c_Math_max_1 l eq18) (va_cwS 2 X.1.2.2.2.2 (zg_S km_1476 km_1477 km_139 km_1478) rfl rfl rfl (by decide +kernel) ⟨Nat.le_of_ble_eq_true rfl, Nat.le_of_ble_eq_true rfl⟩) rfl (Nat.le_of_ble_eq_true rfl) ⟨Nat.le_of_ble_eq_true rfl, Nat.le_of_ble_eq_true rfl⟩ ?_
            obtain ⟨c19, ec19, h⟩ := zb h
            refine z_lastore X dd_Collector_addTo_110 rfl ec19 ?_
            refine z_sub [2, 3, 4, 5] rfl ?_
            exact t_Collector_addTo_111 X H h k0 k1
        · rw [if_pos q13] at h
          refine z_aload_n X dd_Collector_addTo_65 rfl 2 rfl ?_
          obtain ⟨v20, ev20, h⟩ := zb h
          refine z_get (j := 3) X dd_Collector_addTo_66 kc_10 ki_10 (by decide) km_676 (zgr_v ev20) ?_
          refine z_iload_n X dd_Collector_addTo_69 rfl 5 rfl ?_
          refine z_aload_n X dd_Collector_addTo_70 rfl 2 rfl ?_
          obtain ⟨v21, ev21, h⟩ := zb h
          refine z_get (j := 3) X dd_Collector_addTo_71 kc_10 ki_10 (by decide) km_676 (zgr_v ev21) ?_
          refine z_iload_n X dd_Collector_addTo_74 rfl 5 rfl ?_
          obtain ⟨v22, ev22, h⟩ := zb h
          refine z_laload X dd_Collector_addTo_75 rfl ev22 ?_
          refine z_iload X dd_Collector_addTo_76 1 rfl ?_
          refine z_i2l X dd_Collector_addTo_78 ?_
          obtain ⟨q23, eq23, h⟩ := zb h
          refine z_callSl X [.long v22, .long (Int32.toInt64 q4.1)] rfl dd_Collector_addTo_79 (c_Math_min_1 l eq23) (va_cwS 2 X.1.2.2.2.2 (zg_S km_1473 km_1474 km_139 km_1475) rfl rfl rfl (by decide +kernel) ⟨Nat.le_of_ble_eq_true rfl, Nat.le_of_ble_eq_true rfl⟩) rfl (Nat.le_of_ble_eq_true rfl) ⟨Nat.le_of_ble_eq_true rfl, Nat.le_of_ble_eq_true rfl⟩ ?_
          obtain ⟨c24, ec24, h⟩ := zb h
          refine z_lastore X dd_Collector_addTo_82 rfl ec24 ?_
          refine z_goto (tgt := 111) X dd_Collector_addTo_83 (by decide) ?_
          refine z_sub [2, 3, 4, 5] rfl ?_
          exact t_Collector_addTo_111 X H h k0 k1
      · rw [if_pos q12] at h
        refine z_sub [2, 3, 4, 5, 1] rfl ?_
        exact t_Collector_addTo_43 X H h k0 k1
set_option maxRecDepth 100000 in
set_option maxHeartbeats 4000000 in
theorem t_Collector_addTo_2  (X : zX p s m args cd D cid B bb_Collector_addTo 6 rr_Collector zT) (H : zH s meth B n0 none "addTo") {nf : Nat} {x0 : Nat} {x1 : Nat} {x2 : Int32} {x3 : Int32} {c : Zc} {res : Zc} (h : f_Collector_addTo_2 nf x0 x1 x2 x3 c = some res) : Zz p l e (zRm 1 23 0 0) s m args below meth cd (MQ below (zQv D cid B res n0 0) args s 0 0 (fun q => B ≤ q)) D cid B 6 0 0 c 2 [(0, .ref x0), (1, .ref x1), (2, .int x2), (3, .int x3)] [] := by
  unfold f_Collector_addTo_2 at h
  obtain ⟨b, eb, h⟩ := zb h
  refine zlp_ok (P := fun a : Nat × Nat × Int32 × Int32 × Zc => Zz p l e (zRm 1 23 0 0) s m args below meth cd _ D cid B 6 0 0 a.2.2.2.2 2 [(0, .ref a.1), (1, .ref a.2.1), (2, .int a.2.2.1), (3, .int a.2.2.2.1)] []) (G := fun b : Zc => Zz p l e (zRm 1 23 0 0) s m args below meth cd _ D cid B 6 0 0 b 117 [] []) (fun a r ha k0 k1 => u_Collector_addTo_2 X H ha k0 k1) nf _ b eb ?_
  obtain rfl := Option.some.inj h
  exact z_vret X H.1 H.2.1 H.2.2.1 dd_Collector_addTo_117
set_option maxRecDepth 100000 in
set_option maxHeartbeats 4000000 in
theorem c_Collector_addTo (l : Launch) {nf : Nat} {a0 : Nat} {a1 : Nat} {a2 : Int32} {c : Zc} {res : Zc} (h : f_Collector_addTo nf a0 a1 a2 c = some res) : zM l yy_Collector_addTo ww_Collector_addTo 1 23 0 0 [.ref a0, .ref a1, .int a2] c (fun D cid B => zQv D cid B res c.length 0) := by
  refine z_met (cc := bb_Collector_addTo) (maxL := 6) (ret := none) (by decide +kernel) rfl (Nat.le_of_ble_eq_true rfl) ?_
  intro p e s m args below meth cd D cid B X h1 h2 h3 h4
  have X : zX p s m args cd D cid B bb_Collector_addTo 6 rr_Collector zT := X
  have H : zH s meth B c.length none "addTo" := ⟨h1, h2, h4, h3⟩
  unfold f_Collector_addTo at h
  show Zz p l e (zRm 1 23 0 0) s m args below meth cd _ D cid B 6 0 0 c 0 [(0, .ref a0), (1, .ref a1), (2, .int a2)] []
  refine z_iconst (v := 0) X dd_Collector_addTo_0 (by decide) ?_
  refine z_istore_n (lv' := [(3, .int 0), (0, .ref a0), (1, .ref a1), (2, .int a2)]) X dd_Collector_addTo_1 rfl (by decide) rfl ?_
  refine z_sub [1, 2, 3, 0] rfl ?_
  exact t_Collector_addTo_2 X H h
theorem dd_Collector_fold_0 : decode bb_Collector_fold 0 = .ok (.aload_n 0, 1) := by decide +kernel
theorem dd_Collector_fold_1 : decode bb_Collector_fold 1 = .ok (.getfield 18, 3) := by decide +kernel
theorem dd_Collector_fold_4 : decode bb_Collector_fold 4 = .ok (.aload_n 1, 1) := by decide +kernel
theorem dd_Collector_fold_5 : decode bb_Collector_fold 5 = .ok (.getfield 45, 3) := by decide +kernel
theorem dd_Collector_fold_8 : decode bb_Collector_fold 8 = .ok (.invokevirtual 51, 3) := by decide +kernel
theorem dd_Collector_fold_11 : decode bb_Collector_fold 11 = .ok (.iconst 0, 1) := by decide +kernel
theorem dd_Collector_fold_12 : decode bb_Collector_fold 12 = .ok (.istore_n 3, 1) := by decide +kernel
theorem dd_Collector_fold_13 : decode bb_Collector_fold 13 = .ok (.iload_n 3, 1) := by decide +kernel
theorem dd_Collector_fold_14 : decode bb_Collector_fold 14 = .ok (.aload_n 0, 1) := by decide +kernel
theorem dd_Collector_fold_15 : decode bb_Collector_fold 15 = .ok (.getfield 12, 3) := by decide +kernel
theorem dd_Collector_fold_18 : decode bb_Collector_fold 18 = .ok (.getfield 54, 3) := by decide +kernel
theorem dd_Collector_fold_21 : decode bb_Collector_fold 21 = .ok (.if_icmp .ge 137, 3) := by decide +kernel
theorem dd_Collector_fold_24 : decode bb_Collector_fold 24 = .ok (.aload_n 0, 1) := by decide +kernel
theorem dd_Collector_fold_25 : decode bb_Collector_fold 25 = .ok (.getfield 12, 3) := by decide +kernel
theorem dd_Collector_fold_28 : decode bb_Collector_fold 28 = .ok (.iload_n 3, 1) := by decide +kernel
theorem dd_Collector_fold_29 : decode bb_Collector_fold 29 = .ok (.invokevirtual 72, 3) := by decide +kernel
theorem dd_Collector_fold_32 : decode bb_Collector_fold 32 = .ok (.istore 4, 2) := by decide +kernel
theorem dd_Collector_fold_34 : decode bb_Collector_fold 34 = .ok (.iload_n 3, 1) := by decide +kernel
theorem dd_Collector_fold_35 : decode bb_Collector_fold 35 = .ok (.ifCond .eq 26, 3) := by decide +kernel
theorem dd_Collector_fold_38 : decode bb_Collector_fold 38 = .ok (.aload_n 0, 1) := by decide +kernel
theorem dd_Collector_fold_39 : decode bb_Collector_fold 39 = .ok (.getfield 12, 3) := by decide +kernel
theorem dd_Collector_fold_42 : decode bb_Collector_fold 42 = .ok (.aload_n 0, 1) := by decide +kernel
theorem dd_Collector_fold_43 : decode bb_Collector_fold 43 = .ok (.getfield 12, 3) := by decide +kernel
theorem dd_Collector_fold_46 : decode bb_Collector_fold 46 = .ok (.iload_n 3, 1) := by decide +kernel
theorem dd_Collector_fold_47 : decode bb_Collector_fold 47 = .ok (.iconst 1, 1) := by decide +kernel
theorem dd_Collector_fold_48 : decode bb_Collector_fold 48 = .ok (.isub, 1) := by decide +kernel
theorem dd_Collector_fold_49 : decode bb_Collector_fold 49 = .ok (.invokevirtual 72, 3) := by decide +kernel
theorem dd_Collector_fold_52 : decode bb_Collector_fold 52 = .ok (.iload 4, 2) := by decide +kernel
theorem dd_Collector_fold_54 : decode bb_Collector_fold 54 = .ok (.iload_n 2, 1) := by decide +kernel
theorem dd_Collector_fold_55 : decode bb_Collector_fold 55 = .ok (.invokevirtual 105, 3) := by decide +kernel
theorem dd_Collector_fold_58 : decode bb_Collector_fold 58 = .ok (.ifCond .eq 50, 3) := by decide +kernel
theorem dd_Collector_fold_61 : decode bb_Collector_fold 61 = .ok (.aload_n 0, 1) := by decide +kernel
theorem dd_Collector_fold_62 : decode bb_Collector_fold 62 = .ok (.getfield 18, 3) := by decide +kernel
theorem dd_Collector_fold_65 : decode bb_Collector_fold 65 = .ok (.invokevirtual 69, 3) := by decide +kernel
theorem dd_Collector_fold_68 : decode bb_Collector_fold 68 = .ok (.iconst 0, 1) := by decide +kernel
theorem dd_Collector_fold_69 : decode bb_Collector_fold 69 = .ok (.istore 5, 2) := by decide +kernel
theorem dd_Collector_fold_71 : decode bb_Collector_fold 71 = .ok (.iload 5, 2) := by decide +kernel
theorem dd_Collector_fold_73 : decode bb_Collector_fold 73 = .ok (.aload_n 1, 1) := by decide +kernel
theorem dd_Collector_fold_74 : decode bb_Collector_fold 74 = .ok (.getfield 45, 3) := by decide +kernel
theorem dd_Collector_fold_77 : decode bb_Collector_fold 77 = .ok (.if_icmp .ge 28, 3) := by decide +kernel
theorem dd_Collector_fold_80 : decode bb_Collector_fold 80 = .ok (.aload_n 0, 1) := by decide +kernel
theorem dd_Collector_fold_81 : decode bb_Collector_fold 81 = .ok (.getfield 21, 3) := by decide +kernel
theorem dd_Collector_fold_84 : decode bb_Collector_fold 84 = .ok (.iload 5, 2) := by decide +kernel
theorem dd_Collector_fold_86 : decode bb_Collector_fold 86 = .ok (.aload_n 0, 1) := by decide +kernel
theorem dd_Collector_fold_87 : decode bb_Collector_fold 87 = .ok (.getfield 12, 3) := by decide +kernel
theorem dd_Collector_fold_90 : decode bb_Collector_fold 90 = .ok (.iload 4, 2) := by decide +kernel
theorem dd_Collector_fold_92 : decode bb_Collector_fold 92 = .ok (.iload 5, 2) := by decide +kernel
theorem dd_Collector_fold_94 : decode bb_Collector_fold 94 = .ok (.invokevirtual 76, 3) := by decide +kernel
theorem dd_Collector_fold_97 : decode bb_Collector_fold 97 = .ok (.i2l, 1) := by decide +kernel
theorem dd_Collector_fold_98 : decode bb_Collector_fold 98 = .ok (.lastore, 1) := by decide +kernel
theorem dd_Collector_fold_99 : decode bb_Collector_fold 99 = .ok (.iinc 5 1, 3) := by decide +kernel
theorem dd_Collector_fold_102 : decode bb_Collector_fold 102 = .ok (.goto (-31), 3) := by decide +kernel
theorem dd_Collector_fold_105 : decode bb_Collector_fold 105 = .ok (.goto 10, 3) := by decide +kernel
theorem dd_Collector_fold_108 : decode bb_Collector_fold 108 = .ok (.aload_n 0, 1) := by decide +kernel
theorem dd_Collector_fold_109 : decode bb_Collector_fold 109 = .ok (.aload_n 1, 1) := by decide +kernel
theorem dd_Collector_fold_110 : decode bb_Collector_fold 110 = .ok (.iload 4, 2) := by decide +kernel
theorem dd_Collector_fold_112 : decode bb_Collector_fold 112 = .ok (.invokevirtual 109, 3) := by decide +kernel
theorem dd_Collector_fold_115 : decode bb_Collector_fold 115 = .ok (.iconst 0, 1) := by decide +kernel
theorem dd_Collector_fold_116 : decode bb_Collector_fold 116 = .ok (.istore 5, 2) := by decide +kernel
theorem dd_Collector_fold_118 : decode bb_Collector_fold 118 = .ok (.iload 5, 2) := by decide +kernel
theorem dd_Collector_fold_120 : decode bb_Collector_fold 120 = .ok (.aload_n 1, 1) := by decide +kernel
theorem dd_Collector_fold_121 : decode bb_Collector_fold 121 = .ok (.getfield 45, 3) := by decide +kernel
theorem dd_Collector_fold_124 : decode bb_Collector_fold 124 = .ok (.if_icmp .ge 28, 3) := by decide +kernel
theorem dd_Collector_fold_127 : decode bb_Collector_fold 127 = .ok (.aload_n 0, 1) := by decide +kernel
theorem dd_Collector_fold_128 : decode bb_Collector_fold 128 = .ok (.getfield 18, 3) := by decide +kernel
theorem dd_Collector_fold_131 : decode bb_Collector_fold 131 = .ok (.iload 5, 2) := by decide +kernel
theorem dd_Collector_fold_133 : decode bb_Collector_fold 133 = .ok (.aload_n 0, 1) := by decide +kernel
theorem dd_Collector_fold_134 : decode bb_Collector_fold 134 = .ok (.getfield 21, 3) := by decide +kernel
theorem dd_Collector_fold_137 : decode bb_Collector_fold 137 = .ok (.iload 5, 2) := by decide +kernel
theorem dd_Collector_fold_139 : decode bb_Collector_fold 139 = .ok (.laload, 1) := by decide +kernel
theorem dd_Collector_fold_140 : decode bb_Collector_fold 140 = .ok (.invokestatic 112, 3) := by decide +kernel
theorem dd_Collector_fold_143 : decode bb_Collector_fold 143 = .ok (.invokevirtual 79, 3) := by decide +kernel
theorem dd_Collector_fold_146 : decode bb_Collector_fold 146 = .ok (.iinc 5 1, 3) := by decide +kernel
theorem dd_Collector_fold_149 : decode bb_Collector_fold 149 = .ok (.goto (-31), 3) := by decide +kernel
theorem dd_Collector_fold_152 : decode bb_Collector_fold 152 = .ok (.iinc 3 1, 3) := by decide +kernel
theorem dd_Collector_fold_155 : decode bb_Collector_fold 155 = .ok (.goto (-142), 3) := by decide +kernel
theorem dd_Collector_fold_158 : decode bb_Collector_fold 158 = .ok (.return_, 1) := by decide +kernel
set_option maxRecDepth 100000 in
set_option maxHeartbeats 4000000 in
theorem u_Collector_fold_71  (X : zX p s m args cd D cid B bb_Collector_fold 6 rr_Collector zT) (H : zH s meth B n0 none "fold") {nf mc ms : Nat} {x0 : Nat} {x1 : Nat} {x2 : Int32} {x3 : Int32} {x4 : Int32} {x5 : Int32} {kk : Nat} {nn : Nat} {c : Zc} {r : (Nat × Nat × Int32 × Int32 × Int32 × Int32 × Nat × Nat × Zc) ⊕ (Nat × Nat × Int32 × Int32 × Nat × Nat × Zc)} (h : g_Collector_fold_71 nf x0 x1 x2 x3 x4 x5 kk nn c = some r) (k0 : ∀ a, r = .inl a → (fun a : Nat × Nat × Int32 × Int32 × Int32 × Int32 × Nat × Nat × Zc => ((a.2.2.2.2.2.2.1 ≤ mc ∧ a.2.2.2.2.2.2.2.1 ≤ ms) ∧ Zz p l e (zRm 4 123 mc ms) s m args below meth cd Q D cid B 6 a.2.2.2.2.2.2.1 a.2.2.2.2.2.2.2.1 a.2.2.2.2.2.2.2.2 71 [(0, .ref a.1), (1, .ref a.2.1), (2, .int a.2.2.1), (3, .int a.2.2.2.1), (4, .int a.2.2.2.2.1), (5, .int a.2.2.2.2.2.1)] [])) a) (k1 : ∀ b, r = .inr b → (fun b : Nat × Nat × Int32 × Int32 × Nat × Nat × Zc => ((b.2.2.2.2.1 ≤ mc ∧ b.2.2.2.2.2.1 ≤ ms) ∧ Zz p l e (zRm 4 123 mc ms) s m args below meth cd Q D cid B 6 b.2.2.2.2.1 b.2.2.2.2.2.1 b.2.2.2.2.2.2 105 [(0, .ref b.1), (1, .ref b.2.1), (2, .int b.2.2.1), (3, .int b.2.2.2.1)] [])) b) : ((kk ≤ mc ∧ nn ≤ ms) ∧ Zz p l e (zRm 4 123 mc ms) s m args below meth cd Q D cid B 6 kk nn c 71 [(0, .ref x0), (1, .ref x1), (2, .int x2), (3, .int x3), (4, .int x4), (5, .int x5)] []) := by
  unfold g_Collector_fold_71 at h
  refine zpr (z_iload X dd_Collector_fold_71 5 rfl) ?_
  refine zpr (z_aload_n X dd_Collector_fold_73 rfl 1 rfl) ?_
  obtain ⟨v15, ev15, h⟩ := zb h
  refine zpr (z_get (j := 15) X dd_Collector_fold_74 kc_2 ki_2 (by decide) km_345 (zgi_v ev15)) ?_
  refine zpr2 (z_icmp_ge (tgt := 105) X dd_Collector_fold_77 (by decide)) (fun q16 => ?_) (fun q16 => ?_)
  · rw [if_pos q16] at h
    refine zpr (z_sub [0, 1, 2, 3] rfl) ?_
    obtain rfl := Option.some.inj h
    exact k1 _ rfl
  · rw [if_neg q16] at h
    refine zpr (z_aload_n X dd_Collector_fold_80 rfl 0 rfl) ?_
    obtain ⟨v17, ev17, h⟩ := zb h
    refine zpr (z_get (j := 3) X dd_Collector_fold_81 kc_10 ki_10 (by decide) km_676 (zgr_v ev17)) ?_
    refine zpr (z_iload X dd_Collector_fold_84 5 rfl) ?_
    refine zpr (z_aload_n X dd_Collector_fold_86 rfl 0 rfl) ?_
    obtain ⟨v18, ev18, h⟩ := zb h
    refine zpr (z_get (j := 1) X dd_Collector_fold_87 kc_10 ki_10 (by decide) km_674 (zgr_v ev18)) ?_
    refine zpr (z_iload X dd_Collector_fold_90 4 rfl) ?_
    refine zpr (z_iload X dd_Collector_fold_92 5 rfl) ?_
    obtain ⟨w20, ew20, h⟩ := zb h
    obtain ⟨q19, eq19, h⟩ := zb h
    refine zpc (fun hm => z_callVi X [.int x4, .int x5] rfl dd_Collector_fold_94 (c_Rows_cell l eq19) (cwV 2 X.1.2.2.2.2 (zg_V km_1465 km_1466 km_1467 km_137 km_1468) rfl rfl rfl (by decide +kernel) ⟨Nat.le_of_ble_eq_true rfl, Nat.le_of_ble_eq_true rfl⟩) (zob_s ew20) kc_9 rfl (Nat.le_of_ble_eq_true rfl) hm) ?_
    refine zpr (z_i2l X dd_Collector_fold_97) ?_
    obtain ⟨c21, ec21, h⟩ := zb h
    refine zpr (z_lastore X dd_Collector_fold_98 rfl ec21) ?_
    refine zpr (z_iinc (v := (x5 + 1)) (lv' := [(5, .int (x5 + 1)), (0, .ref x0), (1, .ref x1), (2, .int x2), (3, .int x3), (4, .int x4)]) X dd_Collector_fold_99 5 rfl rfl (by decide) rfl) ?_
    refine zpr (z_goto (tgt := 71) X dd_Collector_fold_102 (by decide)) ?_
    refine zpr (z_sub [1, 2, 3, 4, 5, 0] rfl) ?_
    obtain rfl := Option.some.inj h
    exact k0 _ rfl
set_option maxRecDepth 100000 in
set_option maxHeartbeats 4000000 in
theorem u_Collector_fold_118  (X : zX p s m args cd D cid B bb_Collector_fold 6 rr_Collector zT) (H : zH s meth B n0 none "fold") {nf mc ms : Nat} {x0 : Nat} {x1 : Nat} {x2 : Int32} {x3 : Int32} {x5 : Int32} {kk : Nat} {nn : Nat} {c : Zc} {r : (Nat × Nat × Int32 × Int32 × Int32 × Nat × Nat × Zc) ⊕ (Nat × Nat × Int32 × Int32 × Nat × Nat × Zc)} (h : g_Collector_fold_118 nf x0 x1 x2 x3 x5 kk nn c = some r) (k0 : ∀ a, r = .inl a → (fun a : Nat × Nat × Int32 × Int32 × Int32 × Nat × Nat × Zc => ((a.2.2.2.2.2.1 ≤ mc ∧ a.2.2.2.2.2.2.1 ≤ ms) ∧ Zz p l e (zRm 4 123 mc ms) s m args below meth cd Q D cid B 6 a.2.2.2.2.2.1 a.2.2.2.2.2.2.1 a.2.2.2.2.2.2.2 118 [(0, .ref a.1), (1, .ref a.2.1), (2, .int a.2.2.1), (3, .int a.2.2.2.1), (5, .int a.2.2.2.2.1)] [])) a) (k1 : ∀ b, r = .inr b → (fun b : Nat × Nat × Int32 × Int32 × Nat × Nat × Zc => ((b.2.2.2.2.1 ≤ mc ∧ b.2.2.2.2.2.1 ≤ ms) ∧ Zz p l e (zRm 4 123 mc ms) s m args below meth cd Q D cid B 6 b.2.2.2.2.1 b.2.2.2.2.2.1 b.2.2.2.2.2.2 152 [(0, .ref b.1), (1, .ref b.2.1), (2, .int b.2.2.1), (3, .int b.2.2.2.1)] [])) b) : ((kk ≤ mc ∧ nn ≤ ms) ∧ Zz p l e (zRm 4 123 mc ms) s m args below meth cd Q D cid B 6 kk nn c 118 [(0, .ref x0), (1, .ref x1), (2, .int x2), (3, .int x3), (5, .int x5)] []) := by
  unfold g_Collector_fold_118 at h
  refine zpr (z_iload X dd_Collector_fold_118 4 rfl) ?_
  refine zpr (z_aload_n X dd_Collector_fold_120 rfl 1 rfl) ?_
  obtain ⟨v22, ev22, h⟩ := zb h
  refine zpr (z_get (j := 15) X dd_Collector_fold_121 kc_2 ki_2 (by decide) km_345 (zgi_v ev22)) ?_
  refine zpr2 (z_icmp_ge (tgt := 152) X dd_Collector_fold_124 (by decide)) (fun q23 => ?_) (fun q23 => ?_)
  · rw [if_pos q23] at h
    refine zpr (z_sub [0, 1, 2, 3] rfl) ?_
    obtain rfl := Option.some.inj h
    exact k1 _ rfl
  · rw [if_neg q23] at h
    refine zpr (z_aload_n X dd_Collector_fold_127 rfl 0 rfl) ?_
    obtain ⟨v24, ev24, h⟩ := zb h
    refine zpr (z_get (j := 2) X dd_Collector_fold_128 kc_10 ki_10 (by decide) km_675 (zgr_v ev24)) ?_
    refine zpr (z_iload X dd_Collector_fold_131 4 rfl) ?_
    refine zpr (z_aload_n X dd_Collector_fold_133 rfl 0 rfl) ?_
    obtain ⟨v25, ev25, h⟩ := zb h
    refine zpr (z_get (j := 3) X dd_Collector_fold_134 kc_10 ki_10 (by decide) km_676 (zgr_v ev25)) ?_
    refine zpr (z_iload X dd_Collector_fold_137 4 rfl) ?_
    obtain ⟨v26, ev26, h⟩ := zb h
    refine zpr (z_laload X dd_Collector_fold_139 rfl ev26) ?_
    obtain ⟨q27, eq27, h⟩ := zb h
    refine zpc (fun hm => z_callSi X [.long v26] rfl dd_Collector_fold_140 (c_Finder_bounded l eq27) (va_cwS 1 X.1.2.2.2.2 (zg_S km_1479 km_1377 km_133 km_1378) rfl rfl rfl (by decide +kernel) ⟨Nat.le_of_ble_eq_true rfl, Nat.le_of_ble_eq_true rfl⟩) rfl (Nat.le_of_ble_eq_true rfl) hm) ?_
    obtain ⟨w29, ew29, h⟩ := zb h
    obtain ⟨q28, eq28, h⟩ := zb h
    refine zpc (fun hm => z_callVv X [.int x5, .int q27.1] rfl dd_Collector_fold_143 (c_Rows_setCell l eq28) (cwV 2 X.1.2.2.2.2 (zg_V km_1436 km_1437 km_1438 km_137 km_1439) rfl rfl rfl (by decide +kernel) ⟨Nat.le_of_ble_eq_true rfl, Nat.le_of_ble_eq_true rfl⟩) (zob_s ew29) kc_9 rfl (Nat.le_of_ble_eq_true rfl) hm) ?_
    refine zpr (z_iinc (v := (x5 + 1)) (lv' := [(5, .int (x5 + 1)), (0, .ref x0), (1, .ref x1), (2, .int x2), (3, .int x3)]) X dd_Collector_fold_146 4 rfl rfl (by decide) rfl) ?_
    refine zpr (z_goto (tgt := 118) X dd_Collector_fold_149 (by decide)) ?_
    refine zpr (z_sub [1, 2, 3, 4, 0] rfl) ?_
    obtain rfl := Option.some.inj h
    exact k0 _ rfl
set_option maxRecDepth 100000 in
set_option maxHeartbeats 4000000 in
theorem t_Collector_fold_118  (X : zX p s m args cd D cid B bb_Collector_fold 6 rr_Collector zT) (H : zH s meth B n0 none "fold") {nf mc ms : Nat} {x0 : Nat} {x1 : Nat} {x2 : Int32} {x3 : Int32} {x5 : Int32} {kk : Nat} {nn : Nat} {c : Zc} {r : (Nat × Nat × Int32 × Int32 × Nat × Nat × Zc) ⊕ (Nat × Nat × Zc)} (h : f_Collector_fold_118 nf x0 x1 x2 x3 x5 kk nn c = some r) (k0 : ∀ a, r = .inl a → (fun a : Nat × Nat × Int32 × Int32 × Nat × Nat × Zc => ((a.2.2.2.2.1 ≤ mc ∧ a.2.2.2.2.2.1 ≤ ms) ∧ Zz p l e (zRm 4 123 mc ms) s m args below meth cd Q D cid B 6 a.2.2.2.2.1 a.2.2.2.2.2.1 a.2.2.2.2.2.2 13 [(0, .ref a.1), (1, .ref a.2.1), (2, .int a.2.2.1), (3, .int a.2.2.2.1)] [])) a) (k1 : ∀ b, r = .inr b → (fun b : Nat × Nat × Zc => ((b.1 ≤ mc ∧ b.2.1 ≤ ms) ∧ Zz p l e (zRm 4 123 mc ms) s m args below meth cd Q D cid B 6 b.1 b.2.1 b.2.2 158 [] [])) b) : ((kk ≤ mc ∧ nn ≤ ms) ∧ Zz p l e (zRm 4 123 mc ms) s m args below meth cd Q D cid B 6 kk nn c 118 [(0, .ref x0), (1, .ref x1), (2, .int x2), (3, .int x3), (5, .int x5)] []) := by
  unfold f_Collector_fold_118 at h
  obtain ⟨b, eb, h⟩ := zb h
  refine zlp_ok (P := fun a : Nat × Nat × Int32 × Int32 × Int32 × Nat × Nat × Zc => ((a.2.2.2.2.2.1 ≤ mc ∧ a.2.2.2.2.2.2.1 ≤ ms) ∧ Zz p l e (zRm 4 123 mc ms) s m args below meth cd _ D cid B 6 a.2.2.2.2.2.1 a.2.2.2.2.2.2.1 a.2.2.2.2.2.2.2 118 [(0, .ref a.1), (1, .ref a.2.1), (2, .int a.2.2.1), (3, .int a.2.2.2.1), (5, .int a.2.2.2.2.1)] [])) (G := fun b : Nat × Nat × Int32 × Int32 × Nat × Nat × Zc => ((b.2.2.2.2.1 ≤ mc ∧ b.2.2.2.2.2.1 ≤ ms) ∧ Zz p l e (zRm 4 123 mc ms) s m args below meth cd _ D cid B 6 b.2.2.2.2.1 b.2.2.2.2.2.1 b.2.2.2.2.2.2 152 [(0, .ref b.1), (1, .ref b.2.1), (2, .int b.2.2.1), (3, .int b.2.2.2.1)] [])) (fun a r ha k0 k1 => u_Collector_fold_118 X H ha k0 k1) nf _ b eb ?_
  refine zpr (z_iinc (v := (b.2.2.2.1 + 1)) (lv' := [(3, .int (b.2.2.2.1 + 1)), (0, .ref b.1), (1, .ref b.2.1), (2, .int b.2.2.1)]) X dd_Collector_fold_152 3 rfl rfl (by decide) rfl) ?_
  refine zpr (z_goto (tgt := 13) X dd_Collector_fold_155 (by decide)) ?_
  refine zpr (z_sub [1, 2, 3, 0] rfl) ?_
  obtain rfl := Option.some.inj h
  exact k0 _ rfl
set_option maxRecDepth 100000 in
set_option maxHeartbeats 4000000 in
theorem t_Collector_fold_115  (X : zX p s m args cd D cid B bb_Collector_fold 6 rr_Collector zT) (H : zH s meth B n0 none "fold") {nf mc ms : Nat} {x0 : Nat} {x1 : Nat} {x2 : Int32} {x3 : Int32} {kk : Nat} {nn : Nat} {c : Zc} {r : (Nat × Nat × Int32 × Int32 × Nat × Nat × Zc) ⊕ (Nat × Nat × Zc)} (h : f_Collector_fold_115 nf x0 x1 x2 x3 kk nn c = some r) (k0 : ∀ a, r = .inl a → (fun a : Nat × Nat × Int32 × Int32 × Nat × Nat × Zc => ((a.2.2.2.2.1 ≤ mc ∧ a.2.2.2.2.2.1 ≤ ms) ∧ Zz p l e (zRm 4 123 mc ms) s m args below meth cd Q D cid B 6 a.2.2.2.2.1 a.2.2.2.2.2.1 a.2.2.2.2.2.2 13 [(0, .ref a.1), (1, .ref a.2.1), (2, .int a.2.2.1), (3, .int a.2.2.2.1)] [])) a) (k1 : ∀ b, r = .inr b → (fun b : Nat × Nat × Zc => ((b.1 ≤ mc ∧ b.2.1 ≤ ms) ∧ Zz p l e (zRm 4 123 mc ms) s m args below meth cd Q D cid B 6 b.1 b.2.1 b.2.2 158 [] [])) b) : ((kk ≤ mc ∧ nn ≤ ms) ∧ Zz p l e (zRm 4 123 mc ms) s m args below meth cd Q D cid B 6 kk nn c 115 [(0, .ref x0), (1, .ref x1), (2, .int x2), (3, .int x3)] []) := by
  unfold f_Collector_fold_115 at h
  refine zpr (z_iconst (v := 0) X dd_Collector_fold_115 (by decide)) ?_
  refine zpr (z_istore (lv' := [(5, .int 0), (0, .ref x0), (1, .ref x1), (2, .int x2), (3, .int x3)]) X dd_Collector_fold_116 (by decide) rfl) ?_
  refine zpr (z_sub [1, 2, 3, 4, 0] rfl) ?_
  exact t_Collector_fold_118 X H h k0 k1
set_option maxRecDepth 100000 in
set_option maxHeartbeats 4000000 in
theorem t_Collector_fold_71  (X : zX p s m args cd D cid B bb_Collector_fold 6 rr_Collector zT) (H : zH s meth B n0 none "fold") {nf mc ms : Nat} {x0 : Nat} {x1 : Nat} {x2 : Int32} {x3 : Int32} {x4 : Int32} {x5 : Int32} {kk : Nat} {nn : Nat} {c : Zc} {r : (Nat × Nat × Int32 × Int32 × Nat × Nat × Zc) ⊕ (Nat × Nat × Zc)} (h : f_Collector_fold_71 nf x0 x1 x2 x3 x4 x5 kk nn c = some r) (k0 : ∀ a, r = .inl a → (fun a : Nat × Nat × Int32 × Int32 × Nat × Nat × Zc => ((a.2.2.2.2.1 ≤ mc ∧ a.2.2.2.2.2.1 ≤ ms) ∧ Zz p l e (zRm 4 123 mc ms) s m args below meth cd Q D cid B 6 a.2.2.2.2.1 a.2.2.2.2.2.1 a.2.2.2.2.2.2 13 [(0, .ref a.1), (1, .ref a.2.1), (2, .int a.2.2.1), (3, .int a.2.2.2.1)] [])) a) (k1 : ∀ b, r = .inr b → (fun b : Nat × Nat × Zc => ((b.1 ≤ mc ∧ b.2.1 ≤ ms) ∧ Zz p l e (zRm 4 123 mc ms) s m args below meth cd Q D cid B 6 b.1 b.2.1 b.2.2 158 [] [])) b) : ((kk ≤ mc ∧ nn ≤ ms) ∧ Zz p l e (zRm 4 123 mc ms) s m args below meth cd Q D cid B 6 kk nn c 71 [(0, .ref x0), (1, .ref x1), (2, .int x2), (3, .int x3), (4, .int x4), (5, .int x5)] []) := by
  unfold f_Collector_fold_71 at h
  obtain ⟨b, eb, h⟩ := zb h
  refine zlp_ok (P := fun a : Nat × Nat × Int32 × Int32 × Int32 × Int32 × Nat × Nat × Zc => ((a.2.2.2.2.2.2.1 ≤ mc ∧ a.2.2.2.2.2.2.2.1 ≤ ms) ∧ Zz p l e (zRm 4 123 mc ms) s m args below meth cd _ D cid B 6 a.2.2.2.2.2.2.1 a.2.2.2.2.2.2.2.1 a.2.2.2.2.2.2.2.2 71 [(0, .ref a.1), (1, .ref a.2.1), (2, .int a.2.2.1), (3, .int a.2.2.2.1), (4, .int a.2.2.2.2.1), (5, .int a.2.2.2.2.2.1)] [])) (G := fun b : Nat × Nat × Int32 × Int32 × Nat × Nat × Zc => ((b.2.2.2.2.1 ≤ mc ∧ b.2.2.2.2.2.1 ≤ ms) ∧ Zz p l e (zRm 4 123 mc ms) s m args below meth cd _ D cid B 6 b.2.2.2.2.1 b.2.2.2.2.2.1 b.2.2.2.2.2.2 105 [(0, .ref b.1), (1, .ref b.2.1), (2, .int b.2.2.1), (3, .int b.2.2.2.1)] [])) (fun a r ha k0 k1 => u_Collector_fold_71 X H ha k0 k1) nf _ b eb ?_
  refine zpr (z_goto (tgt := 115) X dd_Collector_fold_105 (by decide)) ?_
  exact t_Collector_fold_115 X H h k0 k1
set_option maxRecDepth 100000 in
set_option maxHeartbeats 4000000 in
theorem t_Collector_fold_68  (X : zX p s m args cd D cid B bb_Collector_fold 6 rr_Collector zT) (H : zH s meth B n0 none "fold") {nf mc ms : Nat} {x0 : Nat} {x1 : Nat} {x2 : Int32} {x3 : Int32} {x4 : Int32} {kk : Nat} {nn : Nat} {c : Zc} {r : (Nat × Nat × Int32 × Int32 × Nat × Nat × Zc) ⊕ (Nat × Nat × Zc)} (h : f_Collector_fold_68 nf x0 x1 x2 x3 x4 kk nn c = some r) (k0 : ∀ a, r = .inl a → (fun a : Nat × Nat × Int32 × Int32 × Nat × Nat × Zc => ((a.2.2.2.2.1 ≤ mc ∧ a.2.2.2.2.2.1 ≤ ms) ∧ Zz p l e (zRm 4 123 mc ms) s m args below meth cd Q D cid B 6 a.2.2.2.2.1 a.2.2.2.2.2.1 a.2.2.2.2.2.2 13 [(0, .ref a.1), (1, .ref a.2.1), (2, .int a.2.2.1), (3, .int a.2.2.2.1)] [])) a) (k1 : ∀ b, r = .inr b → (fun b : Nat × Nat × Zc => ((b.1 ≤ mc ∧ b.2.1 ≤ ms) ∧ Zz p l e (zRm 4 123 mc ms) s m args below meth cd Q D cid B 6 b.1 b.2.1 b.2.2 158 [] [])) b) : ((kk ≤ mc ∧ nn ≤ ms) ∧ Zz p l e (zRm 4 123 mc ms) s m args below meth cd Q D cid B 6 kk nn c 68 [(0, .ref x0), (1, .ref x1), (2, .int x2), (3, .int x3), (4, .int x4)] []) := by
  unfold f_Collector_fold_68 at h
  refine zpr (z_iconst (v := 0) X dd_Collector_fold_68 (by decide)) ?_
  refine zpr (z_istore (lv' := [(5, .int 0), (0, .ref x0), (1, .ref x1), (2, .int x2), (3, .int x3), (4, .int x4)]) X dd_Collector_fold_69 (by decide) rfl) ?_
  refine zpr (z_sub [1, 2, 3, 4, 5, 0] rfl) ?_
  exact t_Collector_fold_71 X H h k0 k1
set_option maxRecDepth 100000 in
set_option maxHeartbeats 4000000 in
theorem t_Collector_fold_61  (X : zX p s m args cd D cid B bb_Collector_fold 6 rr_Collector zT) (H : zH s meth B n0 none "fold") {nf mc ms : Nat} {x0 : Nat} {x1 : Nat} {x2 : Int32} {x3 : Int32} {x4 : Int32} {kk : Nat} {nn : Nat} {c : Zc} {r : (Nat × Nat × Int32 × Int32 × Nat × Nat × Zc) ⊕ (Nat × Nat × Zc)} (h : f_Collector_fold_61 nf x0 x1 x2 x3 x4 kk nn c = some r) (k0 : ∀ a, r = .inl a → (fun a : Nat × Nat × Int32 × Int32 × Nat × Nat × Zc => ((a.2.2.2.2.1 ≤ mc ∧ a.2.2.2.2.2.1 ≤ ms) ∧ Zz p l e (zRm 4 123 mc ms) s m args below meth cd Q D cid B 6 a.2.2.2.2.1 a.2.2.2.2.2.1 a.2.2.2.2.2.2 13 [(0, .ref a.1), (1, .ref a.2.1), (2, .int a.2.2.1), (3, .int a.2.2.2.1)] [])) a) (k1 : ∀ b, r = .inr b → (fun b : Nat × Nat × Zc => ((b.1 ≤ mc ∧ b.2.1 ≤ ms) ∧ Zz p l e (zRm 4 123 mc ms) s m args below meth cd Q D cid B 6 b.1 b.2.1 b.2.2 158 [] [])) b) : ((kk ≤ mc ∧ nn ≤ ms) ∧ Zz p l e (zRm 4 123 mc ms) s m args below meth cd Q D cid B 6 kk nn c 61 [(0, .ref x0), (1, .ref x1), (2, .int x2), (3, .int x3), (4, .int x4)] []) := by
  unfold f_Collector_fold_61 at h
  refine zpr (z_aload_n X dd_Collector_fold_61 rfl 0 rfl) ?_
  obtain ⟨v12, ev12, h⟩ := zb h
  refine zpr (z_get (j := 2) X dd_Collector_fold_62 kc_10 ki_10 (by decide) km_675 (zgr_v ev12)) ?_
  obtain ⟨w14, ew14, h⟩ := zb h
  obtain ⟨q13, eq13, h⟩ := zb h
  obtain ⟨hl9, hz9⟩ := t_Collector_fold_68 X H h k0 k1
  exact ⟨⟨by have := hl9.1; omega, by have := hl9.2; omega⟩, z_callVv X [] rfl dd_Collector_fold_65 (c_Rows_addRow l eq13) (cwV 0 X.1.2.2.2.2 (zg_V km_1408 km_1409 km_1410 km_137 km_1411) rfl rfl rfl (by decide +kernel) ⟨Nat.le_of_ble_eq_true rfl, Nat.le_of_ble_eq_true rfl⟩) (zob_s ew14) kc_9 rfl (Nat.le_of_ble_eq_true rfl) hl9 hz9⟩
set_option maxRecDepth 100000 in
set_option maxHeartbeats 4000000 in
theorem u_Collector_fold_13  (X : zX p s m args cd D cid B bb_Collector_fold 6 rr_Collector zT) (H : zH s meth B n0 none "fold") {nf mc ms : Nat} {x0 : Nat} {x1 : Nat} {x2 : Int32} {x3 : Int32} {kk : Nat} {nn : Nat} {c : Zc} {r : (Nat × Nat × Int32 × Int32 × Nat × Nat × Zc) ⊕ (Nat × Nat × Zc)} (h : g_Collector_fold_13 nf x0 x1 x2 x3 kk nn c = some r) (k0 : ∀ a, r = .inl a → (fun a : Nat × Nat × Int32 × Int32 × Nat × Nat × Zc => ((a.2.2.2.2.1 ≤ mc ∧ a.2.2.2.2.2.1 ≤ ms) ∧ Zz p l e (zRm 4 123 mc ms) s m args below meth cd Q D cid B 6 a.2.2.2.2.1 a.2.2.2.2.2.1 a.2.2.2.2.2.2 13 [(0, .ref a.1), (1, .ref a.2.1), (2, .int a.2.2.1), (3, .int a.2.2.2.1)] [])) a) (k1 : ∀ b, r = .inr b → (fun b : Nat × Nat × Zc => ((b.1 ≤ mc ∧ b.2.1 ≤ ms) ∧ Zz p l e (zRm 4 123 mc ms) s m args below meth cd Q D cid B 6 b.1 b.2.1 b.2.2 158 [] [])) b) : ((kk ≤ mc ∧ nn ≤ ms) ∧ Zz p l e (zRm 4 123 mc ms) s m args below meth cd Q D cid B 6 kk nn c 13 [(0, .ref x0), (1, .ref x1), (2, .int x2), (3, .int x3)] []) := by
  unfold g_Collector_fold_13 at h
  refine zpr (z_iload_n X dd_Collector_fold_13 rfl 3 rfl) ?_
  refine zpr (z_aload_n X dd_Collector_fold_14 rfl 0 rfl) ?_
  obtain ⟨v5, ev5, h⟩ := zb h
  refine zpr (z_get (j := 1) X dd_Collector_fold_15 kc_10 ki_10 (by decide) km_674 (zgr_v ev5)) ?_
  obtain ⟨v6, ev6, h⟩ := zb h
  refine zpr (z_get (j := 0) X dd_Collector_fold_18 kc_9 ki_9 (by decide) km_655 (zgi_v ev6)) ?_
  refine zpr2 (z_icmp_ge (tgt := 158) X dd_Collector_fold_21 (by decide)) (fun q7 => ?_) (fun q7 => ?_)
  · rw [if_pos q7] at h
    refine zpr (z_sub [] rfl) ?_
    obtain rfl := Option.some.inj h
    exact k1 _ rfl
  · rw [if_neg q7] at h
    refine zpr (z_aload_n X dd_Collector_fold_24 rfl 0 rfl) ?_
    obtain ⟨v8, ev8, h⟩ := zb h
    refine zpr (z_get (j := 1) X dd_Collector_fold_25 kc_10 ki_10 (by decide) km_674 (zgr_v ev8)) ?_
    refine zpr (z_iload_n X dd_Collector_fold_28 rfl 3 rfl) ?_
    obtain ⟨w10, ew10, h⟩ := zb h
    obtain ⟨q9, eq9, h⟩ := zb h
    refine zpc (fun hm => z_callVi X [.int x3] rfl dd_Collector_fold_29 (c_Rows_sorted l eq9) (cwV 1 X.1.2.2.2.2 (zg_V km_1460 km_1461 km_1462 km_137 km_1463) rfl rfl rfl (by decide +kernel) ⟨Nat.le_of_ble_eq_true rfl, Nat.le_of_ble_eq_true rfl⟩) (zob_s ew10) kc_9 rfl (Nat.le_of_ble_eq_true rfl) hm) ?_
    refine zpr (z_istore (lv' := [(4, .int q9.1), (0, .ref x0), (1, .ref x1), (2, .int x2), (3, .int x3)]) X dd_Collector_fold_32 (by decide) rfl) ?_
    refine zpr (z_iload_n X dd_Collector_fold_34 rfl 4 rfl) ?_
    refine zpr2 (z_if_eq (tgt := 61) X dd_Collector_fold_35 (by decide)) (fun q11 => ?_) (fun q11 => ?_)
    · rw [if_pos q11] at h
      refine zpr (z_sub [1, 2, 3, 4, 0] rfl) ?_
      exact t_Collector_fold_61 X H h k0 k1
    · rw [if_neg q11] at h
      refine zpr (z_aload_n X dd_Collector_fold_38 rfl 1 rfl) ?_
      obtain ⟨v30, ev30, h⟩ := zb h
      refine zpr (z_get (j := 1) X dd_Collector_fold_39 kc_10 ki_10 (by decide) km_674 (zgr_v ev30)) ?_
      refine zpr (z_aload_n X dd_Collector_fold_42 rfl 1 rfl) ?_
      obtain ⟨v31, ev31, h⟩ := zb h
      refine zpr (z_get (j := 1) X dd_Collector_fold_43 kc_10 ki_10 (by decide) km_674 (zgr_v ev31)) ?_
      refine zpr (z_iload_n X dd_Collector_fold_46 rfl 4 rfl) ?_
      refine zpr (z_iconst (v := 1) X dd_Collector_fold_47 (by decide)) ?_
      refine zpr (z_isub X dd_Collector_fold_48) ?_
      obtain ⟨w33, ew33, h⟩ := zb h
      obtain ⟨q32, eq32, h⟩ := zb h
      refine zpc (fun hm => z_callVi X [.int (x3 - 1)] rfl dd_Collector_fold_49 (c_Rows_sorted l eq32) (cwV 1 X.1.2.2.2.2 (zg_V km_1460 km_1461 km_1462 km_137 km_1463) rfl rfl rfl (by decide +kernel) ⟨Nat.le_of_ble_eq_true rfl, Nat.le_of_ble_eq_true rfl⟩) (zob_s ew33) kc_9 rfl (Nat.le_of_ble_eq_true rfl) hm) ?_
      refine zpr (z_iload X dd_Collector_fold_52 0 rfl) ?_
      refine zpr (z_iload_n X dd_Collector_fold_54 rfl 3 rfl) ?_
      obtain ⟨w35, ew35, h⟩ := zb h
      obtain ⟨q34, eq34, h⟩ := zb h
      refine zpc (fun hm => z_callVi X [.int q32.1, .int q9.1, .int x2] rfl dd_Collector_fold_55 (c_Rows_compare l eq34) (cwV 3 X.1.2.2.2.2 (zg_V km_1464 km_1453 km_1454 km_137 km_1455) rfl rfl rfl (by decide +kernel) ⟨Nat.le_of_ble_eq_true rfl, Nat.le_of_ble_eq_true rfl⟩) (zob_s ew35) kc_9 rfl (Nat.le_of_ble_eq_true rfl) hm) ?_
      refine zpr2 (z_if_eq (tgt := 108) X dd_Collector_fold_58 (by decide)) (fun q36 => ?_) (fun q36 => ?_)
      · rw [if_pos q36] at h
        refine zpr (z_aload_n X dd_Collector_fold_108 rfl 1 rfl) ?_
        refine zpr (z_aload_n X dd_Collector_fold_109 rfl 2 rfl) ?_
        refine zpr (z_iload X dd_Collector_fold_110 0 rfl) ?_
        obtain ⟨w38, ew38, h⟩ := zb h
        obtain ⟨q37, eq37, h⟩ := zb h
        refine zpc (fun hm => z_callVv X [.ref x1, .int q9.1] rfl dd_Collector_fold_112 (c_Collector_addTo l eq37) (cwV 2 X.1.2.2.2.2 (zg_V km_1469 km_1471 km_58 km_136 km_1472) rfl rfl rfl (by decide +kernel) ⟨Nat.le_of_ble_eq_true rfl, Nat.le_of_ble_eq_true rfl⟩) (zob_s ew38) kc_10 rfl (Nat.le_of_ble_eq_true rfl) hm) ?_
        refine zpr (z_sub [1, 2, 3, 4] rfl) ?_
        exact t_Collector_fold_115 X H h k0 k1
      · rw [if_neg q36] at h
        refine zpr (z_sub [1, 2, 3, 4, 0] rfl) ?_
        exact t_Collector_fold_61 X H h k0 k1
set_option maxRecDepth 100000 in
set_option maxHeartbeats 4000000 in
theorem t_Collector_fold_13  (X : zX p s m args cd D cid B bb_Collector_fold 6 rr_Collector zT) (H : zH s meth B n0 none "fold") {nf : Nat} {x0 : Nat} {x1 : Nat} {x2 : Int32} {x3 : Int32} {kk : Nat} {nn : Nat} {c : Zc} {res : Nat × Nat × Zc} (h : f_Collector_fold_13 nf x0 x1 x2 x3 kk nn c = some res) : ((kk ≤ res.1 ∧ nn ≤ res.2.1) ∧ Zz p l e (zRm 4 123 res.1 res.2.1) s m args below meth cd (MQ below (zQv D cid B res.2.2 n0 res.1) args s res.1 res.2.1 (fun q => B ≤ q)) D cid B 6 kk nn c 13 [(0, .ref x0), (1, .ref x1), (2, .int x2), (3, .int x3)] []) := by
  unfold f_Collector_fold_13 at h
  obtain ⟨b, eb, h⟩ := zb h
  refine zlp_ok (P := fun a : Nat × Nat × Int32 × Int32 × Nat × Nat × Zc => ((a.2.2.2.2.1 ≤ res.1 ∧ a.2.2.2.2.2.1 ≤ res.2.1) ∧ Zz p l e (zRm 4 123 res.1 res.2.1) s m args below meth cd _ D cid B 6 a.2.2.2.2.1 a.2.2.2.2.2.1 a.2.2.2.2.2.2 13 [(0, .ref a.1), (1, .ref a.2.1), (2, .int a.2.2.1), (3, .int a.2.2.2.1)] [])) (G := fun b : Nat × Nat × Zc => ((b.1 ≤ res.1 ∧ b.2.1 ≤ res.2.1) ∧ Zz p l e (zRm 4 123 res.1 res.2.1) s m args below meth cd _ D cid B 6 b.1 b.2.1 b.2.2 158 [] [])) (fun a r ha k0 k1 => u_Collector_fold_13 X H ha k0 k1) nf _ b eb ?_
  obtain rfl := Option.some.inj h
  exact ⟨⟨Nat.le_refl _, Nat.le_refl _⟩, z_vret X H.1 H.2.1 H.2.2.1 dd_Collector_fold_158⟩
set_option maxRecDepth 100000 in
set_option maxHeartbeats 4000000 in
theorem c_Collector_fold (l : Launch) {nf : Nat} {a0 : Nat} {a1 : Nat} {a2 : Int32} {c : Zc} {res : Nat × Nat × Zc} (h : f_Collector_fold nf a0 a1 a2 c = some res) : zM l yy_Collector_fold ww_Collector_fold 4 123 res.1 res.2.1 [.ref a0, .ref a1, .int a2] c (fun D cid B => zQv D cid B res.2.2 c.length res.1) := by
  refine z_met (cc := bb_Collector_fold) (maxL := 6) (ret := none) (by decide +kernel) rfl (Nat.le_of_ble_eq_true rfl) ?_
  intro p e s m args below meth cd D cid B X h1 h2 h3 h4
  have X : zX p s m args cd D cid B bb_Collector_fold 6 rr_Collector zT := X
  have H : zH s meth B c.length none "fold" := ⟨h1, h2, h4, h3⟩
  unfold f_Collector_fold at h
  show Zz p l e (zRm 4 123 res.1 res.2.1) s m args below meth cd _ D cid B 6 0 0 c 0 [(0, .ref a0), (1, .ref a1), (2, .int a2)] []
  refine And.right (a := (0 ≤ res.1 ∧ 0 ≤ res.2.1)) ?_
  refine zpr (z_aload_n X dd_Collector_fold_0 rfl 0 rfl) ?_
  obtain ⟨v1, ev1, h⟩ := zb h
  refine zpr (z_get (j := 2) X dd_Collector_fold_1 kc_10 ki_10 (by decide) km_675 (zgr_v ev1)) ?_
  refine zpr (z_aload_n X dd_Collector_fold_4 rfl 1 rfl) ?_
  obtain ⟨v2, ev2, h⟩ := zb h
  refine zpr (z_get (j := 15) X dd_Collector_fold_5 kc_2 ki_2 (by decide) km_345 (zgi_v ev2)) ?_
  obtain ⟨w4, ew4, h⟩ := zb h
  obtain ⟨q3, eq3, h⟩ := zb h
  refine zpc (fun hm => z_callVv X [.int v2] rfl dd_Collector_fold_8 (c_Rows_clear l eq3) (cwV 1 X.1.2.2.2.2 (zg_V km_1402 km_1403 km_1404 km_137 km_1405) rfl rfl rfl (by decide +kernel) ⟨Nat.le_of_ble_eq_true rfl, Nat.le_of_ble_eq_true rfl⟩) (zob_s ew4) kc_9 rfl (Nat.le_of_ble_eq_true rfl) hm) ?_
  refine zpr (z_iconst (v := 0) X dd_Collector_fold_11 (by decide)) ?_
  refine zpr (z_istore_n (lv' := [(3, .int 0), (0, .ref a0), (1, .ref a1), (2, .int a2)]) X dd_Collector_fold_12 rfl (by decide) rfl) ?_
  refine zpr (z_sub [1, 2, 3, 0] rfl) ?_
  exact t_Collector_fold_13 X H h
theorem dd_Collector_collect_0 : decode bb_Collector_collect 0 = .ok (.aload_n 0, 1) := by decide +kernel
theorem dd_Collector_collect_1 : decode bb_Collector_collect 1 = .ok (.aload_n 1, 1) := by decide +kernel
theorem dd_Collector_collect_2 : decode bb_Collector_collect 2 = .ok (.invokevirtual 29, 3) := by decide +kernel
theorem dd_Collector_collect_5 : decode bb_Collector_collect 5 = .ok (.aload_n 1, 1) := by decide +kernel
theorem dd_Collector_collect_6 : decode bb_Collector_collect 6 = .ok (.invokestatic 33, 3) := by decide +kernel
theorem dd_Collector_collect_9 : decode bb_Collector_collect 9 = .ok (.istore_n 3, 1) := by decide +kernel
theorem dd_Collector_collect_10 : decode bb_Collector_collect 10 = .ok (.aload_n 0, 1) := by decide +kernel
theorem dd_Collector_collect_11 : decode bb_Collector_collect 11 = .ok (.getfield 12, 3) := by decide +kernel
theorem dd_Collector_collect_14 : decode bb_Collector_collect 14 = .ok (.iload_n 3, 1) := by decide +kernel
theorem dd_Collector_collect_15 : decode bb_Collector_collect 15 = .ok (.invokevirtual 37, 3) := by decide +kernel
theorem dd_Collector_collect_18 : decode bb_Collector_collect 18 = .ok (.aload_n 0, 1) := by decide +kernel
theorem dd_Collector_collect_19 : decode bb_Collector_collect 19 = .ok (.aload_n 1, 1) := by decide +kernel
theorem dd_Collector_collect_20 : decode bb_Collector_collect 20 = .ok (.iload_n 3, 1) := by decide +kernel
theorem dd_Collector_collect_21 : decode bb_Collector_collect 21 = .ok (.invokevirtual 41, 3) := by decide +kernel
theorem dd_Collector_collect_24 : decode bb_Collector_collect 24 = .ok (.aload_n 0, 1) := by decide +kernel
theorem dd_Collector_collect_25 : decode bb_Collector_collect 25 = .ok (.getfield 18, 3) := by decide +kernel
theorem dd_Collector_collect_28 : decode bb_Collector_collect 28 = .ok (.iconst (-1), 1) := by decide +kernel
theorem dd_Collector_collect_29 : decode bb_Collector_collect 29 = .ok (.invokevirtual 37, 3) := by decide +kernel
theorem dd_Collector_collect_32 : decode bb_Collector_collect 32 = .ok (.aload_n 2, 1) := by decide +kernel
theorem dd_Collector_collect_33 : decode bb_Collector_collect 33 = .ok (.aload_n 1, 1) := by decide +kernel
theorem dd_Collector_collect_34 : decode bb_Collector_collect 34 = .ok (.getfield 45, 3) := by decide +kernel
theorem dd_Collector_collect_37 : decode bb_Collector_collect 37 = .ok (.invokevirtual 51, 3) := by decide +kernel
theorem dd_Collector_collect_40 : decode bb_Collector_collect 40 = .ok (.aload_n 0, 1) := by decide +kernel
theorem dd_Collector_collect_41 : decode bb_Collector_collect 41 = .ok (.getfield 18, 3) := by decide +kernel
theorem dd_Collector_collect_44 : decode bb_Collector_collect 44 = .ok (.getfield 54, 3) := by decide +kernel
theorem dd_Collector_collect_47 : decode bb_Collector_collect 47 = .ok (.aload_n 1, 1) := by decide +kernel
theorem dd_Collector_collect_48 : decode bb_Collector_collect 48 = .ok (.getfield 57, 3) := by decide +kernel
theorem dd_Collector_collect_51 : decode bb_Collector_collect 51 = .ok (.invokestatic 60, 3) := by decide +kernel
theorem dd_Collector_collect_54 : decode bb_Collector_collect 54 = .ok (.istore 4, 2) := by decide +kernel
theorem dd_Collector_collect_56 : decode bb_Collector_collect 56 = .ok (.aload_n 2, 1) := by decide +kernel
theorem dd_Collector_collect_57 : decode bb_Collector_collect 57 = .ok (.iload 4, 2) := by decide +kernel
theorem dd_Collector_collect_59 : decode bb_Collector_collect 59 = .ok (.invokevirtual 66, 3) := by decide +kernel
theorem dd_Collector_collect_62 : decode bb_Collector_collect 62 = .ok (.iconst 0, 1) := by decide +kernel
theorem dd_Collector_collect_63 : decode bb_Collector_collect 63 = .ok (.istore 5, 2) := by decide +kernel
theorem dd_Collector_collect_65 : decode bb_Collector_collect 65 = .ok (.iload 5, 2) := by decide +kernel
theorem dd_Collector_collect_67 : decode bb_Collector_collect 67 = .ok (.iload 4, 2) := by decide +kernel
theorem dd_Collector_collect_69 : decode bb_Collector_collect 69 = .ok (.if_icmp .ge 55, 3) := by decide +kernel
theorem dd_Collector_collect_72 : decode bb_Collector_collect 72 = .ok (.aload_n 2, 1) := by decide +kernel
theorem dd_Collector_collect_73 : decode bb_Collector_collect 73 = .ok (.invokevirtual 69, 3) := by decide +kernel
theorem dd_Collector_collect_76 : decode bb_Collector_collect 76 = .ok (.iconst 0, 1) := by decide +kernel
theorem dd_Collector_collect_77 : decode bb_Collector_collect 77 = .ok (.istore 6, 2) := by decide +kernel
theorem dd_Collector_collect_79 : decode bb_Collector_collect 79 = .ok (.iload 6, 2) := by decide +kernel
theorem dd_Collector_collect_81 : decode bb_Collector_collect 81 = .ok (.aload_n 1, 1) := by decide +kernel
theorem dd_Collector_collect_82 : decode bb_Collector_collect 82 = .ok (.getfield 45, 3) := by decide +kernel
theorem dd_Collector_collect_85 : decode bb_Collector_collect 85 = .ok (.if_icmp .ge 33, 3) := by decide +kernel
theorem dd_Collector_collect_88 : decode bb_Collector_collect 88 = .ok (.aload_n 2, 1) := by decide +kernel
theorem dd_Collector_collect_89 : decode bb_Collector_collect 89 = .ok (.iload 6, 2) := by decide +kernel
theorem dd_Collector_collect_91 : decode bb_Collector_collect 91 = .ok (.aload_n 0, 1) := by decide +kernel
theorem dd_Collector_collect_92 : decode bb_Collector_collect 92 = .ok (.getfield 18, 3) := by decide +kernel
theorem dd_Collector_collect_95 : decode bb_Collector_collect 95 = .ok (.aload_n 0, 1) := by decide +kernel
theorem dd_Collector_collect_96 : decode bb_Collector_collect 96 = .ok (.getfield 18, 3) := by decide +kernel
theorem dd_Collector_collect_99 : decode bb_Collector_collect 99 = .ok (.iload 5, 2) := by decide +kernel
theorem dd_Collector_collect_101 : decode bb_Collector_collect 101 = .ok (.invokevirtual 72, 3) := by decide +kernel
theorem dd_Collector_collect_104 : decode bb_Collector_collect 104 = .ok (.iload 6, 2) := by decide +kernel
theorem dd_Collector_collect_106 : decode bb_Collector_collect 106 = .ok (.invokevirtual 76, 3) := by decide +kernel
theorem dd_Collector_collect_109 : decode bb_Collector_collect 109 = .ok (.invokevirtual 79, 3) := by decide +kernel
theorem dd_Collector_collect_112 : decode bb_Collector_collect 112 = .ok (.iinc 6 1, 3) := by decide +kernel
theorem dd_Collector_collect_115 : decode bb_Collector_collect 115 = .ok (.goto (-36), 3) := by decide +kernel
theorem dd_Collector_collect_118 : decode bb_Collector_collect 118 = .ok (.iinc 5 1, 3) := by decide +kernel
theorem dd_Collector_collect_121 : decode bb_Collector_collect 121 = .ok (.goto (-56), 3) := by decide +kernel
theorem dd_Collector_collect_124 : decode bb_Collector_collect 124 = .ok (.return_, 1) := by decide +kernel
set_option maxRecDepth 100000 in
set_option maxHeartbeats 4000000 in
theorem u_Collector_collect_79  (X : zX p s m args cd D cid B bb_Collector_collect 7 rr_Collector zT) (H : zH s meth B n0 none "collect") {nf mc ms : Nat} {x0 : Nat} {x1 : Nat} {x2 : Nat} {x4 : Int32} {x5 : Int32} {x6 : Int32} {kk : Nat} {nn : Nat} {c : Zc} {r : (Nat × Nat × Nat × Int32 × Int32 × Int32 × Nat × Nat × Zc) ⊕ (Nat × Nat × Nat × Int32 × Int32 × Nat × Nat × Zc)} (h : g_Collector_collect_79 nf x0 x1 x2 x4 x5 x6 kk nn c = some r) (k0 : ∀ a, r = .inl a → (fun a : Nat × Nat × Nat × Int32 × Int32 × Int32 × Nat × Nat × Zc => ((a.2.2.2.2.2.2.1 ≤ mc ∧ a.2.2.2.2.2.2.2.1 ≤ ms) ∧ Zz p l e (zRm 6 148 mc ms) s m args below meth cd Q D cid B 7 a.2.2.2.2.2.2.1 a.2.2.2.2.2.2.2.1 a.2.2.2.2.2.2.2.2 79 [(0, .ref a.1), (1, .ref a.2.1), (2, .ref a.2.2.1), (4, .int a.2.2.2.1), (5, .int a.2.2.2.2.1), (6, .int a.2.2.2.2.2.1)] [])) a) (k1 : ∀ b, r = .inr b → (fun b : Nat × Nat × Nat × Int32 × Int32 × Nat × Nat × Zc => ((b.2.2.2.2.2.1 ≤ mc ∧ b.2.2.2.2.2.2.1 ≤ ms) ∧ Zz p l e (zRm 6 148 mc ms) s m args below meth cd Q D cid B 7 b.2.2.2.2.2.1 b.2.2.2.2.2.2.1 b.2.2.2.2.2.2.2 118 [(0, .ref b.1), (1, .ref b.2.1), (2, .ref b.2.2.1), (4, .int b.2.2.2.1), (5, .int b.2.2.2.2.1)] [])) b) : ((kk ≤ mc ∧ nn ≤ ms) ∧ Zz p l e (zRm 6 148 mc ms) s m args below meth cd Q D cid B 7 kk nn c 79 [(0, .ref x0), (1, .ref x1), (2, .ref x2), (4, .int x4), (5, .int x5), (6, .int x6)] []) := by
  unfold g_Collector_collect_79 at h
  refine zpr (z_iload X dd_Collector_collect_79 5 rfl) ?_
  refine zpr (z_aload_n X dd_Collector_collect_81 rfl 1 rfl) ?_
  obtain ⟨v24, ev24, h⟩ := zb h
  refine zpr (z_get (j := 15) X dd_Collector_collect_82 kc_2 ki_2 (by decide) km_345 (zgi_v ev24)) ?_
  refine zpr2 (z_icmp_ge (tgt := 118) X dd_Collector_collect_85 (by decide)) (fun q25 => ?_) (fun q25 => ?_)
  · rw [if_pos q25] at h
    refine zpr (z_sub [0, 1, 2, 3, 4] rfl) ?_
    obtain rfl := Option.some.inj h
    exact k1 _ rfl
  · rw [if_neg q25] at h
    refine zpr (z_aload_n X dd_Collector_collect_88 rfl 2 rfl) ?_
    refine zpr (z_iload X dd_Collector_collect_89 5 rfl) ?_
    refine zpr (z_aload_n X dd_Collector_collect_91 rfl 0 rfl) ?_
    obtain ⟨v26, ev26, h⟩ := zb h
    refine zpr (z_get (j := 2) X dd_Collector_collect_92 kc_10 ki_10 (by decide) km_675 (zgr_v ev26)) ?_
    refine zpr (z_aload_n X dd_Collector_collect_95 rfl 0 rfl) ?_
    obtain ⟨v27, ev27, h⟩ := zb h
    refine zpr (z_get (j := 2) X dd_Collector_collect_96 kc_10 ki_10 (by decide) km_675 (zgr_v ev27)) ?_
    refine zpr (z_iload X dd_Collector_collect_99 4 rfl) ?_
    obtain ⟨w29, ew29, h⟩ := zb h
    obtain ⟨q28, eq28, h⟩ := zb h
    refine zpc (fun hm => z_callVi X [.int x5] rfl dd_Collector_collect_101 (c_Rows_sorted l eq28) (cwV 1 X.1.2.2.2.2 (zg_V km_1460 km_1461 km_1462 km_137 km_1463) rfl rfl rfl (by decide +kernel) ⟨Nat.le_of_ble_eq_true rfl, Nat.le_of_ble_eq_true rfl⟩) (zob_s ew29) kc_9 rfl (Nat.le_of_ble_eq_true rfl) hm) ?_
    refine zpr (z_iload X dd_Collector_collect_104 5 rfl) ?_
    obtain ⟨w31, ew31, h⟩ := zb h
    obtain ⟨q30, eq30, h⟩ := zb h
    refine zpc (fun hm => z_callVi X [.int q28.1, .int x6] rfl dd_Collector_collect_106 (c_Rows_cell l eq30) (cwV 2 X.1.2.2.2.2 (zg_V km_1465 km_1466 km_1467 km_137 km_1468) rfl rfl rfl (by decide +kernel) ⟨Nat.le_of_ble_eq_true rfl, Nat.le_of_ble_eq_true rfl⟩) (zob_s ew31) kc_9 rfl (Nat.le_of_ble_eq_true rfl) hm) ?_
    obtain ⟨w33, ew33, h⟩ := zb h
    obtain ⟨q32, eq32, h⟩ := zb h
    refine zpc (fun hm => z_callVv X [.int x6, .int q30.1] rfl dd_Collector_collect_109 (c_Rows_setCell l eq32) (cwV 2 X.1.2.2.2.2 (zg_V km_1436 km_1437 km_1438 km_137 km_1439) rfl rfl rfl (by decide +kernel) ⟨Nat.le_of_ble_eq_true rfl, Nat.le_of_ble_eq_true rfl⟩) (zob_s ew33) kc_9 rfl (Nat.le_of_ble_eq_true rfl) hm) ?_
    refine zpr (z_iinc (v := (x6 + 1)) (lv' := [(6, .int (x6 + 1)), (0, .ref x0), (1, .ref x1), (2, .ref x2), (4, .int x4), (5, .int x5)]) X dd_Collector_collect_112 5 rfl rfl (by decide) rfl) ?_
    refine zpr (z_goto (tgt := 79) X dd_Collector_collect_115 (by decide)) ?_
    refine zpr (z_sub [1, 2, 3, 4, 5, 0] rfl) ?_
    obtain rfl := Option.some.inj h
    exact k0 _ rfl
set_option maxRecDepth 100000 in
set_option maxHeartbeats 4000000 in
theorem t_Collector_collect_79  (X : zX p s m args cd D cid B bb_Collector_collect 7 rr_Collector zT) (H : zH s meth B n0 none "collect") {nf mc ms : Nat} {x0 : Nat} {x1 : Nat} {x2 : Nat} {x4 : Int32} {x5 : Int32} {x6 : Int32} {kk : Nat} {nn : Nat} {c : Zc} {r : (Nat × Nat × Nat × Int32 × Int32 × Nat × Nat × Zc) ⊕ (Nat × Nat × Zc)} (h : f_Collector_collect_79 nf x0 x1 x2 x4 x5 x6 kk nn c = some r) (k0 : ∀ a, r = .inl a → (fun a : Nat × Nat × Nat × Int32 × Int32 × Nat × Nat × Zc => ((a.2.2.2.2.2.1 ≤ mc ∧ a.2.2.2.2.2.2.1 ≤ ms) ∧ Zz p l e (zRm 6 148 mc ms) s m args below meth cd Q D cid B 7 a.2.2.2.2.2.1 a.2.2.2.2.2.2.1 a.2.2.2.2.2.2.2 65 [(0, .ref a.1), (1, .ref a.2.1), (2, .ref a.2.2.1), (4, .int a.2.2.2.1), (5, .int a.2.2.2.2.1)] [])) a) (k1 : ∀ b, r = .inr b → (fun b : Nat × Nat × Zc => ((b.1 ≤ mc ∧ b.2.1 ≤ ms) ∧ Zz p l e (zRm 6 148 mc ms) s m args below meth cd Q D cid B 7 b.1 b.2.1 b.2.2 124 [] [])) b) : ((kk ≤ mc ∧ nn ≤ ms) ∧ Zz p l e (zRm 6 148 mc ms) s m args below meth cd Q D cid B 7 kk nn c 79 [(0, .ref x0), (1, .ref x1), (2, .ref x2), (4, .int x4), (5, .int x5), (6, .int x6)] []) := by
  unfold f_Collector_collect_79 at h
  obtain ⟨b, eb, h⟩ := zb h
  refine zlp_ok (P := fun a : Nat × Nat × Nat × Int32 × Int32 × Int32 × Nat × Nat × Zc => ((a.2.2.2.2.2.2.1 ≤ mc ∧ a.2.2.2.2.2.2.2.1 ≤ ms) ∧ Zz p l e (zRm 6 148 mc ms) s m args below meth cd _ D cid B 7 a.2.2.2.2.2.2.1 a.2.2.2.2.2.2.2.1 a.2.2.2.2.2.2.2.2 79 [(0, .ref a.1), (1, .ref a.2.1), (2, .ref a.2.2.1), (4, .int a.2.2.2.1), (5, .int a.2.2.2.2.1), (6, .int a.2.2.2.2.2.1)] [])) (G := fun b : Nat × Nat × Nat × Int32 × Int32 × Nat × Nat × Zc => ((b.2.2.2.2.2.1 ≤ mc ∧ b.2.2.2.2.2.2.1 ≤ ms) ∧ Zz p l e (zRm 6 148 mc ms) s m args below meth cd _ D cid B 7 b.2.2.2.2.2.1 b.2.2.2.2.2.2.1 b.2.2.2.2.2.2.2 118 [(0, .ref b.1), (1, .ref b.2.1), (2, .ref b.2.2.1), (4, .int b.2.2.2.1), (5, .int b.2.2.2.2.1)] [])) (fun a r ha k0 k1 => u_Collector_collect_79 X H ha k0 k1) nf _ b eb ?_
  refine zpr (z_iinc (v := (b.2.2.2.2.1 + 1)) (lv' := [(5, .int (b.2.2.2.2.1 + 1)), (0, .ref b.1), (1, .ref b.2.1), (2, .ref b.2.2.1), (4, .int b.2.2.2.1)]) X dd_Collector_collect_118 4 rfl rfl (by decide) rfl) ?_
  refine zpr (z_goto (tgt := 65) X dd_Collector_collect_121 (by decide)) ?_
  refine zpr (z_sub [1, 2, 3, 4, 0] rfl) ?_
  obtain rfl := Option.some.inj h
  exact k0 _ rfl
set_option maxRecDepth 100000 in
set_option maxHeartbeats 4000000 in
theorem t_Collector_collect_76  (X : zX p s m args cd D cid B bb_Collector_collect 7 rr_Collector zT) (H : zH s meth B n0 none "collect") {nf mc ms : Nat} {x0 : Nat} {x1 : Nat} {x2 : Nat} {x4 : Int32} {x5 : Int32} {kk : Nat} {nn : Nat} {c : Zc} {r : (Nat × Nat × Nat × Int32 × Int32 × Nat × Nat × Zc) ⊕ (Nat × Nat × Zc)} (h : f_Collector_collect_76 nf x0 x1 x2 x4 x5 kk nn c = some r) (k0 : ∀ a, r = .inl a → (fun a : Nat × Nat × Nat × Int32 × Int32 × Nat × Nat × Zc => ((a.2.2.2.2.2.1 ≤ mc ∧ a.2.2.2.2.2.2.1 ≤ ms) ∧ Zz p l e (zRm 6 148 mc ms) s m args below meth cd Q D cid B 7 a.2.2.2.2.2.1 a.2.2.2.2.2.2.1 a.2.2.2.2.2.2.2 65 [(0, .ref a.1), (1, .ref a.2.1), (2, .ref a.2.2.1), (4, .int a.2.2.2.1), (5, .int a.2.2.2.2.1)] [])) a) (k1 : ∀ b, r = .inr b → (fun b : Nat × Nat × Zc => ((b.1 ≤ mc ∧ b.2.1 ≤ ms) ∧ Zz p l e (zRm 6 148 mc ms) s m args below meth cd Q D cid B 7 b.1 b.2.1 b.2.2 124 [] [])) b) : ((kk ≤ mc ∧ nn ≤ ms) ∧ Zz p l e (zRm 6 148 mc ms) s m args below meth cd Q D cid B 7 kk nn c 76 [(0, .ref x0), (1, .ref x1), (2, .ref x2), (4, .int x4), (5, .int x5)] []) := by
  unfold f_Collector_collect_76 at h
  refine zpr (z_iconst (v := 0) X dd_Collector_collect_76 (by decide)) ?_
  refine zpr (z_istore (lv' := [(6, .int 0), (0, .ref x0), (1, .ref x1), (2, .ref x2), (4, .int x4), (5, .int x5)]) X dd_Collector_collect_77 (by decide) rfl) ?_
  refine zpr (z_sub [1, 2, 3, 4, 5, 0] rfl) ?_
  exact t_Collector_collect_79 X H h k0 k1
set_option maxRecDepth 100000 in
set_option maxHeartbeats 4000000 in
theorem u_Collector_collect_65  (X : zX p s m args cd D cid B bb_Collector_collect 7 rr_Collector zT) (H : zH s meth B n0 none "collect") {nf mc ms : Nat} {x0 : Nat} {x1 : Nat} {x2 : Nat} {x4 : Int32} {x5 : Int32} {kk : Nat} {nn : Nat} {c : Zc} {r : (Nat × Nat × Nat × Int32 × Int32 × Nat × Nat × Zc) ⊕ (Nat × Nat × Zc)} (h : g_Collector_collect_65 nf x0 x1 x2 x4 x5 kk nn c = some r) (k0 : ∀ a, r = .inl a → (fun a : Nat × Nat × Nat × Int32 × Int32 × Nat × Nat × Zc => ((a.2.2.2.2.2.1 ≤ mc ∧ a.2.2.2.2.2.2.1 ≤ ms) ∧ Zz p l e (zRm 6 148 mc ms) s m args below meth cd Q D cid B 7 a.2.2.2.2.2.1 a.2.2.2.2.2.2.1 a.2.2.2.2.2.2.2 65 [(0, .ref a.1), (1, .ref a.2.1), (2, .ref a.2.2.1), (4, .int a.2.2.2.1), (5, .int a.2.2.2.2.1)] [])) a) (k1 : ∀ b, r = .inr b → (fun b : Nat × Nat × Zc => ((b.1 ≤ mc ∧ b.2.1 ≤ ms) ∧ Zz p l e (zRm 6 148 mc ms) s m args below meth cd Q D cid B 7 b.1 b.2.1 b.2.2 124 [] [])) b) : ((kk ≤ mc ∧ nn ≤ ms) ∧ Zz p l e (zRm 6 148 mc ms) s m args below meth cd Q D cid B 7 kk nn c 65 [(0, .ref x0), (1, .ref x1), (2, .ref x2), (4, .int x4), (5, .int x5)] []) := by
  unfold g_Collector_collect_65 at h
  refine zpr (z_iload X dd_Collector_collect_65 4 rfl) ?_
  refine zpr (z_iload X dd_Collector_collect_67 3 rfl) ?_
  refine zpr2 (z_icmp_ge (tgt := 124) X dd_Collector_collect_69 (by decide)) (fun q21 => ?_) (fun q21 => ?_)
  · rw [if_pos q21] at h
    refine zpr (z_sub [] rfl) ?_
    obtain rfl := Option.some.inj h
    exact k1 _ rfl
  · rw [if_neg q21] at h
    refine zpr (z_aload_n X dd_Collector_collect_72 rfl 2 rfl) ?_
    obtain ⟨w23, ew23, h⟩ := zb h
    obtain ⟨q22, eq22, h⟩ := zb h
    obtain ⟨hl9, hz9⟩ := t_Collector_collect_76 X H h k0 k1
    exact ⟨⟨by have := hl9.1; omega, by have := hl9.2; omega⟩, z_callVv X [] rfl dd_Collector_collect_73 (c_Rows_addRow l eq22) (cwV 0 X.1.2.2.2.2 (zg_V km_1408 km_1409 km_1410 km_137 km_1411) rfl rfl rfl (by decide +kernel) ⟨Nat.le_of_ble_eq_true rfl, Nat.le_of_ble_eq_true rfl⟩) (zob_s ew23) kc_9 rfl (Nat.le_of_ble_eq_true rfl) hl9 hz9⟩
set_option maxRecDepth 100000 in
set_option maxHeartbeats 4000000 in
theorem t_Collector_collect_65  (X : zX p s m args cd D cid B bb_Collector_collect 7 rr_Collector zT) (H : zH s meth B n0 none "collect") {nf : Nat} {x0 : Nat} {x1 : Nat} {x2 : Nat} {x4 : Int32} {x5 : Int32} {kk : Nat} {nn : Nat} {c : Zc} {res : Nat × Nat × Zc} (h : f_Collector_collect_65 nf x0 x1 x2 x4 x5 kk nn c = some res) : ((kk ≤ res.1 ∧ nn ≤ res.2.1) ∧ Zz p l e (zRm 6 148 res.1 res.2.1) s m args below meth cd (MQ below (zQv D cid B res.2.2 n0 res.1) args s res.1 res.2.1 (fun q => B ≤ q)) D cid B 7 kk nn c 65 [(0, .ref x0), (1, .ref x1), (2, .ref x2), (4, .int x4), (5, .int x5)] []) := by
  unfold f_Collector_collect_65 at h
  obtain ⟨b, eb, h⟩ := zb h
  refine zlp_ok (P := fun a : Nat × Nat × Nat × Int32 × Int32 × Nat × Nat × Zc => ((a.2.2.2.2.2.1 ≤ res.1 ∧ a.2.2.2.2.2.2.1 ≤ res.2.1) ∧ Zz p l e (zRm 6 148 res.1 res.2.1) s m args below meth cd _ D cid B 7 a.2.2.2.2.2.1 a.2.2.2.2.2.2.1 a.2.2.2.2.2.2.2 65 [(0, .ref a.1), (1, .ref a.2.1), (2, .ref a.2.2.1), (4, .int a.2.2.2.1), (5, .int a.2.2.2.2.1)] [])) (G := fun b : Nat × Nat × Zc => ((b.1 ≤ res.1 ∧ b.2.1 ≤ res.2.1) ∧ Zz p l e (zRm 6 148 res.1 res.2.1) s m args below meth cd _ D cid B 7 b.1 b.2.1 b.2.2 124 [] [])) (fun a r ha k0 k1 => u_Collector_collect_65 X H ha k0 k1) nf _ b eb ?_
  obtain rfl := Option.some.inj h
  exact ⟨⟨Nat.le_refl _, Nat.le_refl _⟩, z_vret X H.1 H.2.1 H.2.2.1 dd_Collector_collect_124⟩
set_option maxRecDepth 100000 in
set_option maxHeartbeats 4000000 in
theorem t_Collector_collect_62  (X : zX p s m args cd D cid B bb_Collector_collect 7 rr_Collector zT) (H : zH s meth B n0 none "collect") {nf : Nat} {x0 : Nat} {x1 : Nat} {x2 : Nat} {x4 : Int32} {kk : Nat} {nn : Nat} {c : Zc} {res : Nat × Nat × Zc} (h : f_Collector_collect_62 nf x0 x1 x2 x4 kk nn c = some res) : ((kk ≤ res.1 ∧ nn ≤ res.2.1) ∧ Zz p l e (zRm 6 148 res.1 res.2.1) s m args below meth cd (MQ below (zQv D cid B res.2.2 n0 res.1) args s res.1 res.2.1 (fun q => B ≤ q)) D cid B 7 kk nn c 62 [(0, .ref x0), (1, .ref x1), (2, .ref x2), (4, .int x4)] []) := by
  unfold f_Collector_collect_62 at h
  refine zpr (z_iconst (v := 0) X dd_Collector_collect_62 (by decide)) ?_
  refine zpr (z_istore (lv' := [(5, .int 0), (0, .ref x0), (1, .ref x1), (2, .ref x2), (4, .int x4)]) X dd_Collector_collect_63 (by decide) rfl) ?_
  refine zpr (z_sub [1, 2, 3, 4, 0] rfl) ?_
  exact t_Collector_collect_65 X H h
set_option maxRecDepth 100000 in
set_option maxHeartbeats 4000000 in
theorem t_Collector_collect_32  (X : zX p s m args cd D cid B bb_Collector_collect 7 rr_Collector zT) (H : zH s meth B n0 none "collect") {nf : Nat} {x0 : Nat} {x1 : Nat} {x2 : Nat} {kk : Nat} {nn : Nat} {c : Zc} {res : Nat × Nat × Zc} (h : f_Collector_collect_32 nf x0 x1 x2 kk nn c = some res) : ((kk ≤ res.1 ∧ nn ≤ res.2.1) ∧ Zz p l e (zRm 6 148 res.1 res.2.1) s m args below meth cd (MQ below (zQv D cid B res.2.2 n0 res.1) args s res.1 res.2.1 (fun q => B ≤ q)) D cid B 7 kk nn c 32 [(0, .ref x0), (1, .ref x1), (2, .ref x2)] []) := by
  unfold f_Collector_collect_32 at h
  refine zpr (z_aload_n X dd_Collector_collect_32 rfl 2 rfl) ?_
  refine zpr (z_aload_n X dd_Collector_collect_33 rfl 1 rfl) ?_
  obtain ⟨v12, ev12, h⟩ := zb h
  refine zpr (z_get (j := 15) X dd_Collector_collect_34 kc_2 ki_2 (by decide) km_345 (zgi_v ev12)) ?_
  obtain ⟨w14, ew14, h⟩ := zb h
  obtain ⟨q13, eq13, h⟩ := zb h
  refine zpc (fun hm => z_callVv X [.int v12] rfl dd_Collector_collect_37 (c_Rows_clear l eq13) (cwV 1 X.1.2.2.2.2 (zg_V km_1402 km_1403 km_1404 km_137 km_1405) rfl rfl rfl (by decide +kernel) ⟨Nat.le_of_ble_eq_true rfl, Nat.le_of_ble_eq_true rfl⟩) (zob_s ew14) kc_9 rfl (Nat.le_of_ble_eq_true rfl) hm) ?_
  refine zpr (z_aload_n X dd_Collector_collect_40 rfl 0 rfl) ?_
  obtain ⟨v15, ev15, h⟩ := zb h
  refine zpr (z_get (j := 2) X dd_Collector_collect_41 kc_10 ki_10 (by decide) km_675 (zgr_v ev15)) ?_
  obtain ⟨v16, ev16, h⟩ := zb h
  refine zpr (z_get (j := 0) X dd_Collector_collect_44 kc_9 ki_9 (by decide) km_655 (zgi_v ev16)) ?_
  refine zpr (z_aload_n X dd_Collector_collect_47 rfl 1 rfl) ?_
  obtain ⟨v17, ev17, h⟩ := zb h
  refine zpr (z_get (j := 18) X dd_Collector_collect_48 kc_2 ki_2 (by decide) km_353 (zgi_v ev17)) ?_
  obtain ⟨q18, eq18, h⟩ := zb h
  refine zpc (fun hm => z_callSi X [.int v16, .int v17] rfl dd_Collector_collect_51 (c_Math_min_0 l eq18) (va_cwS 2 X.1.2.2.2.2 (zg_S km_1480 km_842 km_139 km_843) rfl rfl rfl (by decide +kernel) ⟨Nat.le_of_ble_eq_true rfl, Nat.le_of_ble_eq_true rfl⟩) rfl (Nat.le_of_ble_eq_true rfl) hm) ?_
  refine zpr (z_istore (lv' := [(4, .int q18.1), (0, .ref x0), (1, .ref x1), (2, .ref x2)]) X dd_Collector_collect_54 (by decide) rfl) ?_
  refine zpr (z_aload_n X dd_Collector_collect_56 rfl 3 rfl) ?_
  refine zpr (z_iload X dd_Collector_collect_57 0 rfl) ?_
  obtain ⟨w20, ew20, h⟩ := zb h
  obtain ⟨q19, eq19, h⟩ := zb h
  obtain ⟨hl9, hz9⟩ := t_Collector_collect_62 X H h
  exact ⟨⟨by have := hl9.1; omega, by have := hl9.2; omega⟩, z_callVv X [.int q18.1] rfl dd_Collector_collect_59 (c_Rows_reserve l eq19) (cwV 1 X.1.2.2.2.2 (zg_V km_1481 km_1413 km_1414 km_137 km_1415) rfl rfl rfl (by decide +kernel) ⟨Nat.le_of_ble_eq_true rfl, Nat.le_of_ble_eq_true rfl⟩) (zob_s ew20) kc_9 rfl (Nat.le_of_ble_eq_true rfl) hl9 (z_sub [1, 2, 3, 0] rfl hz9)⟩
set_option maxRecDepth 100000 in
set_option maxHeartbeats 4000000 in
theorem t_Collector_collect_24  (X : zX p s m args cd D cid B bb_Collector_collect 7 rr_Collector zT) (H : zH s meth B n0 none "collect") {nf : Nat} {x0 : Nat} {x1 : Nat} {x2 : Nat} {kk : Nat} {nn : Nat} {c : Zc} {res : Nat × Nat × Zc} (h : f_Collector_collect_24 nf x0 x1 x2 kk nn c = some res) : ((kk ≤ res.1 ∧ nn ≤ res.2.1) ∧ Zz p l e (zRm 6 148 res.1 res.2.1) s m args below meth cd (MQ below (zQv D cid B res.2.2 n0 res.1) args s res.1 res.2.1 (fun q => B ≤ q)) D cid B 7 kk nn c 24 [(0, .ref x0), (1, .ref x1), (2, .ref x2)] []) := by
  unfold f_Collector_collect_24 at h
  refine zpr (z_aload_n X dd_Collector_collect_24 rfl 0 rfl) ?_
  obtain ⟨v9, ev9, h⟩ := zb h
  refine zpr (z_get (j := 2) X dd_Collector_collect_25 kc_10 ki_10 (by decide) km_675 (zgr_v ev9)) ?_
  refine zpr (z_iconst (v := (-1)) X dd_Collector_collect_28 (by decide)) ?_
  obtain ⟨w11, ew11, h⟩ := zb h
  obtain ⟨q10, eq10, h⟩ := zb h
  obtain ⟨hl9, hz9⟩ := t_Collector_collect_32 X H h
  exact ⟨⟨by have := hl9.1; omega, by have := hl9.2; omega⟩, z_callVv X [.int (-1)] rfl dd_Collector_collect_29 (c_Rows_sort l eq10) (cwV 1 X.1.2.2.2.2 (zg_V km_1443 km_1444 km_1445 km_137 km_1446) rfl rfl rfl (by decide +kernel) ⟨Nat.le_of_ble_eq_true rfl, Nat.le_of_ble_eq_true rfl⟩) (zob_s ew11) kc_9 rfl (Nat.le_of_ble_eq_true rfl) hl9 hz9⟩
set_option maxRecDepth 100000 in
set_option maxHeartbeats 4000000 in
theorem t_Collector_collect_18  (X : zX p s m args cd D cid B bb_Collector_collect 7 rr_Collector zT) (H : zH s meth B n0 none "collect") {nf : Nat} {x0 : Nat} {x1 : Nat} {x2 : Nat} {x3 : Int32} {kk : Nat} {nn : Nat} {c : Zc} {res : Nat × Nat × Zc} (h : f_Collector_collect_18 nf x0 x1 x2 x3 kk nn c = some res) : ((kk ≤ res.1 ∧ nn ≤ res.2.1) ∧ Zz p l e (zRm 6 148 res.1 res.2.1) s m args below meth cd (MQ below (zQv D cid B res.2.2 n0 res.1) args s res.1 res.2.1 (fun q => B ≤ q)) D cid B 7 kk nn c 18 [(0, .ref x0), (1, .ref x1), (2, .ref x2), (3, .int x3)] []) := by
  unfold f_Collector_collect_18 at h
  refine zpr (z_aload_n X dd_Collector_collect_18 rfl 0 rfl) ?_
  refine zpr (z_aload_n X dd_Collector_collect_19 rfl 1 rfl) ?_
  refine zpr (z_iload_n X dd_Collector_collect_20 rfl 3 rfl) ?_
  obtain ⟨w8, ew8, h⟩ := zb h
  obtain ⟨q7, eq7, h⟩ := zb h
  obtain ⟨hl9, hz9⟩ := t_Collector_collect_24 X H h
  exact ⟨⟨by have := hl9.1; omega, by have := hl9.2; omega⟩, z_callVv X [.ref x1, .int x3] rfl dd_Collector_collect_21 (c_Collector_fold l eq7) (cwV 2 X.1.2.2.2.2 (zg_V km_1456 km_1458 km_57 km_136 km_1459) rfl rfl rfl (by decide +kernel) ⟨Nat.le_of_ble_eq_true rfl, Nat.le_of_ble_eq_true rfl⟩) (zob_s ew8) kc_10 rfl (Nat.le_of_ble_eq_true rfl) hl9 (z_sub [0, 1, 2] rfl hz9)⟩
set_option maxRecDepth 100000 in
set_option maxHeartbeats 4000000 in
theorem t_Collector_collect_5  (X : zX p s m args cd D cid B bb_Collector_collect 7 rr_Collector zT) (H : zH s meth B n0 none "collect") {nf : Nat} {x0 : Nat} {x1 : Nat} {x2 : Nat} {kk : Nat} {nn : Nat} {c : Zc} {res : Nat × Nat × Zc} (h : f_Collector_collect_5 nf x0 x1 x2 kk nn c = some res) : ((kk ≤ res.1 ∧ nn ≤ res.2.1) ∧ Zz p l e (zRm 6 148 res.1 res.2.1) s m args below meth cd (MQ below (zQv D cid B res.2.2 n0 res.1) args s res.1 res.2.1 (fun q => B ≤ q)) D cid B 7 kk nn c 5 [(0, .ref x0), (1, .ref x1), (2, .ref x2)] []) := by
  unfold f_Collector_collect_5 at h
  refine zpr (z_aload_n X dd_Collector_collect_5 rfl 1 rfl) ?_
  obtain ⟨q3, eq3, h⟩ := zb h
  refine zpc (fun hm => z_callSi X [.ref x1] rfl dd_Collector_collect_6 (c_Collector_keysOf l eq3) (va_cwS 1 X.1.2.2.2.2 (zg_S km_1440 km_1441 km_136 km_1442) rfl rfl rfl (by decide +kernel) ⟨Nat.le_of_ble_eq_true rfl, Nat.le_of_ble_eq_true rfl⟩) rfl (Nat.le_of_ble_eq_true rfl) hm) ?_
  refine zpr (z_istore_n (lv' := [(3, .int q3.1), (0, .ref x0), (1, .ref x1), (2, .ref x2)]) X dd_Collector_collect_9 rfl (by decide) rfl) ?_
  refine zpr (z_aload_n X dd_Collector_collect_10 rfl 1 rfl) ?_
  obtain ⟨v4, ev4, h⟩ := zb h
  refine zpr (z_get (j := 1) X dd_Collector_collect_11 kc_10 ki_10 (by decide) km_674 (zgr_v ev4)) ?_
  refine zpr (z_iload_n X dd_Collector_collect_14 rfl 0 rfl) ?_
  obtain ⟨w6, ew6, h⟩ := zb h
  obtain ⟨q5, eq5, h⟩ := zb h
  obtain ⟨hl9, hz9⟩ := t_Collector_collect_18 X H h
  exact ⟨⟨by have := hl9.1; omega, by have := hl9.2; omega⟩, z_callVv X [.int q3.1] rfl dd_Collector_collect_15 (c_Rows_sort l eq5) (cwV 1 X.1.2.2.2.2 (zg_V km_1443 km_1444 km_1445 km_137 km_1446) rfl rfl rfl (by decide +kernel) ⟨Nat.le_of_ble_eq_true rfl, Nat.le_of_ble_eq_true rfl⟩) (zob_s ew6) kc_9 rfl (Nat.le_of_ble_eq_true rfl) hl9 (z_sub [1, 2, 3, 0] rfl hz9)⟩
set_option maxRecDepth 100000 in
set_option maxHeartbeats 4000000 in
theorem c_Collector_collect (l : Launch) {nf : Nat} {a0 : Nat} {a1 : Nat} {a2 : Nat} {c : Zc} {res : Nat × Nat × Zc} (h : f_Collector_collect nf a0 a1 a2 c = some res) : zM l yy_Collector_collect ww_Collector_collect 6 148 res.1 res.2.1 [.ref a0, .ref a1, .ref a2] c (fun D cid B => zQv D cid B res.2.2 c.length res.1) := by
  refine z_met (cc := bb_Collector_collect) (maxL := 7) (ret := none) (by decide +kernel) rfl (Nat.le_of_ble_eq_true rfl) ?_
  intro p e s m args below meth cd D cid B X h1 h2 h3 h4
  have X : zX p s m args cd D cid B bb_Collector_collect 7 rr_Collector zT := X
  have H : zH s meth B c.length none "collect" := ⟨h1, h2, h4, h3⟩
  unfold f_Collector_collect at h
  show Zz p l e (zRm 6 148 res.1 res.2.1) s m args below meth cd _ D cid B 7 0 0 c 0 [(0, .ref a0), (1, .ref a1), (2, .ref a2)] []
  refine And.right (a := (0 ≤ res.1 ∧ 0 ≤ res.2.1)) ?_
  refine zpr (z_aload_n X dd_Collector_collect_0 rfl 0 rfl) ?_
  refine zpr (z_aload_n X dd_Collector_collect_1 rfl 1 rfl) ?_
  obtain ⟨w2, ew2, h⟩ := zb h
  obtain ⟨q1, eq1, h⟩ := zb h
  obtain ⟨hl9, hz9⟩ := t_Collector_collect_5 X H h
  exact ⟨⟨by have := hl9.1; omega, by have := hl9.2; omega⟩, z_callVv X [.ref a1] rfl dd_Collector_collect_2 (c_Collector_gather l eq1) (cwV 1 X.1.2.2.2.2 (zg_V km_1398 km_1400 km_55 km_136 km_1401) rfl rfl rfl (by decide +kernel) ⟨Nat.le_of_ble_eq_true rfl, Nat.le_of_ble_eq_true rfl⟩) (zob_s ew2) kc_10 rfl (Nat.le_of_ble_eq_true rfl) hl9 hz9⟩
theorem dd_PQ_init_0 : decode bb_PQ_init 0 = .ok (.aload_n 0, 1) := by decide +kernel
theorem dd_PQ_init_1 : decode bb_PQ_init 1 = .ok (.invokespecial 3, 3) := by decide +kernel
theorem dd_PQ_init_4 : decode bb_PQ_init 4 = .ok (.aload_n 0, 1) := by decide +kernel
theorem dd_PQ_init_5 : decode bb_PQ_init 5 = .ok (.sipush 1500, 3) := by decide +kernel
theorem dd_PQ_init_8 : decode bb_PQ_init 8 = .ok (.newarray .byte, 2) := by decide +kernel
theorem dd_PQ_init_10 : decode bb_PQ_init 10 = .ok (.putfield 9, 3) := by decide +kernel
theorem dd_PQ_init_13 : decode bb_PQ_init 13 = .ok (.aload_n 0, 1) := by decide +kernel
theorem dd_PQ_init_14 : decode bb_PQ_init 14 = .ok (.new 13, 3) := by decide +kernel
theorem dd_PQ_init_17 : decode bb_PQ_init 17 = .ok (.dup, 1) := by decide +kernel
theorem dd_PQ_init_18 : decode bb_PQ_init 18 = .ok (.invokespecial 15, 3) := by decide +kernel
theorem dd_PQ_init_21 : decode bb_PQ_init 21 = .ok (.putfield 16, 3) := by decide +kernel
theorem dd_PQ_init_24 : decode bb_PQ_init 24 = .ok (.aload_n 0, 1) := by decide +kernel
theorem dd_PQ_init_25 : decode bb_PQ_init 25 = .ok (.new 20, 3) := by decide +kernel
theorem dd_PQ_init_28 : decode bb_PQ_init 28 = .ok (.dup, 1) := by decide +kernel
theorem dd_PQ_init_29 : decode bb_PQ_init 29 = .ok (.invokespecial 22, 3) := by decide +kernel
theorem dd_PQ_init_32 : decode bb_PQ_init 32 = .ok (.putfield 23, 3) := by decide +kernel
theorem dd_PQ_init_35 : decode bb_PQ_init 35 = .ok (.aload_n 0, 1) := by decide +kernel
theorem dd_PQ_init_36 : decode bb_PQ_init 36 = .ok (.new 27, 3) := by decide +kernel
theorem dd_PQ_init_39 : decode bb_PQ_init 39 = .ok (.dup, 1) := by decide +kernel
theorem dd_PQ_init_40 : decode bb_PQ_init 40 = .ok (.aload_n 0, 1) := by decide +kernel
theorem dd_PQ_init_41 : decode bb_PQ_init 41 = .ok (.getfield 23, 3) := by decide +kernel
theorem dd_PQ_init_44 : decode bb_PQ_init 44 = .ok (.invokespecial 29, 3) := by decide +kernel
theorem dd_PQ_init_47 : decode bb_PQ_init 47 = .ok (.putfield 32, 3) := by decide +kernel
theorem dd_PQ_init_50 : decode bb_PQ_init 50 = .ok (.aload_n 0, 1) := by decide +kernel
theorem dd_PQ_init_51 : decode bb_PQ_init 51 = .ok (.new 36, 3) := by decide +kernel
theorem dd_PQ_init_54 : decode bb_PQ_init 54 = .ok (.dup, 1) := by decide +kernel
theorem dd_PQ_init_55 : decode bb_PQ_init 55 = .ok (.aload_n 0, 1) := by decide +kernel
theorem dd_PQ_init_56 : decode bb_PQ_init 56 = .ok (.getfield 16, 3) := by decide +kernel
theorem dd_PQ_init_59 : decode bb_PQ_init 59 = .ok (.aload_n 0, 1) := by decide +kernel
theorem dd_PQ_init_60 : decode bb_PQ_init 60 = .ok (.getfield 23, 3) := by decide +kernel
theorem dd_PQ_init_63 : decode bb_PQ_init 63 = .ok (.invokespecial 38, 3) := by decide +kernel
theorem dd_PQ_init_66 : decode bb_PQ_init 66 = .ok (.putfield 41, 3) := by decide +kernel
theorem dd_PQ_init_69 : decode bb_PQ_init 69 = .ok (.aload_n 0, 1) := by decide +kernel
theorem dd_PQ_init_70 : decode bb_PQ_init 70 = .ok (.new 45, 3) := by decide +kernel
theorem dd_PQ_init_73 : decode bb_PQ_init 73 = .ok (.dup, 1) := by decide +kernel
theorem dd_PQ_init_74 : decode bb_PQ_init 74 = .ok (.aload_n 0, 1) := by decide +kernel
theorem dd_PQ_init_75 : decode bb_PQ_init 75 = .ok (.getfield 16, 3) := by decide +kernel
theorem dd_PQ_init_78 : decode bb_PQ_init 78 = .ok (.aload_n 0, 1) := by decide +kernel
theorem dd_PQ_init_79 : decode bb_PQ_init 79 = .ok (.getfield 41, 3) := by decide +kernel
theorem dd_PQ_init_82 : decode bb_PQ_init 82 = .ok (.invokespecial 47, 3) := by decide +kernel
theorem dd_PQ_init_85 : decode bb_PQ_init 85 = .ok (.putfield 50, 3) := by decide +kernel
theorem dd_PQ_init_88 : decode bb_PQ_init 88 = .ok (.aload_n 0, 1) := by decide +kernel
theorem dd_PQ_init_89 : decode bb_PQ_init 89 = .ok (.new 54, 3) := by decide +kernel
theorem dd_PQ_init_92 : decode bb_PQ_init 92 = .ok (.dup, 1) := by decide +kernel
theorem dd_PQ_init_93 : decode bb_PQ_init 93 = .ok (.aload_n 0, 1) := by decide +kernel
theorem dd_PQ_init_94 : decode bb_PQ_init 94 = .ok (.getfield 41, 3) := by decide +kernel
theorem dd_PQ_init_97 : decode bb_PQ_init 97 = .ok (.invokespecial 56, 3) := by decide +kernel
theorem dd_PQ_init_100 : decode bb_PQ_init 100 = .ok (.putfield 59, 3) := by decide +kernel
theorem dd_PQ_init_103 : decode bb_PQ_init 103 = .ok (.aload_n 0, 1) := by decide +kernel
theorem dd_PQ_init_104 : decode bb_PQ_init 104 = .ok (.iconst 4, 1) := by decide +kernel
theorem dd_PQ_init_105 : decode bb_PQ_init 105 = .ok (.anewarray 20, 3) := by decide +kernel
theorem dd_PQ_init_108 : decode bb_PQ_init 108 = .ok (.putfield 63, 3) := by decide +kernel
theorem dd_PQ_init_111 : decode bb_PQ_init 111 = .ok (.aload_n 0, 1) := by decide +kernel
theorem dd_PQ_init_112 : decode bb_PQ_init 112 = .ok (.iconst 4, 1) := by decide +kernel
theorem dd_PQ_init_113 : decode bb_PQ_init 113 = .ok (.anewarray 67, 3) := by decide +kernel
theorem dd_PQ_init_116 : decode bb_PQ_init 116 = .ok (.putfield 69, 3) := by decide +kernel
theorem dd_PQ_init_119 : decode bb_PQ_init 119 = .ok (.aload_n 0, 1) := by decide +kernel
theorem dd_PQ_init_120 : decode bb_PQ_init 120 = .ok (.iconst 4, 1) := by decide +kernel
theorem dd_PQ_init_121 : decode bb_PQ_init 121 = .ok (.newarray .int, 2) := by decide +kernel
theorem dd_PQ_init_123 : decode bb_PQ_init 123 = .ok (.putfield 73, 3) := by decide +kernel
theorem dd_PQ_init_126 : decode bb_PQ_init 126 = .ok (.aload_n 0, 1) := by decide +kernel
theorem dd_PQ_init_127 : decode bb_PQ_init 127 = .ok (.iconst 0, 1) := by decide +kernel
theorem dd_PQ_init_128 : decode bb_PQ_init 128 = .ok (.putfield 77, 3) := by decide +kernel
theorem dd_PQ_init_131 : decode bb_PQ_init 131 = .ok (.iconst 0, 1) := by decide +kernel
theorem dd_PQ_init_132 : decode bb_PQ_init 132 = .ok (.istore_n 1, 1) := by decide +kernel
theorem dd_PQ_init_133 : decode bb_PQ_init 133 = .ok (.iload_n 1, 1) := by decide +kernel
theorem dd_PQ_init_134 : decode bb_PQ_init 134 = .ok (.iconst 4, 1) := by decide +kernel
theorem dd_PQ_init_135 : decode bb_PQ_init 135 = .ok (.if_icmp .ge 42, 3) := by decide +kernel
theorem dd_PQ_init_138 : decode bb_PQ_init 138 = .ok (.aload_n 0, 1) := by decide +kernel
theorem dd_PQ_init_139 : decode bb_PQ_init 139 = .ok (.getfield 63, 3) := by decide +kernel
theorem dd_PQ_init_142 : decode bb_PQ_init 142 = .ok (.iload_n 1, 1) := by decide +kernel
theorem dd_PQ_init_143 : decode bb_PQ_init 143 = .ok (.new 20, 3) := by decide +kernel
theorem dd_PQ_init_146 : decode bb_PQ_init 146 = .ok (.dup, 1) := by decide +kernel
theorem dd_PQ_init_147 : decode bb_PQ_init 147 = .ok (.invokespecial 22, 3) := by decide +kernel
theorem dd_PQ_init_150 : decode bb_PQ_init 150 = .ok (.aastore, 1) := by decide +kernel
theorem dd_PQ_init_151 : decode bb_PQ_init 151 = .ok (.aload_n 0, 1) := by decide +kernel
theorem dd_PQ_init_152 : decode bb_PQ_init 152 = .ok (.getfield 69, 3) := by decide +kernel
theorem dd_PQ_init_155 : decode bb_PQ_init 155 = .ok (.iload_n 1, 1) := by decide +kernel
theorem dd_PQ_init_156 : decode bb_PQ_init 156 = .ok (.new 67, 3) := by decide +kernel
theorem dd_PQ_init_159 : decode bb_PQ_init 159 = .ok (.dup, 1) := by decide +kernel
theorem dd_PQ_init_160 : decode bb_PQ_init 160 = .ok (.invokespecial 81, 3) := by decide +kernel
theorem dd_PQ_init_163 : decode bb_PQ_init 163 = .ok (.aastore, 1) := by decide +kernel
theorem dd_PQ_init_164 : decode bb_PQ_init 164 = .ok (.aload_n 0, 1) := by decide +kernel
theorem dd_PQ_init_165 : decode bb_PQ_init 165 = .ok (.getfield 73, 3) := by decide +kernel
theorem dd_PQ_init_168 : decode bb_PQ_init 168 = .ok (.iload_n 1, 1) := by decide +kernel
theorem dd_PQ_init_169 : decode bb_PQ_init 169 = .ok (.iconst (-1), 1) := by decide +kernel
theorem dd_PQ_init_170 : decode bb_PQ_init 170 = .ok (.iastore, 1) := by decide +kernel
theorem dd_PQ_init_171 : decode bb_PQ_init 171 = .ok (.iinc 1 1, 3) := by decide +kernel
theorem dd_PQ_init_174 : decode bb_PQ_init 174 = .ok (.goto (-41), 3) := by decide +kernel
theorem dd_PQ_init_177 : decode bb_PQ_init 177 = .ok (.return_, 1) := by decide +kernel
set_option maxRecDepth 100000 in
set_option maxHeartbeats 4000000 in
theorem u_PQ_init_133  (X : zX p s m args cd D cid B bb_PQ_init 2 rr_PQ zT) (H : zH s meth B n0 none "<init>") {nf mc ms : Nat} {x0 : Nat} {x1 : Int32} {kk : Nat} {nn : Nat} {c : Zc} {r : (Nat × Int32 × Nat × Nat × Zc) ⊕ (Nat × Nat × Zc)} (h : g_PQ_init_133 nf mc ms x0 x1 kk nn c = some r) (k0 : ∀ a, r = .inl a → (fun a : Nat × Int32 × Nat × Nat × Zc => Zz p l e (zRm 4 84 mc ms) s m args below meth cd Q D cid B 2 a.2.2.1 a.2.2.2.1 a.2.2.2.2 133 [(0, .ref a.1), (1, .int a.2.1)] []) a) (k1 : ∀ b, r = .inr b → (fun b : Nat × Nat × Zc => Zz p l e (zRm 4 84 mc ms) s m args below meth cd Q D cid B 2 b.1 b.2.1 b.2.2 177 [] []) b) : Zz p l e (zRm 4 84 mc ms) s m args below meth cd Q D cid B 2 kk nn c 133 [(0, .ref x0), (1, .int x1)] [] := by
  unfold g_PQ_init_133 at h
  refine z_iload_n X dd_PQ_init_133 rfl 1 rfl ?_
  refine z_iconst (v := 4) X dd_PQ_init_134 (by decide) ?_
  refine z_icmp_ge (tgt := 177) X dd_PQ_init_135 (by decide) (fun q50 => ?_) (fun q50 => ?_)
  · rw [if_pos q50] at h
    refine z_sub [] rfl ?_
    obtain rfl := Option.some.inj h
    exact k1 _ rfl
  · rw [if_neg q50] at h
    refine z_aload_n X dd_PQ_init_138 rfl 0 rfl ?_
    obtain ⟨v51, ev51, h⟩ := zb h
    refine z_get (j := 7) X dd_PQ_init_139 kc_11 ki_11 (by decide) km_696 (zgr_v ev51) ?_
    refine z_iload_n X dd_PQ_init_142 rfl 1 rfl ?_
    obtain ⟨u53, eu53, h⟩ := zb h
    obtain ⟨c52, ec52, h⟩ := zb h
    refine z_newC X dd_PQ_init_143 kc_2 ki_2 tt_Text tk_Text km_207 km_208 km_128 (by decide +kernel) (fun _ _ => rfl) (zlim_s eu53).1 (zlim_s eu53).2 ec52 ?_
    refine z_dup X dd_PQ_init_146 rfl ?_
    obtain ⟨u55, eu55, h⟩ := zb h
    obtain ⟨q54, eq54, h⟩ := zb h
    refine z_callIv (ret := none) X [] rfl dd_PQ_init_147 (c_Text_init l eq54) (cwI 0 X.1.2.2.2.2 (zg_I km_211) rfl rfl rfl (X.1.2.2.2.2 _ km_128) (X.1.2.2.2.2 _ km_209) (X.1.2.2.2.2 _ km_210) rfl (by decide +kernel) ⟨Nat.le_of_ble_eq_true rfl, Nat.le_of_ble_eq_true rfl⟩) rfl (Nat.le_of_ble_eq_true rfl) (zlim_s eu55) ?_
    obtain ⟨c56, ec56, h⟩ := zb h
    refine z_aastore X dd_PQ_init_150 kc_2 rfl ec56 ?_
    refine z_aload_n X dd_PQ_init_151 rfl 0 rfl ?_
    obtain ⟨v57, ev57, h⟩ := zb h
    refine z_get (j := 8) X dd_PQ_init_152 kc_11 ki_11 (by decide) km_697 (zgr_v ev57) ?_
    refine z_iload_n X dd_PQ_init_155 rfl 1 rfl ?_
    obtain ⟨u59, eu59, h⟩ := zb h
    obtain ⟨c58, ec58, h⟩ := zb h
    refine z_newC X dd_PQ_init_156 kc_9 ki_9 tt_Rows tk_Rows km_686 km_649 km_137 (by decide +kernel) (fun _ _ => rfl) (zlim_s eu59).1 (zlim_s eu59).2 ec58 ?_
    refine z_dup X dd_PQ_init_159 rfl ?_
    obtain ⟨u61, eu61, h⟩ := zb h
    obtain ⟨q60, eq60, h⟩ := zb h
    refine z_callIv (ret := none) X [] rfl dd_PQ_init_160 (c_Rows_init l eq60) (cwI 0 X.1.2.2.2.2 (zg_I km_652) rfl rfl rfl (X.1.2.2.2.2 _ km_137) (X.1.2.2.2.2 _ km_688) (X.1.2.2.2.2 _ km_651) rfl (by decide +kernel) ⟨Nat.le_of_ble_eq_true rfl, Nat.le_of_ble_eq_true rfl⟩) rfl (Nat.le_of_ble_eq_true rfl) (zlim_s eu61) ?_
    obtain ⟨c62, ec62, h⟩ := zb h
    refine z_aastore X dd_PQ_init_163 kc_9 rfl ec62 ?_
    refine z_aload_n X dd_PQ_init_164 rfl 0 rfl ?_
    obtain ⟨v63, ev63, h⟩ := zb h
    refine z_get (j := 9) X dd_PQ_init_165 kc_11 ki_11 (by decide) km_698 (zgr_v ev63) ?_
    refine z_iload_n X dd_PQ_init_168 rfl 1 rfl ?_
    refine z_iconst (v := (-1)) X dd_PQ_init_169 (by decide) ?_
    obtain ⟨c64, ec64, h⟩ := zb h
    refine z_iastore X dd_PQ_init_170 rfl ec64 ?_
    refine z_iinc (v := (x1 + 1)) (lv' := [(1, .int (x1 + 1)), (0, .ref x0)]) X dd_PQ_init_171 1 rfl rfl (by decide) rfl ?_
    refine z_goto (tgt := 133) X dd_PQ_init_174 (by decide) ?_
    refine z_sub [1, 0] rfl ?_
    obtain rfl := Option.some.inj h
    exact k0 _ rfl
set_option maxRecDepth 100000 in
set_option maxHeartbeats 4000000 in
theorem t_PQ_init_133  (X : zX p s m args cd D cid B bb_PQ_init 2 rr_PQ zT) (H : zH s meth B n0 none "<init>") {nf mc ms : Nat} {x0 : Nat} {x1 : Int32} {kk : Nat} {nn : Nat} {c : Zc} {res : Zc} (h : f_PQ_init_133 nf mc ms x0 x1 kk nn c = some res) : Zz p l e (zRm 4 84 mc ms) s m args below meth cd (MQ below (zQv D cid B res n0 mc) args s mc ms (fun q => B ≤ q)) D cid B 2 kk nn c 133 [(0, .ref x0), (1, .int x1)] [] := by
  unfold f_PQ_init_133 at h
  obtain ⟨b, eb, h⟩ := zb h
  refine zlp_ok (P := fun a : Nat × Int32 × Nat × Nat × Zc => Zz p l e (zRm 4 84 mc ms) s m args below meth cd _ D cid B 2 a.2.2.1 a.2.2.2.1 a.2.2.2.2 133 [(0, .ref a.1), (1, .int a.2.1)] []) (G := fun b : Nat × Nat × Zc => Zz p l e (zRm 4 84 mc ms) s m args below meth cd _ D cid B 2 b.1 b.2.1 b.2.2 177 [] []) (fun a r ha k0 k1 => u_PQ_init_133 X H ha k0 k1) nf _ b eb ?_
  obtain ⟨u65, eu65, h⟩ := zb h
  refine z_wid (zend_s eu65).1 (zend_s eu65).2 ?_
  obtain rfl := Option.some.inj h
  exact z_vret X H.1 H.2.1 H.2.2.1 dd_PQ_init_177
set_option maxRecDepth 100000 in
set_option maxHeartbeats 4000000 in
theorem c_PQ_init (l : Launch) {nf mc ms : Nat} {a0 : Nat} {c : Zc} {res : Zc} (h : f_PQ_init nf mc ms a0 c = some res) : zM l yy_PQ_init ww_PQ_init 4 84 mc ms [.ref a0] c (fun D cid B => zQv D cid B res c.length mc) := by
  refine z_met (cc := bb_PQ_init) (maxL := 2) (ret := none) (by decide +kernel) rfl (Nat.le_of_ble_eq_true rfl) ?_
  intro p e s m args below meth cd D cid B X h1 h2 h3 h4
  have X : zX p s m args cd D cid B bb_PQ_init 2 rr_PQ zT := X
  have H : zH s meth B c.length none "<init>" := ⟨h1, h2, h4, h3⟩
  unfold f_PQ_init at h
  show Zz p l e (zRm 4 84 mc ms) s m args below meth cd _ D cid B 2 0 0 c 0 [(0, .ref a0)] []
  refine z_aload_n X dd_PQ_init_0 rfl 0 rfl ?_
  refine z_objInit X dd_PQ_init_1 km_152 km_153 km_154 (Nat.le_of_ble_eq_true rfl) (Nat.le_of_ble_eq_true rfl) ?_
  refine z_aload_n X dd_PQ_init_4 rfl 0 rfl ?_
  refine z_sipush (v := 1500) X dd_PQ_init_5 (by decide) ?_
  obtain ⟨u2, eu2, h⟩ := zb h
  obtain ⟨c1, ec1, h⟩ := zb h
  refine z_newaC (ty := .byte) X dd_PQ_init_8 rfl km_205 rfl (fun _ q => by cases q) (fun _ => rfl) (fun _ => rfl) (by decide) (by decide) (by decide) (zlim_s eu2).1 (zlim_s eu2).2 ec1 ?_
  obtain ⟨c3, ec3, h⟩ := zb h
  refine z_putF (j := 0) X dd_PQ_init_10 kc_11 ki_11 tt_PQ tk_PQ nn_PQ (by decide) km_689 rfl H.2.2.2 rfl (tk_PQ 0 (by decide)) rfl rfl ec3 ?_
  refine z_aload_n X dd_PQ_init_13 rfl 0 rfl ?_
  obtain ⟨u5, eu5, h⟩ := zb h
  obtain ⟨c4, ec4, h⟩ := zb h
  refine z_newC X dd_PQ_init_14 kc_0 ki_0 tt_Graph tk_Graph km_155 km_156 km_126 (by decide +kernel) (fun _ _ => rfl) (zlim_s eu5).1 (zlim_s eu5).2 ec4 ?_
  refine z_dup X dd_PQ_init_17 rfl ?_
  obtain ⟨u7, eu7, h⟩ := zb h
  obtain ⟨q6, eq6, h⟩ := zb h
  refine z_callIv (ret := none) X [] rfl dd_PQ_init_18 (c_Graph_init l eq6) (cwI 0 X.1.2.2.2.2 (zg_I km_159) rfl rfl rfl (X.1.2.2.2.2 _ km_126) (X.1.2.2.2.2 _ km_157) (X.1.2.2.2.2 _ km_158) rfl (by decide +kernel) ⟨Nat.le_of_ble_eq_true rfl, Nat.le_of_ble_eq_true rfl⟩) rfl (Nat.le_of_ble_eq_true rfl) (zlim_s eu7) ?_
  obtain ⟨c8, ec8, h⟩ := zb h
  refine z_putF (j := 1) X dd_PQ_init_21 kc_11 ki_11 tt_PQ tk_PQ nn_PQ (by decide) km_690 rfl H.2.2.2 rfl (tk_PQ 1 (by decide)) rfl rfl ec8 ?_
  refine z_aload_n X dd_PQ_init_24 rfl 0 rfl ?_
  obtain ⟨u10, eu10, h⟩ := zb h
  obtain ⟨c9, ec9, h⟩ := zb h
  refine z_newC X dd_PQ_init_25 kc_2 ki_2 tt_Text tk_Text km_207 km_208 km_128 (by decide +kernel) (fun _ _ => rfl) (zlim_s eu10).1 (zlim_s eu10).2 ec9 ?_
  refine z_dup X dd_PQ_init_28 rfl ?_
  obtain ⟨u12, eu12, h⟩ := zb h
  obtain ⟨q11, eq11, h⟩ := zb h
  refine z_callIv (ret := none) X [] rfl dd_PQ_init_29 (c_Text_init l eq11) (cwI 0 X.1.2.2.2.2 (zg_I km_211) rfl rfl rfl (X.1.2.2.2.2 _ km_128) (X.1.2.2.2.2 _ km_209) (X.1.2.2.2.2 _ km_210) rfl (by decide +kernel) ⟨Nat.le_of_ble_eq_true rfl, Nat.le_of_ble_eq_true rfl⟩) rfl (Nat.le_of_ble_eq_true rfl) (zlim_s eu12) ?_
  obtain ⟨c13, ec13, h⟩ := zb h
  refine z_put (j := 2) X dd_PQ_init_32 kc_11 ki_11 tt_PQ tk_PQ nn_PQ (by decide) km_691 rfl (tk_PQ 2 (by decide)) rfl rfl ec13 ?_
  refine z_aload_n X dd_PQ_init_35 rfl 0 rfl ?_
  obtain ⟨u15, eu15, h⟩ := zb h
  obtain ⟨c14, ec14, h⟩ := zb h
  refine z_newC X dd_PQ_init_36 kc_5 ki_5 tt_Reader tk_Reader km_404 km_405 km_130 (by decide +kernel) (fun _ _ => rfl) (zlim_s eu15).1 (zlim_s eu15).2 ec14 ?_
  refine z_dup X dd_PQ_init_39 rfl ?_
  refine z_aload_n X dd_PQ_init_40 rfl 0 rfl ?_
  obtain ⟨v16, ev16, h⟩ := zb h
  refine z_get (j := 2) X dd_PQ_init_41 kc_11 ki_11 (by decide) km_691 (zgr_v ev16) ?_
  obtain ⟨u18, eu18, h⟩ := zb h
  obtain ⟨q17, eq17, h⟩ := zb h
  refine z_callIv (ret := none) X [.ref v16] rfl dd_PQ_init_44 (c_Reader_init l eq17) (cwI 1 X.1.2.2.2.2 (zg_I km_408) rfl rfl rfl (X.1.2.2.2.2 _ km_130) (X.1.2.2.2.2 _ km_406) (X.1.2.2.2.2 _ km_407) rfl (by decide +kernel) ⟨Nat.le_of_ble_eq_true rfl, Nat.le_of_ble_eq_true rfl⟩) rfl (Nat.le_of_ble_eq_true rfl) (zlim_s eu18) ?_
  obtain ⟨c19, ec19, h⟩ := zb h
  refine z_putF (j := 3) X dd_PQ_init_47 kc_11 ki_11 tt_PQ tk_PQ nn_PQ (by decide) km_692 rfl H.2.2.2 rfl (tk_PQ 3 (by decide)) rfl rfl ec19 ?_
  refine z_aload_n X dd_PQ_init_50 rfl 0 rfl ?_
  obtain ⟨u21, eu21, h⟩ := zb h
  obtain ⟨c20, ec20, h⟩ := zb h
  refine z_newC X dd_PQ_init_51 kc_7 ki_7 tt_Finder tk_Finder km_535 km_536 km_133 (by decide +kernel) (fun _ _ => rfl) (zlim_s eu21).1 (zlim_s eu21).2 ec20 ?_
  refine z_dup X dd_PQ_init_54 rfl ?_
  refine z_aload_n X dd_PQ_init_55 rfl 0 rfl ?_
  obtain ⟨v22, ev22, h⟩ := zb h
  refine z_get (j := 1) X dd_PQ_init_56 kc_11 ki_11 (by decide) km_690 (zgr_v ev22) ?_
  refine z_aload_n X dd_PQ_init_59 rfl 0 rfl ?_
  obtain ⟨v23, ev23, h⟩ := zb h
  refine z_get (j := 2) X dd_PQ_init_60 kc_11 ki_11 (by decide) km_691 (zgr_v ev23) ?_
  obtain ⟨u25, eu25, h⟩ := zb h
  obtain ⟨q24, eq24, h⟩ := zb h
  refine z_callIv (ret := none) X [.ref v22, .ref v23] rfl dd_PQ_init_63 (c_Finder_init l eq24) (cwI 2 X.1.2.2.2.2 (zg_I km_539) rfl rfl rfl (X.1.2.2.2.2 _ km_133) (X.1.2.2.2.2 _ km_537) (X.1.2.2.2.2 _ km_538) rfl (by decide +kernel) ⟨Nat.le_of_ble_eq_true rfl, Nat.le_of_ble_eq_true rfl⟩) rfl (Nat.le_of_ble_eq_true rfl) (zlim_s eu25) ?_
  obtain ⟨c26, ec26, h⟩ := zb h
  refine z_putF (j := 4) X dd_PQ_init_66 kc_11 ki_11 tt_PQ tk_PQ nn_PQ (by decide) km_693 rfl H.2.2.2 rfl (tk_PQ 4 (by decide)) rfl rfl ec26 ?_
  refine z_aload_n X dd_PQ_init_69 rfl 0 rfl ?_
  obtain ⟨u28, eu28, h⟩ := zb h
  obtain ⟨c27, ec27, h⟩ := zb h
  refine z_newC X dd_PQ_init_70 kc_8 ki_8 tt_RuleBook tk_RuleBook km_613 km_614 km_135 (by decide +kernel) (fun _ _ => rfl) (zlim_s eu28).1 (zlim_s eu28).2 ec27 ?_
  refine z_dup X dd_PQ_init_73 rfl ?_
  refine z_aload_n X dd_PQ_init_74 rfl 0 rfl ?_
  obtain ⟨v29, ev29, h⟩ := zb h
  refine z_get (j := 1) X dd_PQ_init_75 kc_11 ki_11 (by decide) km_690 (zgr_v ev29) ?_
  refine z_aload_n X dd_PQ_init_78 rfl 0 rfl ?_
  obtain ⟨v30, ev30, h⟩ := zb h
  refine z_get (j := 4) X dd_PQ_init_79 kc_11 ki_11 (by decide) km_693 (zgr_v ev30) ?_
  obtain ⟨u32, eu32, h⟩ := zb h
  obtain ⟨q31, eq31, h⟩ := zb h
  refine z_callIv (ret := none) X [.ref v29, .ref v30] rfl dd_PQ_init_82 (c_RuleBook_init l eq31) (cwI 2 X.1.2.2.2.2 (zg_I km_617) rfl rfl rfl (X.1.2.2.2.2 _ km_135) (X.1.2.2.2.2 _ km_615) (X.1.2.2.2.2 _ km_616) rfl (by decide +kernel) ⟨Nat.le_of_ble_eq_true rfl, Nat.le_of_ble_eq_true rfl⟩) rfl (Nat.le_of_ble_eq_true rfl) (zlim_s eu32) ?_
  obtain ⟨c33, ec33, h⟩ := zb h
  refine z_putF (j := 5) X dd_PQ_init_85 kc_11 ki_11 tt_PQ tk_PQ nn_PQ (by decide) km_694 rfl H.2.2.2 rfl (tk_PQ 5 (by decide)) rfl rfl ec33 ?_
  refine z_aload_n X dd_PQ_init_88 rfl 0 rfl ?_
  obtain ⟨u35, eu35, h⟩ := zb h
  obtain ⟨c34, ec34, h⟩ := zb h
  refine z_newC X dd_PQ_init_89 kc_10 ki_10 tt_Collector tk_Collector km_642 km_643 km_136 (by decide +kernel) (fun _ _ => rfl) (zlim_s eu35).1 (zlim_s eu35).2 ec34 ?_
  refine z_dup X dd_PQ_init_92 rfl ?_
  refine z_aload_n X dd_PQ_init_93 rfl 0 rfl ?_
  obtain ⟨v36, ev36, h⟩ := zb h
  refine z_get (j := 4) X dd_PQ_init_94 kc_11 ki_11 (by decide) km_693 (zgr_v ev36) ?_
  obtain ⟨u38, eu38, h⟩ := zb h
  obtain ⟨q37, eq37, h⟩ := zb h
  refine z_callIv (ret := none) X [.ref v36] rfl dd_PQ_init_97 (c_Collector_init l eq37) (cwI 1 X.1.2.2.2.2 (zg_I km_646) rfl rfl rfl (X.1.2.2.2.2 _ km_136) (X.1.2.2.2.2 _ km_644) (X.1.2.2.2.2 _ km_645) rfl (by decide +kernel) ⟨Nat.le_of_ble_eq_true rfl, Nat.le_of_ble_eq_true rfl⟩) rfl (Nat.le_of_ble_eq_true rfl) (zlim_s eu38) ?_
  obtain ⟨c39, ec39, h⟩ := zb h
  refine z_putF (j := 6) X dd_PQ_init_100 kc_11 ki_11 tt_PQ tk_PQ nn_PQ (by decide) km_695 rfl H.2.2.2 rfl (tk_PQ 6 (by decide)) rfl rfl ec39 ?_
  refine z_aload_n X dd_PQ_init_103 rfl 0 rfl ?_
  refine z_iconst (v := 4) X dd_PQ_init_104 (by decide) ?_
  obtain ⟨u41, eu41, h⟩ := zb h
  obtain ⟨c40, ec40, h⟩ := zb h
  refine z_newqC X dd_PQ_init_105 km_207 (by decide +kernel) rfl (by decide) (by decide) (by decide) (zlim_s eu41).1 (zlim_s eu41).2 ec40 ?_
  obtain ⟨c42, ec42, h⟩ := zb h
  refine z_putF (j := 7) X dd_PQ_init_108 kc_11 ki_11 tt_PQ tk_PQ nn_PQ (by decide) km_696 rfl H.2.2.2 rfl (tk_PQ 7 (by decide)) rfl rfl ec42 ?_
  refine z_aload_n X dd_PQ_init_111 rfl 0 rfl ?_
  refine z_iconst (v := 4) X dd_PQ_init_112 (by decide) ?_
  obtain ⟨u44, eu44, h⟩ := zb h
  obtain ⟨c43, ec43, h⟩ := zb h
  refine z_newqC X dd_PQ_init_113 km_686 (by decide +kernel) rfl (by decide) (by decide) (by decide) (zlim_s eu44).1 (zlim_s eu44).2 ec43 ?_
  obtain ⟨c45, ec45, h⟩ := zb h
  refine z_putF (j := 8) X dd_PQ_init_116 kc_11 ki_11 tt_PQ tk_PQ nn_PQ (by decide) km_697 rfl H.2.2.2 rfl (tk_PQ 8 (by decide)) rfl rfl ec45 ?_
  refine z_aload_n X dd_PQ_init_119 rfl 0 rfl ?_
  refine z_iconst (v := 4) X dd_PQ_init_120 (by decide) ?_
  obtain ⟨u47, eu47, h⟩ := zb h
  obtain ⟨c46, ec46, h⟩ := zb h
  refine z_newaC (ty := .int) X dd_PQ_init_121 rfl km_206 rfl (fun _ q => by cases q) (fun _ => rfl) (fun _ => rfl) (by decide) (by decide) (by decide) (zlim_s eu47).1 (zlim_s eu47).2 ec46 ?_
  obtain ⟨c48, ec48, h⟩ := zb h
  refine z_putF (j := 9) X dd_PQ_init_123 kc_11 ki_11 tt_PQ tk_PQ nn_PQ (by decide) km_698 rfl H.2.2.2 rfl (tk_PQ 9 (by decide)) rfl rfl ec48 ?_
  refine z_aload_n X dd_PQ_init_126 rfl 0 rfl ?_
  refine z_iconst (v := 0) X dd_PQ_init_127 (by decide) ?_
  obtain ⟨c49, ec49, h⟩ := zb h
  refine z_put (j := 10) X dd_PQ_init_128 kc_11 ki_11 tt_PQ tk_PQ nn_PQ (by decide) km_699 rfl (tk_PQ 10 (by decide)) rfl rfl ec49 ?_
  refine z_iconst (v := 0) X dd_PQ_init_131 (by decide) ?_
  refine z_istore_n (lv' := [(1, .int 0), (0, .ref a0)]) X dd_PQ_init_132 rfl (by decide) rfl ?_
  refine z_sub [1, 0] rfl ?_
  exact t_PQ_init_133 X H h
theorem dd_PQ_append_0 : decode bb_PQ_append 0 = .ok (.bipush 24, 2) := by decide +kernel
theorem dd_PQ_append_2 : decode bb_PQ_append 2 = .ok (.istore_n 2, 1) := by decide +kernel
theorem dd_PQ_append_3 : decode bb_PQ_append 3 = .ok (.iload_n 2, 1) := by decide +kernel
theorem dd_PQ_append_4 : decode bb_PQ_append 4 = .ok (.ifCond .lt 42, 3) := by decide +kernel
theorem dd_PQ_append_7 : decode bb_PQ_append 7 = .ok (.aload_n 0, 1) := by decide +kernel
theorem dd_PQ_append_8 : decode bb_PQ_append 8 = .ok (.getfield 77, 3) := by decide +kernel
theorem dd_PQ_append_11 : decode bb_PQ_append 11 = .ok (.sipush 1500, 3) := by decide +kernel
theorem dd_PQ_append_14 : decode bb_PQ_append 14 = .ok (.if_icmp .ge 32, 3) := by decide +kernel
theorem dd_PQ_append_17 : decode bb_PQ_append 17 = .ok (.aload_n 0, 1) := by decide +kernel
theorem dd_PQ_append_18 : decode bb_PQ_append 18 = .ok (.getfield 9, 3) := by decide +kernel
theorem dd_PQ_append_21 : decode bb_PQ_append 21 = .ok (.aload_n 0, 1) := by decide +kernel
theorem dd_PQ_append_22 : decode bb_PQ_append 22 = .ok (.getfield 77, 3) := by decide +kernel
theorem dd_PQ_append_25 : decode bb_PQ_append 25 = .ok (.iload_n 1, 1) := by decide +kernel
theorem dd_PQ_append_26 : decode bb_PQ_append 26 = .ok (.iload_n 2, 1) := by decide +kernel
theorem dd_PQ_append_27 : decode bb_PQ_append 27 = .ok (.ishr, 1) := by decide +kernel
theorem dd_PQ_append_28 : decode bb_PQ_append 28 = .ok (.i2b, 1) := by decide +kernel
theorem dd_PQ_append_29 : decode bb_PQ_append 29 = .ok (.bastore, 1) := by decide +kernel
theorem dd_PQ_append_30 : decode bb_PQ_append 30 = .ok (.aload_n 0, 1) := by decide +kernel
theorem dd_PQ_append_31 : decode bb_PQ_append 31 = .ok (.dup, 1) := by decide +kernel
theorem dd_PQ_append_32 : decode bb_PQ_append 32 = .ok (.getfield 77, 3) := by decide +kernel
theorem dd_PQ_append_35 : decode bb_PQ_append 35 = .ok (.iconst 1, 1) := by decide +kernel
theorem dd_PQ_append_36 : decode bb_PQ_append 36 = .ok (.iadd, 1) := by decide +kernel
theorem dd_PQ_append_37 : decode bb_PQ_append 37 = .ok (.putfield 77, 3) := by decide +kernel
theorem dd_PQ_append_40 : decode bb_PQ_append 40 = .ok (.iinc 2 (-8), 3) := by decide +kernel
theorem dd_PQ_append_43 : decode bb_PQ_append 43 = .ok (.goto (-40), 3) := by decide +kernel
theorem dd_PQ_append_46 : decode bb_PQ_append 46 = .ok (.return_, 1) := by decide +kernel
set_option maxRecDepth 100000 in
set_option maxHeartbeats 4000000 in
theorem u_PQ_append_3  (X : zX p s m args cd D cid B bb_PQ_append 3 rr_PQ zT) (H : zH s meth B n0 none "append") {nf : Nat} {x0 : Nat} {x1 : Int32} {x2 : Int32} {c : Zc} {r : (Nat × Int32 × Int32 × Zc) ⊕ (Zc)} (h : g_PQ_append_3 nf x0 x1 x2 c = some r) (k0 : ∀ a, r = .inl a → (fun a : Nat × Int32 × Int32 × Zc => Zz p l e (zRm 0 0 0 0) s m args below meth cd Q D cid B 3 0 0 a.2.2.2 3 [(0, .ref a.1), (1, .int a.2.1), (2, .int a.2.2.1)] []) a) (k1 : ∀ b, r = .inr b → (fun b : Zc => Zz p l e (zRm 0 0 0 0) s m args below meth cd Q D cid B 3 0 0 b 46 [] []) b) : Zz p l e (zRm 0 0 0 0) s m args below meth cd Q D cid B 3 0 0 c 3 [(0, .ref x0), (1, .int x1), (2, .int x2)] [] := by
  unfold g_PQ_append_3 at h
  refine z_iload_n X dd_PQ_append_3 rfl 2 rfl ?_
  refine z_if_lt (tgt := 46) X dd_PQ_append_4 (by decide) (fun q1 => ?_) (fun q1 => ?_)
  · rw [if_pos q1] at h
    refine z_sub [] rfl ?_
    obtain rfl := Option.some.inj h
    exact k1 _ rfl
  · rw [if_neg q1] at h
    refine z_aload_n X dd_PQ_append_7 rfl 0 rfl ?_
    obtain ⟨v2, ev2, h⟩ := zb h
    refine z_get (j := 10) X dd_PQ_append_8 kc_11 ki_11 (by decide) km_699 (zgi_v ev2) ?_
    refine z_sipush (v := 1500) X dd_PQ_append_11 (by decide) ?_
    refine z_icmp_ge (tgt := 46) X dd_PQ_append_14 (by decide) (fun q3 => ?_) (fun q3 => ?_)
    · rw [if_pos q3] at h
      refine z_sub [] rfl ?_
      obtain rfl := Option.some.inj h
      exact k1 _ rfl
    · rw [if_neg q3] at h
      refine z_aload_n X dd_PQ_append_17 rfl 0 rfl ?_
      obtain ⟨v4, ev4, h⟩ := zb h
      refine z_get (j := 0) X dd_PQ_append_18 kc_11 ki_11 (by decide) km_689 (zgr_v ev4) ?_
      refine z_aload_n X dd_PQ_append_21 rfl 0 rfl ?_
      obtain ⟨v5, ev5, h⟩ := zb h
      refine z_get (j := 10) X dd_PQ_append_22 kc_11 ki_11 (by decide) km_699 (zgi_v ev5) ?_
      refine z_iload_n X dd_PQ_append_25 rfl 1 rfl ?_
      refine z_iload_n X dd_PQ_append_26 rfl 2 rfl ?_
      refine z_ishr X dd_PQ_append_27 ?_
      refine z_i2b X dd_PQ_append_28 ?_
      obtain ⟨c6, ec6, h⟩ := zb h
      refine z_bastore X dd_PQ_append_29 rfl ec6 ?_
      refine z_aload_n X dd_PQ_append_30 rfl 0 rfl ?_
      refine z_dup X dd_PQ_append_31 rfl ?_
      obtain ⟨v7, ev7, h⟩ := zb h
      refine z_get (j := 10) X dd_PQ_append_32 kc_11 ki_11 (by decide) km_699 (zgi_v ev7) ?_
      refine z_iconst (v := 1) X dd_PQ_append_35 (by decide) ?_
      refine z_iadd X dd_PQ_append_36 ?_
      obtain ⟨c8, ec8, h⟩ := zb h
      refine z_put (j := 10) X dd_PQ_append_37 kc_11 ki_11 tt_PQ tk_PQ nn_PQ (by decide) km_699 rfl (tk_PQ 10 (by decide)) rfl rfl ec8 ?_
      refine z_iinc (v := (x2 + (-8))) (lv' := [(2, .int (x2 + (-8))), (0, .ref x0), (1, .int x1)]) X dd_PQ_append_40 2 rfl rfl (by decide) rfl ?_
      refine z_goto (tgt := 3) X dd_PQ_append_43 (by decide) ?_
      refine z_sub [1, 2, 0] rfl ?_
      obtain rfl := Option.some.inj h
      exact k0 _ rfl
set_option maxRecDepth 100000 in
set_option maxHeartbeats 4000000 in
theorem t_PQ_append_46  (X : zX p s m args cd D cid B bb_PQ_append 3 rr_PQ zT) (H : zH s meth B n0 none "append") {nf : Nat}  {c : Zc} {res : Zc} (h : f_PQ_append_46 nf  c = some res) : Zz p l e (zRm 0 0 0 0) s m args below meth cd (MQ below (zQv D cid B res n0 0) args s 0 0 (fun q => B ≤ q)) D cid B 3 0 0 c 46 [] [] := by
  unfold f_PQ_append_46 at h
  obtain rfl := Option.some.inj h
  exact z_vret X H.1 H.2.1 H.2.2.1 dd_PQ_append_46
set_option maxRecDepth 100000 in
set_option maxHeartbeats 4000000 in
theorem t_PQ_append_3  (X : zX p s m args cd D cid B bb_PQ_append 3 rr_PQ zT) (H : zH s meth B n0 none "append") {nf : Nat} {x0 : Nat} {x1 : Int32} {x2 : Int32} {c : Zc} {res : Zc} (h : f_PQ_append_3 nf x0 x1 x2 c = some res) : Zz p l e (zRm 0 0 0 0) s m args below meth cd (MQ below (zQv D cid B res n0 0) args s 0 0 (fun q => B ≤ q)) D cid B 3 0 0 c 3 [(0, .ref x0), (1, .int x1), (2, .int x2)] [] := by
  unfold f_PQ_append_3 at h
  obtain ⟨b, eb, h⟩ := zb h
  refine zlp_ok (P := fun a : Nat × Int32 × Int32 × Zc => Zz p l e (zRm 0 0 0 0) s m args below meth cd _ D cid B 3 0 0 a.2.2.2 3 [(0, .ref a.1), (1, .int a.2.1), (2, .int a.2.2.1)] []) (G := fun b : Zc => Zz p l e (zRm 0 0 0 0) s m args below meth cd _ D cid B 3 0 0 b 46 [] []) (fun a r ha k0 k1 => u_PQ_append_3 X H ha k0 k1) nf _ b eb ?_
  exact t_PQ_append_46 X H h
set_option maxRecDepth 100000 in
set_option maxHeartbeats 4000000 in
theorem c_PQ_append (l : Launch) {nf : Nat} {a0 : Nat} {a1 : Int32} {c : Zc} {res : Zc} (h : f_PQ_append nf a0 a1 c = some res) : zM l yy_PQ_append ww_PQ_append 0 0 0 0 [.ref a0, .int a1] c (fun D cid B => zQv D cid B res c.length 0) := by
  refine z_met (cc := bb_PQ_append) (maxL := 3) (ret := none) (by decide +kernel) rfl (Nat.le_of_ble_eq_true rfl) ?_
  intro p e s m args below meth cd D cid B X h1 h2 h3 h4
  have X : zX p s m args cd D cid B bb_PQ_append 3 rr_PQ zT := X
  have H : zH s meth B c.length none "append" := ⟨h1, h2, h4, h3⟩
  unfold f_PQ_append at h
  show Zz p l e (zRm 0 0 0 0) s m args below meth cd _ D cid B 3 0 0 c 0 [(0, .ref a0), (1, .int a1)] []
  refine z_bipush (v := 24) X dd_PQ_append_0 (by decide) ?_
  refine z_istore_n (lv' := [(2, .int 24), (0, .ref a0), (1, .int a1)]) X dd_PQ_append_2 rfl (by decide) rfl ?_
  refine z_sub [1, 2, 0] rfl ?_
  exact t_PQ_append_3 X H h
end ZzM
