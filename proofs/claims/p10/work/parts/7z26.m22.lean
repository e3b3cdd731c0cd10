section ZzM
variable {p : Program} {l : Launch} {e : Env} {s : State} {m : MethodId} {args : Array Value} {below : List Frame} {meth : Method} {cd : Code} {Q : State → Prop} {D : va_G} {cid : Nat → ClassId} {B n0 : Nat}
theorem dd_Mo_isWithout_0 : decode bb_Mo_isWithout 0 = .ok (.iconst 0, 1) := by decide +kernel
theorem dd_Mo_isWithout_1 : decode bb_Mo_isWithout 1 = .ok (.istore_n 2, 1) := by decide +kernel
theorem dd_Mo_isWithout_2 : decode bb_Mo_isWithout 2 = .ok (.iload_n 2, 1) := by decide +kernel
theorem dd_Mo_isWithout_3 : decode bb_Mo_isWithout 3 = .ok (.aload_n 0, 1) := by decide +kernel
theorem dd_Mo_isWithout_4 : decode bb_Mo_isWithout 4 = .ok (.getfield 65, 3) := by decide +kernel
theorem dd_Mo_isWithout_7 : decode bb_Mo_isWithout 7 = .ok (.aload_n 0, 1) := by decide +kernel
theorem dd_Mo_isWithout_8 : decode bb_Mo_isWithout 8 = .ok (.getfield 331, 3) := by decide +kernel
theorem dd_Mo_isWithout_11 : decode bb_Mo_isWithout 11 = .ok (.iaload, 1) := by decide +kernel
theorem dd_Mo_isWithout_12 : decode bb_Mo_isWithout 12 = .ok (.if_icmp .ge 34, 3) := by decide +kernel
theorem dd_Mo_isWithout_15 : decode bb_Mo_isWithout 15 = .ok (.aload_n 0, 1) := by decide +kernel
theorem dd_Mo_isWithout_16 : decode bb_Mo_isWithout 16 = .ok (.getfield 74, 3) := by decide +kernel
theorem dd_Mo_isWithout_19 : decode bb_Mo_isWithout 19 = .ok (.bipush 8, 2) := by decide +kernel
theorem dd_Mo_isWithout_21 : decode bb_Mo_isWithout 21 = .ok (.aload_n 0, 1) := by decide +kernel
theorem dd_Mo_isWithout_22 : decode bb_Mo_isWithout 22 = .ok (.getfield 331, 3) := by decide +kernel
theorem dd_Mo_isWithout_25 : decode bb_Mo_isWithout 25 = .ok (.imul, 1) := by decide +kernel
theorem dd_Mo_isWithout_26 : decode bb_Mo_isWithout 26 = .ok (.iload_n 2, 1) := by decide +kernel
theorem dd_Mo_isWithout_27 : decode bb_Mo_isWithout 27 = .ok (.iadd, 1) := by decide +kernel
theorem dd_Mo_isWithout_28 : decode bb_Mo_isWithout 28 = .ok (.iaload, 1) := by decide +kernel
theorem dd_Mo_isWithout_29 : decode bb_Mo_isWithout 29 = .ok (.iload_n 1, 1) := by decide +kernel
theorem dd_Mo_isWithout_30 : decode bb_Mo_isWithout 30 = .ok (.if_icmp .ne 10, 3) := by decide +kernel
theorem dd_Mo_isWithout_33 : decode bb_Mo_isWithout 33 = .ok (.aload_n 0, 1) := by decide +kernel
theorem dd_Mo_isWithout_34 : decode bb_Mo_isWithout 34 = .ok (.getfield 191, 3) := by decide +kernel
theorem dd_Mo_isWithout_37 : decode bb_Mo_isWithout 37 = .ok (.iload_n 2, 1) := by decide +kernel
theorem dd_Mo_isWithout_38 : decode bb_Mo_isWithout 38 = .ok (.iconst 0, 1) := by decide +kernel
theorem dd_Mo_isWithout_39 : decode bb_Mo_isWithout 39 = .ok (.iastore, 1) := by decide +kernel
theorem dd_Mo_isWithout_40 : decode bb_Mo_isWithout 40 = .ok (.iinc 2 1, 3) := by decide +kernel
theorem dd_Mo_isWithout_43 : decode bb_Mo_isWithout 43 = .ok (.goto (-41), 3) := by decide +kernel
theorem dd_Mo_isWithout_46 : decode bb_Mo_isWithout 46 = .ok (.iconst 1, 1) := by decide +kernel
theorem dd_Mo_isWithout_47 : decode bb_Mo_isWithout 47 = .ok (.istore_n 2, 1) := by decide +kernel
theorem dd_Mo_isWithout_48 : decode bb_Mo_isWithout 48 = .ok (.iconst 0, 1) := by decide +kernel
theorem dd_Mo_isWithout_49 : decode bb_Mo_isWithout 49 = .ok (.istore_n 3, 1) := by decide +kernel
theorem dd_Mo_isWithout_50 : decode bb_Mo_isWithout 50 = .ok (.iload_n 2, 1) := by decide +kernel
theorem dd_Mo_isWithout_51 : decode bb_Mo_isWithout 51 = .ok (.ifCond .eq 20, 3) := by decide +kernel
theorem dd_Mo_isWithout_54 : decode bb_Mo_isWithout 54 = .ok (.iload_n 3, 1) := by decide +kernel
theorem dd_Mo_isWithout_55 : decode bb_Mo_isWithout 55 = .ok (.aload_n 0, 1) := by decide +kernel
theorem dd_Mo_isWithout_56 : decode bb_Mo_isWithout 56 = .ok (.iload_n 1, 1) := by decide +kernel
theorem dd_Mo_isWithout_57 : decode bb_Mo_isWithout 57 = .ok (.invokevirtual 463, 3) := by decide +kernel
theorem dd_Mo_isWithout_60 : decode bb_Mo_isWithout 60 = .ok (.ior, 1) := by decide +kernel
theorem dd_Mo_isWithout_61 : decode bb_Mo_isWithout 61 = .ok (.istore_n 3, 1) := by decide +kernel
theorem dd_Mo_isWithout_62 : decode bb_Mo_isWithout 62 = .ok (.aload_n 0, 1) := by decide +kernel
theorem dd_Mo_isWithout_63 : decode bb_Mo_isWithout 63 = .ok (.iload_n 1, 1) := by decide +kernel
theorem dd_Mo_isWithout_64 : decode bb_Mo_isWithout 64 = .ok (.invokevirtual 466, 3) := by decide +kernel
theorem dd_Mo_isWithout_67 : decode bb_Mo_isWithout 67 = .ok (.istore_n 2, 1) := by decide +kernel
theorem dd_Mo_isWithout_68 : decode bb_Mo_isWithout 68 = .ok (.goto (-18), 3) := by decide +kernel
theorem dd_Mo_isWithout_71 : decode bb_Mo_isWithout 71 = .ok (.iload_n 3, 1) := by decide +kernel
theorem dd_Mo_isWithout_72 : decode bb_Mo_isWithout 72 = .ok (.ifCond .ne 7, 3) := by decide +kernel
theorem dd_Mo_isWithout_75 : decode bb_Mo_isWithout 75 = .ok (.iconst 1, 1) := by decide +kernel
theorem dd_Mo_isWithout_76 : decode bb_Mo_isWithout 76 = .ok (.goto 4, 3) := by decide +kernel
theorem dd_Mo_isWithout_79 : decode bb_Mo_isWithout 79 = .ok (.iconst 0, 1) := by decide +kernel
theorem dd_Mo_isWithout_80 : decode bb_Mo_isWithout 80 = .ok (.ireturn, 1) := by decide +kernel
set_option maxRecDepth 100000 in
set_option maxHeartbeats 4000000 in
theorem t_Mo_isWithout_40  (X : zX p s m args cd D cid B bb_Mo_isWithout 4 rr_Mo zT) (H : zH s meth B n0 (some (.boolean)) "isWithout") {nf : Nat} {x0 : Nat} {x1 : Int32} {x2 : Int32} {c : Zc} {r : (Nat × Int32 × Int32 × Zc) ⊕ (Nat × Int32 × Zc)} (h : f_Mo_isWithout_40 nf x0 x1 x2 c = some r) (k0 : ∀ a, r = .inl a → (fun a : Nat × Int32 × Int32 × Zc => Zz p l e (zRm 2 45 0 0) s m args below meth cd Q D cid B 4 0 0 a.2.2.2 2 [(0, .ref a.1), (1, .int a.2.1), (2, .int a.2.2.1)] []) a) (k1 : ∀ b, r = .inr b → (fun b : Nat × Int32 × Zc => Zz p l e (zRm 2 45 0 0) s m args below meth cd Q D cid B 4 0 0 b.2.2 46 [(0, .ref b.1), (1, .int b.2.1)] []) b) : Zz p l e (zRm 2 45 0 0) s m args below meth cd Q D cid B 4 0 0 c 40 [(0, .ref x0), (1, .int x1), (2, .int x2)] [] := by
  unfold f_Mo_isWithout_40 at h
  refine z_iinc (v := (x2 + 1)) (lv' := [(2, .int (x2 + 1)), (0, .ref x0), (1, .int x1)]) X dd_Mo_isWithout_40 2 rfl rfl (by decide) rfl ?_
  refine z_goto (tgt := 2) X dd_Mo_isWithout_43 (by decide) ?_
  refine z_sub [1, 2, 0] rfl ?_
  obtain rfl := Option.some.inj h
  exact k0 _ rfl
set_option maxRecDepth 100000 in
set_option maxHeartbeats 4000000 in
theorem u_Mo_isWithout_2  (X : zX p s m args cd D cid B bb_Mo_isWithout 4 rr_Mo zT) (H : zH s meth B n0 (some (.boolean)) "isWithout") {nf : Nat} {x0 : Nat} {x1 : Int32} {x2 : Int32} {c : Zc} {r : (Nat × Int32 × Int32 × Zc) ⊕ (Nat × Int32 × Zc)} (h : g_Mo_isWithout_2 nf x0 x1 x2 c = some r) (k0 : ∀ a, r = .inl a → (fun a : Nat × Int32 × Int32 × Zc => Zz p l e (zRm 2 45 0 0) s m args below meth cd Q D cid B 4 0 0 a.2.2.2 2 [(0, .ref a.1), (1, .int a.2.1), (2, .int a.2.2.1)] []) a) (k1 : ∀ b, r = .inr b → (fun b : Nat × Int32 × Zc => Zz p l e (zRm 2 45 0 0) s m args below meth cd Q D cid B 4 0 0 b.2.2 46 [(0, .ref b.1), (1, .int b.2.1)] []) b) : Zz p l e (zRm 2 45 0 0) s m args below meth cd Q D cid B 4 0 0 c 2 [(0, .ref x0), (1, .int x1), (2, .int x2)] [] := by
  unfold g_Mo_isWithout_2 at h
  refine z_iload_n X dd_Mo_isWithout_2 rfl 2 rfl ?_
  refine z_aload_n X dd_Mo_isWithout_3 rfl 0 rfl ?_
  obtain ⟨v1, ev1, h⟩ := zb h
  refine z_get (j := 26) X dd_Mo_isWithout_4 kc_12 ki_12 (by decide) km_1547 (zgr_v ev1) ?_
  refine z_aload_n X dd_Mo_isWithout_7 rfl 0 rfl ?_
  obtain ⟨v2, ev2, h⟩ := zb h
  refine z_get (j := 25) X dd_Mo_isWithout_8 kc_12 ki_12 (by decide) km_1546 (zgi_v ev2) ?_
  obtain ⟨v3, ev3, h⟩ := zb h
  refine z_iaload X dd_Mo_isWithout_11 rfl ev3 ?_
  refine z_icmp_ge (tgt := 46) X dd_Mo_isWithout_12 (by decide) (fun q4 => ?_) (fun q4 => ?_)
  · rw [if_pos q4] at h
    refine z_sub [0, 1] rfl ?_
    obtain rfl := Option.some.inj h
    exact k1 _ rfl
  · rw [if_neg q4] at h
    refine z_aload_n X dd_Mo_isWithout_15 rfl 0 rfl ?_
    obtain ⟨v5, ev5, h⟩ := zb h
    refine z_get (j := 29) X dd_Mo_isWithout_16 kc_12 ki_12 (by decide) km_1550 (zgr_v ev5) ?_
    refine z_bipush (v := 8) X dd_Mo_isWithout_19 (by decide) ?_
    refine z_aload_n X dd_Mo_isWithout_21 rfl 0 rfl ?_
    obtain ⟨v6, ev6, h⟩ := zb h
    refine z_get (j := 25) X dd_Mo_isWithout_22 kc_12 ki_12 (by decide) km_1546 (zgi_v ev6) ?_
    refine z_imul X dd_Mo_isWithout_25 ?_
    refine z_iload_n X dd_Mo_isWithout_26 rfl 2 rfl ?_
    refine z_iadd X dd_Mo_isWithout_27 ?_
    obtain ⟨v7, ev7, h⟩ := zb h
    refine z_iaload X dd_Mo_isWithout_28 rfl ev7 ?_
    refine z_iload_n X dd_Mo_isWithout_29 rfl 1 rfl ?_
    refine z_icmp_ne (tgt := 40) X dd_Mo_isWithout_30 (by decide) (fun q8 => ?_) (fun q8 => ?_)
    · rw [if_neg q8] at h
      exact t_Mo_isWithout_40 X H h k0 k1
    · rw [if_pos q8] at h
      refine z_aload_n X dd_Mo_isWithout_33 rfl 0 rfl ?_
      obtain ⟨v9, ev9, h⟩ := zb h
      refine z_get (j := 74) X dd_Mo_isWithout_34 kc_12 ki_12 (by decide) km_1595 (zgr_v ev9) ?_
      refine z_iload_n X dd_Mo_isWithout_37 rfl 2 rfl ?_
      refine z_iconst (v := 0) X dd_Mo_isWithout_38 (by decide) ?_
      obtain ⟨c10, ec10, h⟩ := zb h
      refine z_iastore X dd_Mo_isWithout_39 rfl ec10 ?_
      exact t_Mo_isWithout_40 X H h k0 k1
set_option maxRecDepth 100000 in
set_option maxHeartbeats 4000000 in
theorem u_Mo_isWithout_50  (X : zX p s m args cd D cid B bb_Mo_isWithout 4 rr_Mo zT) (H : zH s meth B n0 (some (.boolean)) "isWithout") {nf : Nat} {x0 : Nat} {x1 : Int32} {x2 : Int32} {x3 : Int32} {c : Zc} {r : (Nat × Int32 × Int32 × Int32 × Zc) ⊕ (Int32 × Zc)} (h : g_Mo_isWithout_50 nf x0 x1 x2 x3 c = some r) (k0 : ∀ a, r = .inl a → (fun a : Nat × Int32 × Int32 × Int32 × Zc => Zz p l e (zRm 2 45 0 0) s m args below meth cd Q D cid B 4 0 0 a.2.2.2.2 50 [(0, .ref a.1), (1, .int a.2.1), (2, .int a.2.2.1), (3, .int a.2.2.2.1)] []) a) (k1 : ∀ b, r = .inr b → (fun b : Int32 × Zc => Zz p l e (zRm 2 45 0 0) s m args below meth cd Q D cid B 4 0 0 b.2 71 [(3, .int b.1)] []) b) : Zz p l e (zRm 2 45 0 0) s m args below meth cd Q D cid B 4 0 0 c 50 [(0, .ref x0), (1, .int x1), (2, .int x2), (3, .int x3)] [] := by
  unfold g_Mo_isWithout_50 at h
  refine z_iload_n X dd_Mo_isWithout_50 rfl 2 rfl ?_
  refine z_if_eq (tgt := 71) X dd_Mo_isWithout_51 (by decide) (fun q11 => ?_) (fun q11 => ?_)
  · rw [if_pos q11] at h
    refine z_sub [3] rfl ?_
    obtain rfl := Option.some.inj h
    exact k1 _ rfl
  · rw [if_neg q11] at h
    refine z_iload_n X dd_Mo_isWithout_54 rfl 3 rfl ?_
    refine z_aload_n X dd_Mo_isWithout_55 rfl 0 rfl ?_
    refine z_iload_n X dd_Mo_isWithout_56 rfl 1 rfl ?_
    obtain ⟨w13, ew13, h⟩ := zb h
    obtain ⟨q12, eq12, h⟩ := zb h
    refine z_callVi X [.int x1] rfl dd_Mo_isWithout_57 (c_Mo_fits l eq12) (cwV 1 X.1.2.2.2.2 (zg_V km_2105 km_2107 km_113 km_138 km_2108) rfl rfl rfl (by decide +kernel) ⟨Nat.le_of_ble_eq_true rfl, Nat.le_of_ble_eq_true rfl⟩) (zob_s ew13) kc_12 rfl (Nat.le_of_ble_eq_true rfl) ⟨Nat.le_of_ble_eq_true rfl, Nat.le_of_ble_eq_true rfl⟩ ?_
    refine z_ior X dd_Mo_isWithout_60 ?_
    refine z_istore_n (lv' := [(3, .int (x3 ||| q12.1)), (0, .ref x0), (1, .int x1), (2, .int x2)]) X dd_Mo_isWithout_61 rfl (by decide) rfl ?_
    refine z_aload_n X dd_Mo_isWithout_62 rfl 1 rfl ?_
    refine z_iload_n X dd_Mo_isWithout_63 rfl 2 rfl ?_
    obtain ⟨w15, ew15, h⟩ := zb h
    obtain ⟨q14, eq14, h⟩ := zb h
    refine z_callVi X [.int x1] rfl dd_Mo_isWithout_64 (c_Mo_goesOn l eq14) (cwV 1 X.1.2.2.2.2 (zg_V km_2121 km_2123 km_117 km_138 km_2124) rfl rfl rfl (by decide +kernel) ⟨Nat.le_of_ble_eq_true rfl, Nat.le_of_ble_eq_true rfl⟩) (zob_s ew15) kc_12 rfl (Nat.le_of_ble_eq_true rfl) ⟨Nat.le_of_ble_eq_true rfl, Nat.le_of_ble_eq_true rfl⟩ ?_
    refine z_istore_n (lv' := [(2, .int q14.1), (3, .int (x3 ||| q12.1)), (0, .ref x0), (1, .int x1)]) X dd_Mo_isWithout_67 rfl (by decide) rfl ?_
    refine z_goto (tgt := 50) X dd_Mo_isWithout_68 (by decide) ?_
    refine z_sub [2, 3, 0, 1] rfl ?_
    obtain rfl := Option.some.inj h
    exact k0 _ rfl
set_option maxRecDepth 100000 in
set_option maxHeartbeats 4000000 in
theorem t_Mo_isWithout_80  (X : zX p s m args cd D cid B bb_Mo_isWithout 4 rr_Mo zT) (H : zH s meth B n0 (some (.boolean)) "isWithout") {nf : Nat} {s0 : Int32} {c : Zc} {res : Int32 × Zc} (h : f_Mo_isWithout_80 nf s0 c = some res) : Zz p l e (zRm 2 45 0 0) s m args below meth cd (MQ below (zQi D cid B res.1 res.2 n0 0) args s 0 0 (fun q => B ≤ q)) D cid B 4 0 0 c 80 [] [.int s0] := by
  unfold f_Mo_isWithout_80 at h
  obtain ⟨hz, h⟩ := zrz_s h
  obtain rfl := h
  exact z_zret X H.1 (zn_z hz) H.2.1 H.2.2.1 dd_Mo_isWithout_80
set_option maxRecDepth 100000 in
set_option maxHeartbeats 4000000 in
theorem t_Mo_isWithout_50  (X : zX p s m args cd D cid B bb_Mo_isWithout 4 rr_Mo zT) (H : zH s meth B n0 (some (.boolean)) "isWithout") {nf : Nat} {x0 : Nat} {x1 : Int32} {x2 : Int32} {x3 : Int32} {c : Zc} {res : Int32 × Zc} (h : f_Mo_isWithout_50 nf x0 x1 x2 x3 c = some res) : Zz p l e (zRm 2 45 0 0) s m args below meth cd (MQ below (zQi D cid B res.1 res.2 n0 0) args s 0 0 (fun q => B ≤ q)) D cid B 4 0 0 c 50 [(0, .ref x0), (1, .int x1), (2, .int x2), (3, .int x3)] [] := by
  unfold f_Mo_isWithout_50 at h
  obtain ⟨b, eb, h⟩ := zb h
  refine zlp_ok (P := fun a : Nat × Int32 × Int32 × Int32 × Zc => Zz p l e (zRm 2 45 0 0) s m args below meth cd _ D cid B 4 0 0 a.2.2.2.2 50 [(0, .ref a.1), (1, .int a.2.1), (2, .int a.2.2.1), (3, .int a.2.2.2.1)] []) (G := fun b : Int32 × Zc => Zz p l e (zRm 2 45 0 0) s m args below meth cd _ D cid B 4 0 0 b.2 71 [(3, .int b.1)] []) (fun a r ha k0 k1 => u_Mo_isWithout_50 X H ha k0 k1) nf _ b eb ?_
  refine z_iload_n X dd_Mo_isWithout_71 rfl 0 rfl ?_
  refine z_if_ne (tgt := 79) X dd_Mo_isWithout_72 (by decide) (fun q16 => ?_) (fun q16 => ?_)
  · rw [if_neg q16] at h
    refine z_iconst (v := 0) X dd_Mo_isWithout_79 (by decide) ?_
    refine z_sub [] rfl ?_
    exact t_Mo_isWithout_80 X H h
  · rw [if_pos q16] at h
    refine z_iconst (v := 1) X dd_Mo_isWithout_75 (by decide) ?_
    refine z_goto (tgt := 80) X dd_Mo_isWithout_76 (by decide) ?_
    refine z_sub [] rfl ?_
    exact t_Mo_isWithout_80 X H h
set_option maxRecDepth 100000 in
set_option maxHeartbeats 4000000 in
theorem t_Mo_isWithout_2  (X : zX p s m args cd D cid B bb_Mo_isWithout 4 rr_Mo zT) (H : zH s meth B n0 (some (.boolean)) "isWithout") {nf : Nat} {x0 : Nat} {x1 : Int32} {x2 : Int32} {c : Zc} {res : Int32 × Zc} (h : f_Mo_isWithout_2 nf x0 x1 x2 c = some res) : Zz p l e (zRm 2 45 0 0) s m args below meth cd (MQ below (zQi D cid B res.1 res.2 n0 0) args s 0 0 (fun q => B ≤ q)) D cid B 4 0 0 c 2 [(0, .ref x0), (1, .int x1), (2, .int x2)] [] := by
  unfold f_Mo_isWithout_2 at h
  obtain ⟨b, eb, h⟩ := zb h
  refine zlp_ok (P := fun a : Nat × Int32 × Int32 × Zc => Zz p l e (zRm 2 45 0 0) s m args below meth cd _ D cid B 4 0 0 a.2.2.2 2 [(0, .ref a.1), (1, .int a.2.1), (2, .int a.2.2.1)] []) (G := fun b : Nat × Int32 × Zc => Zz p l e (zRm 2 45 0 0) s m args below meth cd _ D cid B 4 0 0 b.2.2 46 [(0, .ref b.1), (1, .int b.2.1)] []) (fun a r ha k0 k1 => u_Mo_isWithout_2 X H ha k0 k1) nf _ b eb ?_
  refine z_iconst (v := 1) X dd_Mo_isWithout_46 (by decide) ?_
  refine z_istore_n (lv' := [(2, .int 1), (0, .ref b.1), (1, .int b.2.1)]) X dd_Mo_isWithout_47 rfl (by decide) rfl ?_
  refine z_iconst (v := 0) X dd_Mo_isWithout_48 (by decide) ?_
  refine z_istore_n (lv' := [(3, .int 0), (2, .int 1), (0, .ref b.1), (1, .int b.2.1)]) X dd_Mo_isWithout_49 rfl (by decide) rfl ?_
  refine z_sub [2, 3, 1, 0] rfl ?_
  exact t_Mo_isWithout_50 X H h
set_option maxRecDepth 100000 in
set_option maxHeartbeats 4000000 in
theorem c_Mo_isWithout (l : Launch) {nf : Nat} {a0 : Nat} {a1 : Int32} {c : Zc} {res : Int32 × Zc} (h : f_Mo_isWithout nf a0 a1 c = some res) : zM l yy_Mo_isWithout ww_Mo_isWithout 2 45 0 0 [.ref a0, .int a1] c (fun D cid B => zQi D cid B res.1 res.2 c.length 0) := by
  refine z_met (cc := bb_Mo_isWithout) (maxL := 4) (ret := (some (.boolean))) (by decide +kernel) rfl (Nat.le_of_ble_eq_true rfl) ?_
  intro p e s m args below meth cd D cid B X h1 h2 h3 h4
  have X : zX p s m args cd D cid B bb_Mo_isWithout 4 rr_Mo zT := X
  have H : zH s meth B c.length (some (.boolean)) "isWithout" := ⟨h1, h2, h4, h3⟩
  unfold f_Mo_isWithout at h
  show Zz p l e (zRm 2 45 0 0) s m args below meth cd _ D cid B 4 0 0 c 0 [(0, .ref a0), (1, .int a1)] []
  refine z_iconst (v := 0) X dd_Mo_isWithout_0 (by decide) ?_
  refine z_istore_n (lv' := [(2, .int 0), (0, .ref a0), (1, .int a1)]) X dd_Mo_isWithout_1 rfl (by decide) rfl ?_
  refine z_sub [1, 2, 0] rfl ?_
  exact t_Mo_isWithout_2 X H h
theorem dd_Mo_bounded_0 : decode bb_Mo_bounded 0 = .ok (.lload_n 0, 1) := by decide +kernel
theorem dd_Mo_bounded_1 : decode bb_Mo_bounded 1 = .ok (.ldc2_w 469, 3) := by decide +kernel
theorem dd_Mo_bounded_4 : decode bb_Mo_bounded 4 = .ok (.lcmp, 1) := by decide +kernel
theorem dd_Mo_bounded_5 : decode bb_Mo_bounded 5 = .ok (.ifCond .le 9, 3) := by decide +kernel
theorem dd_Mo_bounded_8 : decode bb_Mo_bounded 8 = .ok (.ldc_w 471, 3) := by decide +kernel
theorem dd_Mo_bounded_11 : decode bb_Mo_bounded 11 = .ok (.goto 19, 3) := by decide +kernel
theorem dd_Mo_bounded_14 : decode bb_Mo_bounded 14 = .ok (.lload_n 0, 1) := by decide +kernel
theorem dd_Mo_bounded_15 : decode bb_Mo_bounded 15 = .ok (.ldc2_w 472, 3) := by decide +kernel
theorem dd_Mo_bounded_18 : decode bb_Mo_bounded 18 = .ok (.lcmp, 1) := by decide +kernel
theorem dd_Mo_bounded_19 : decode bb_Mo_bounded 19 = .ok (.ifCond .ge 9, 3) := by decide +kernel
theorem dd_Mo_bounded_22 : decode bb_Mo_bounded 22 = .ok (.ldc_w 474, 3) := by decide +kernel
theorem dd_Mo_bounded_25 : decode bb_Mo_bounded 25 = .ok (.goto 5, 3) := by decide +kernel
theorem dd_Mo_bounded_28 : decode bb_Mo_bounded 28 = .ok (.lload_n 0, 1) := by decide +kernel
theorem dd_Mo_bounded_29 : decode bb_Mo_bounded 29 = .ok (.l2i, 1) := by decide +kernel
theorem dd_Mo_bounded_30 : decode bb_Mo_bounded 30 = .ok (.ireturn, 1) := by decide +kernel
set_option maxRecDepth 100000 in
set_option maxHeartbeats 4000000 in
theorem t_Mo_bounded_30  (X : zX p s m args cd D cid B bb_Mo_bounded 2 rr_Mo zT) (H : zH s meth B n0 (some (.int)) "bounded") {nf : Nat} {s0 : Int32} {c : Zc} {res : Int32 × Zc} (h : f_Mo_bounded_30 nf s0 c = some res) : Zz p l e (zRm 0 0 0 0) s m args below meth cd (MQ below (zQi D cid B res.1 res.2 n0 0) args s 0 0 (fun q => B ≤ q)) D cid B 2 0 0 c 30 [] [.int s0] := by
  unfold f_Mo_bounded_30 at h
  obtain rfl := Option.some.inj h
  exact z_iret X H.1 H.2.1 H.2.2.1 dd_Mo_bounded_30
set_option maxRecDepth 100000 in
set_option maxHeartbeats 4000000 in
theorem c_Mo_bounded (l : Launch) {nf : Nat} {a0 : Int64} {c : Zc} {res : Int32 × Zc} (h : f_Mo_bounded nf a0 c = some res) : zM l yy_Mo_bounded ww_Mo_bounded 0 0 0 0 [.long a0] c (fun D cid B => zQi D cid B res.1 res.2 c.length 0) := by
  refine z_met (cc := bb_Mo_bounded) (maxL := 2) (ret := (some (.int))) (by decide +kernel) rfl (Nat.le_of_ble_eq_true rfl) ?_
  intro p e s m args below meth cd D cid B X h1 h2 h3 h4
  have X : zX p s m args cd D cid B bb_Mo_bounded 2 rr_Mo zT := X
  have H : zH s meth B c.length (some (.int)) "bounded" := ⟨h1, h2, h4, h3⟩
  unfold f_Mo_bounded at h
  show Zz p l e (zRm 0 0 0 0) s m args below meth cd _ D cid B 2 0 0 c 0 [(0, .long a0)] []
  refine z_lload_n X dd_Mo_bounded_0 rfl 0 rfl ?_
  refine z_ldc2 (v := 1000000000) X dd_Mo_bounded_1 km_2131 ?_
  refine z_lcmp X dd_Mo_bounded_4 ?_
  refine z_if_le (tgt := 14) X dd_Mo_bounded_5 (by decide) (fun q1 => ?_) (fun q1 => ?_)
  · rw [if_pos q1] at h
    refine z_lload_n X dd_Mo_bounded_14 rfl 0 rfl ?_
    refine z_ldc2 (v := (-1000000000)) X dd_Mo_bounded_15 km_2133 ?_
    refine z_lcmp X dd_Mo_bounded_18 ?_
    refine z_if_ge (tgt := 28) X dd_Mo_bounded_19 (by decide) (fun q2 => ?_) (fun q2 => ?_)
    · rw [if_pos q2] at h
      refine z_lload_n X dd_Mo_bounded_28 rfl 0 rfl ?_
      refine z_l2i X dd_Mo_bounded_29 ?_
      refine z_sub [] rfl ?_
      exact t_Mo_bounded_30 X H h
    · rw [if_neg q2] at h
      refine z_ldcw (v := (-1000000000)) X dd_Mo_bounded_22 km_2134 ?_
      refine z_goto (tgt := 30) X dd_Mo_bounded_25 (by decide) ?_
      refine z_sub [] rfl ?_
      exact t_Mo_bounded_30 X H h
  · rw [if_neg q1] at h
    refine z_ldcw (v := 1000000000) X dd_Mo_bounded_8 km_2132 ?_
    refine z_goto (tgt := 30) X dd_Mo_bounded_11 (by decide) ?_
    refine z_sub [] rfl ?_
    exact t_Mo_bounded_30 X H h
theorem dd_Mo_both_0 : decode bb_Mo_both 0 = .ok (.iload_n 0, 1) := by decide +kernel
theorem dd_Mo_both_1 : decode bb_Mo_both 1 = .ok (.tableswitch 164 4 16 #[67, 76, 85, 164, 164, 164, 94, 105, 116, 127, 138, 149, 160], 67) := by decide +kernel
theorem dd_Mo_both_68 : decode bb_Mo_both 68 = .ok (.iload_n 1, 1) := by decide +kernel
theorem dd_Mo_both_69 : decode bb_Mo_both 69 = .ok (.i2l, 1) := by decide +kernel
theorem dd_Mo_both_70 : decode bb_Mo_both 70 = .ok (.iload_n 2, 1) := by decide +kernel
theorem dd_Mo_both_71 : decode bb_Mo_both 71 = .ok (.i2l, 1) := by decide +kernel
theorem dd_Mo_both_72 : decode bb_Mo_both 72 = .ok (.ladd, 1) := by decide +kernel
theorem dd_Mo_both_73 : decode bb_Mo_both 73 = .ok (.invokestatic 482, 3) := by decide +kernel
theorem dd_Mo_both_76 : decode bb_Mo_both 76 = .ok (.ireturn, 1) := by decide +kernel
theorem dd_Mo_both_77 : decode bb_Mo_both 77 = .ok (.iload_n 1, 1) := by decide +kernel
theorem dd_Mo_both_78 : decode bb_Mo_both 78 = .ok (.i2l, 1) := by decide +kernel
theorem dd_Mo_both_79 : decode bb_Mo_both 79 = .ok (.iload_n 2, 1) := by decide +kernel
theorem dd_Mo_both_80 : decode bb_Mo_both 80 = .ok (.i2l, 1) := by decide +kernel
theorem dd_Mo_both_81 : decode bb_Mo_both 81 = .ok (.lsub, 1) := by decide +kernel
theorem dd_Mo_both_82 : decode bb_Mo_both 82 = .ok (.invokestatic 482, 3) := by decide +kernel
theorem dd_Mo_both_85 : decode bb_Mo_both 85 = .ok (.ireturn, 1) := by decide +kernel
theorem dd_Mo_both_86 : decode bb_Mo_both 86 = .ok (.iload_n 1, 1) := by decide +kernel
theorem dd_Mo_both_87 : decode bb_Mo_both 87 = .ok (.i2l, 1) := by decide +kernel
theorem dd_Mo_both_88 : decode bb_Mo_both 88 = .ok (.iload_n 2, 1) := by decide +kernel
theorem dd_Mo_both_89 : decode bb_Mo_both 89 = .ok (.i2l, 1) := by decide +kernel
theorem dd_Mo_both_90 : decode bb_Mo_both 90 = .ok (.lmul, 1) := by decide +kernel
theorem dd_Mo_both_91 : decode bb_Mo_both 91 = .ok (.invokestatic 482, 3) := by decide +kernel
theorem dd_Mo_both_94 : decode bb_Mo_both 94 = .ok (.ireturn, 1) := by decide +kernel
theorem dd_Mo_both_95 : decode bb_Mo_both 95 = .ok (.iload_n 1, 1) := by decide +kernel
theorem dd_Mo_both_96 : decode bb_Mo_both 96 = .ok (.iload_n 2, 1) := by decide +kernel
theorem dd_Mo_both_97 : decode bb_Mo_both 97 = .ok (.if_icmp .ne 7, 3) := by decide +kernel
theorem dd_Mo_both_100 : decode bb_Mo_both 100 = .ok (.iconst 1, 1) := by decide +kernel
theorem dd_Mo_both_101 : decode bb_Mo_both 101 = .ok (.goto 4, 3) := by decide +kernel
theorem dd_Mo_both_104 : decode bb_Mo_both 104 = .ok (.iconst 0, 1) := by decide +kernel
theorem dd_Mo_both_105 : decode bb_Mo_both 105 = .ok (.ireturn, 1) := by decide +kernel
theorem dd_Mo_both_106 : decode bb_Mo_both 106 = .ok (.iload_n 1, 1) := by decide +kernel
theorem dd_Mo_both_107 : decode bb_Mo_both 107 = .ok (.iload_n 2, 1) := by decide +kernel
theorem dd_Mo_both_108 : decode bb_Mo_both 108 = .ok (.if_icmp .eq 7, 3) := by decide +kernel
theorem dd_Mo_both_111 : decode bb_Mo_both 111 = .ok (.iconst 1, 1) := by decide +kernel
theorem dd_Mo_both_112 : decode bb_Mo_both 112 = .ok (.goto 4, 3) := by decide +kernel
theorem dd_Mo_both_115 : decode bb_Mo_both 115 = .ok (.iconst 0, 1) := by decide +kernel
theorem dd_Mo_both_116 : decode bb_Mo_both 116 = .ok (.ireturn, 1) := by decide +kernel
theorem dd_Mo_both_117 : decode bb_Mo_both 117 = .ok (.iload_n 1, 1) := by decide +kernel
theorem dd_Mo_both_118 : decode bb_Mo_both 118 = .ok (.iload_n 2, 1) := by decide +kernel
theorem dd_Mo_both_119 : decode bb_Mo_both 119 = .ok (.if_icmp .ge 7, 3) := by decide +kernel
theorem dd_Mo_both_122 : decode bb_Mo_both 122 = .ok (.iconst 1, 1) := by decide +kernel
theorem dd_Mo_both_123 : decode bb_Mo_both 123 = .ok (.goto 4, 3) := by decide +kernel
theorem dd_Mo_both_126 : decode bb_Mo_both 126 = .ok (.iconst 0, 1) := by decide +kernel
theorem dd_Mo_both_127 : decode bb_Mo_both 127 = .ok (.ireturn, 1) := by decide +kernel
theorem dd_Mo_both_128 : decode bb_Mo_both 128 = .ok (.iload_n 1, 1) := by decide +kernel
theorem dd_Mo_both_129 : decode bb_Mo_both 129 = .ok (.iload_n 2, 1) := by decide +kernel
theorem dd_Mo_both_130 : decode bb_Mo_both 130 = .ok (.if_icmp .gt 7, 3) := by decide +kernel
theorem dd_Mo_both_133 : decode bb_Mo_both 133 = .ok (.iconst 1, 1) := by decide +kernel
theorem dd_Mo_both_134 : decode bb_Mo_both 134 = .ok (.goto 4, 3) := by decide +kernel
theorem dd_Mo_both_137 : decode bb_Mo_both 137 = .ok (.iconst 0, 1) := by decide +kernel
theorem dd_Mo_both_138 : decode bb_Mo_both 138 = .ok (.ireturn, 1) := by decide +kernel
theorem dd_Mo_both_139 : decode bb_Mo_both 139 = .ok (.iload_n 1, 1) := by decide +kernel
theorem dd_Mo_both_140 : decode bb_Mo_both 140 = .ok (.iload_n 2, 1) := by decide +kernel
theorem dd_Mo_both_141 : decode bb_Mo_both 141 = .ok (.if_icmp .le 7, 3) := by decide +kernel
theorem dd_Mo_both_144 : decode bb_Mo_both 144 = .ok (.iconst 1, 1) := by decide +kernel
theorem dd_Mo_both_145 : decode bb_Mo_both 145 = .ok (.goto 4, 3) := by decide +kernel
theorem dd_Mo_both_148 : decode bb_Mo_both 148 = .ok (.iconst 0, 1) := by decide +kernel
theorem dd_Mo_both_149 : decode bb_Mo_both 149 = .ok (.ireturn, 1) := by decide +kernel
theorem dd_Mo_both_150 : decode bb_Mo_both 150 = .ok (.iload_n 1, 1) := by decide +kernel
theorem dd_Mo_both_151 : decode bb_Mo_both 151 = .ok (.iload_n 2, 1) := by decide +kernel
theorem dd_Mo_both_152 : decode bb_Mo_both 152 = .ok (.if_icmp .lt 7, 3) := by decide +kernel
theorem dd_Mo_both_155 : decode bb_Mo_both 155 = .ok (.iconst 1, 1) := by decide +kernel
theorem dd_Mo_both_156 : decode bb_Mo_both 156 = .ok (.goto 4, 3) := by decide +kernel
theorem dd_Mo_both_159 : decode bb_Mo_both 159 = .ok (.iconst 0, 1) := by decide +kernel
theorem dd_Mo_both_160 : decode bb_Mo_both 160 = .ok (.ireturn, 1) := by decide +kernel
theorem dd_Mo_both_161 : decode bb_Mo_both 161 = .ok (.iload_n 1, 1) := by decide +kernel
theorem dd_Mo_both_162 : decode bb_Mo_both 162 = .ok (.iload_n 2, 1) := by decide +kernel
theorem dd_Mo_both_163 : decode bb_Mo_both 163 = .ok (.iand, 1) := by decide +kernel
theorem dd_Mo_both_164 : decode bb_Mo_both 164 = .ok (.ireturn, 1) := by decide +kernel
theorem dd_Mo_both_165 : decode bb_Mo_both 165 = .ok (.iload_n 1, 1) := by decide +kernel
theorem dd_Mo_both_166 : decode bb_Mo_both 166 = .ok (.iload_n 2, 1) := by decide +kernel
theorem dd_Mo_both_167 : decode bb_Mo_both 167 = .ok (.ior, 1) := by decide +kernel
theorem dd_Mo_both_168 : decode bb_Mo_both 168 = .ok (.ireturn, 1) := by decide +kernel
set_option maxRecDepth 100000 in
set_option maxHeartbeats 4000000 in
theorem t_Mo_both_105  (X : zX p s m args cd D cid B bb_Mo_both 3 rr_Mo zT) (H : zH s meth B n0 (some (.int)) "both") {nf : Nat} {s0 : Int32} {c : Zc} {res : Int32 × Zc} (h : f_Mo_both_105 nf s0 c = some res) : Zz p l e (zRm 1 21 0 0) s m args below meth cd (MQ below (zQi D cid B res.1 res.2 n0 0) args s 0 0 (fun q => B ≤ q)) D cid B 3 0 0 c 105 [] [.int s0] := by
  unfold f_Mo_both_105 at h
  obtain rfl := Option.some.inj h
  exact z_iret X H.1 H.2.1 H.2.2.1 dd_Mo_both_105
set_option maxRecDepth 100000 in
set_option maxHeartbeats 4000000 in
theorem t_Mo_both_116  (X : zX p s m args cd D cid B bb_Mo_both 3 rr_Mo zT) (H : zH s meth B n0 (some (.int)) "both") {nf : Nat} {s0 : Int32} {c : Zc} {res : Int32 × Zc} (h : f_Mo_both_116 nf s0 c = some res) : Zz p l e (zRm 1 21 0 0) s m args below meth cd (MQ below (zQi D cid B res.1 res.2 n0 0) args s 0 0 (fun q => B ≤ q)) D cid B 3 0 0 c 116 [] [.int s0] := by
  unfold f_Mo_both_116 at h
  obtain rfl := Option.some.inj h
  exact z_iret X H.1 H.2.1 H.2.2.1 dd_Mo_both_116
set_option maxRecDepth 100000 in
set_option maxHeartbeats 4000000 in
theorem t_Mo_both_127  (X : zX p s m args cd D cid B bb_Mo_both 3 rr_Mo zT) (H : zH s meth B n0 (some (.int)) "both") {nf : Nat} {s0 : Int32} {c : Zc} {res : Int32 × Zc} (h : f_Mo_both_127 nf s0 c = some res) : Zz p l e (zRm 1 21 0 0) s m args below meth cd (MQ below (zQi D cid B res.1 res.2 n0 0) args s 0 0 (fun q => B ≤ q)) D cid B 3 0 0 c 127 [] [.int s0] := by
  unfold f_Mo_both_127 at h
  obtain rfl := Option.some.inj h
  exact z_iret X H.1 H.2.1 H.2.2.1 dd_Mo_both_127
set_option maxRecDepth 100000 in
set_option maxHeartbeats 4000000 in
theorem t_Mo_both_138  (X : zX p s m args cd D cid B bb_Mo_both 3 rr_Mo zT) (H : zH s meth B n0 (some (.int)) "both") {nf : Nat} {s0 : Int32} {c : Zc} {res : Int32 × Zc} (h : f_Mo_both_138 nf s0 c = some res) : Zz p l e (zRm 1 21 0 0) s m args below meth cd (MQ below (zQi D cid B res.1 res.2 n0 0) args s 0 0 (fun q => B ≤ q)) D cid B 3 0 0 c 138 [] [.int s0] := by
  unfold f_Mo_both_138 at h
  obtain rfl := Option.some.inj h
  exact z_iret X H.1 H.2.1 H.2.2.1 dd_Mo_both_138
set_option maxRecDepth 100000 in
set_option maxHeartbeats 4000000 in
theorem t_Mo_both_149  (X : zX p s m args cd D cid B bb_Mo_both 3 rr_Mo zT) (H : zH s meth B n0 (some (.int)) "both") {nf : Nat} {s0 : Int32} {c : Zc} {res : Int32 × Zc} (h : f_Mo_both_149 nf s0 c = some res) : Zz p l e (zRm 1 21 0 0) s m args below meth cd (MQ below (zQi D cid B res.1 res.2 n0 0) args s 0 0 (fun q => B ≤ q)) D cid B 3 0 0 c 149 [] [.int s0] := by
  unfold f_Mo_both_149 at h
  obtain rfl := Option.some.inj h
  exact z_iret X H.1 H.2.1 H.2.2.1 dd_Mo_both_149
set_option maxRecDepth 100000 in
set_option maxHeartbeats 4000000 in
theorem t_Mo_both_160  (X : zX p s m args cd D cid B bb_Mo_both 3 rr_Mo zT) (H : zH s meth B n0 (some (.int)) "both") {nf : Nat} {s0 : Int32} {c : Zc} {res : Int32 × Zc} (h : f_Mo_both_160 nf s0 c = some res) : Zz p l e (zRm 1 21 0 0) s m args below meth cd (MQ below (zQi D cid B res.1 res.2 n0 0) args s 0 0 (fun q => B ≤ q)) D cid B 3 0 0 c 160 [] [.int s0] := by
  unfold f_Mo_both_160 at h
  obtain rfl := Option.some.inj h
  exact z_iret X H.1 H.2.1 H.2.2.1 dd_Mo_both_160
set_option maxRecDepth 100000 in
set_option maxHeartbeats 4000000 in
theorem c_Mo_both (l : Launch) {nf : Nat} {a0 : Int32} {a1 : Int32} {a2 : Int32} {c : Zc} {res : Int32 × Zc} (h : f_Mo_both nf a0 a1 a2 c = some res) : zM l yy_Mo_both ww_Mo_both 1 21 0 0 [.int a0, .int a1, .int a2] c (fun D cid B => zQi D cid B res.1 res.2 c.length 0) := by
  refine z_met (cc := bb_Mo_both) (maxL := 3) (ret := (some (.int))) (by decide +kernel) rfl (Nat.le_of_ble_eq_true rfl) ?_
  intro p e s m args below meth cd D cid B X h1 h2 h3 h4
  have X : zX p s m args cd D cid B bb_Mo_both 3 rr_Mo zT := X
  have H : zH s meth B c.length (some (.int)) "both" := ⟨h1, h2, h4, h3⟩
  unfold f_Mo_both at h
  show Zz p l e (zRm 1 21 0 0) s m args below meth cd _ D cid B 3 0 0 c 0 [(0, .int a0), (1, .int a1), (2, .int a2)] []
  refine z_iload_n X dd_Mo_both_0 rfl 0 rfl ?_
  by_cases q1 : a0 = 4
  · rw [if_pos q1] at h
    refine z_tableIn (tgt := 68) (off := 67) X dd_Mo_both_1 (by rw [q1]; decide) (by rw [q1]; decide) (by rw [q1]; rfl) (by decide) ?_
    refine z_iload_n X dd_Mo_both_68 rfl 1 rfl ?_
    refine z_i2l X dd_Mo_both_69 ?_
    refine z_iload_n X dd_Mo_both_70 rfl 2 rfl ?_
    refine z_i2l X dd_Mo_both_71 ?_
    refine z_ladd X dd_Mo_both_72 ?_
    obtain ⟨q2, eq2, h⟩ := zb h
    refine z_callSi X [.long ((Int32.toInt64 a1) + (Int32.toInt64 a2))] rfl dd_Mo_both_73 (c_Mo_bounded l eq2) (va_cwS 1 X.1.2.2.2.2 (zg_S km_2128 km_2129 km_138 km_2130) rfl rfl rfl (by decide +kernel) ⟨Nat.le_of_ble_eq_true rfl, Nat.le_of_ble_eq_true rfl⟩) rfl (Nat.le_of_ble_eq_true rfl) ⟨Nat.le_of_ble_eq_true rfl, Nat.le_of_ble_eq_true rfl⟩ ?_
    obtain rfl := Option.some.inj h
    exact z_iret X H.1 H.2.1 H.2.2.1 dd_Mo_both_76
  rw [if_neg q1] at h
  by_cases q3 : a0 = 5
  · rw [if_pos q3] at h
    refine z_tableIn (tgt := 77) (off := 76) X dd_Mo_both_1 (by rw [q3]; decide) (by rw [q3]; decide) (by rw [q3]; rfl) (by decide) ?_
    refine z_iload_n X dd_Mo_both_77 rfl 1 rfl ?_
    refine z_i2l X dd_Mo_both_78 ?_
    refine z_iload_n X dd_Mo_both_79 rfl 2 rfl ?_
    refine z_i2l X dd_Mo_both_80 ?_
    refine z_lsub X dd_Mo_both_81 ?_
    obtain ⟨q4, eq4, h⟩ := zb h
    refine z_callSi X [.long ((Int32.toInt64 a1) - (Int32.toInt64 a2))] rfl dd_Mo_both_82 (c_Mo_bounded l eq4) (va_cwS 1 X.1.2.2.2.2 (zg_S km_2128 km_2129 km_138 km_2130) rfl rfl rfl (by decide +kernel) ⟨Nat.le_of_ble_eq_true rfl, Nat.le_of_ble_eq_true rfl⟩) rfl (Nat.le_of_ble_eq_true rfl) ⟨Nat.le_of_ble_eq_true rfl, Nat.le_of_ble_eq_true rfl⟩ ?_
    obtain rfl := Option.some.inj h
    exact z_iret X H.1 H.2.1 H.2.2.1 dd_Mo_both_85
  rw [if_neg q3] at h
  by_cases q5 : a0 = 6
  · rw [if_pos q5] at h
    refine z_tableIn (tgt := 86) (off := 85) X dd_Mo_both_1 (by rw [q5]; decide) (by rw [q5]; decide) (by rw [q5]; rfl) (by decide) ?_
    refine z_iload_n X dd_Mo_both_86 rfl 1 rfl ?_
    refine z_i2l X dd_Mo_both_87 ?_
    refine z_iload_n X dd_Mo_both_88 rfl 2 rfl ?_
    refine z_i2l X dd_Mo_both_89 ?_
    refine z_lmul X dd_Mo_both_90 ?_
    obtain ⟨q6, eq6, h⟩ := zb h
    refine z_callSi X [.long ((Int32.toInt64 a1) * (Int32.toInt64 a2))] rfl dd_Mo_both_91 (c_Mo_bounded l eq6) (va_cwS 1 X.1.2.2.2.2 (zg_S km_2128 km_2129 km_138 km_2130) rfl rfl rfl (by decide +kernel) ⟨Nat.le_of_ble_eq_true rfl, Nat.le_of_ble_eq_true rfl⟩) rfl (Nat.le_of_ble_eq_true rfl) ⟨Nat.le_of_ble_eq_true rfl, Nat.le_of_ble_eq_true rfl⟩ ?_
    obtain rfl := Option.some.inj h
    exact z_iret X H.1 H.2.1 H.2.2.1 dd_Mo_both_94
  rw [if_neg q5] at h
  by_cases q7 : a0 = 7
  · rw [if_pos q7] at h
    refine z_tableIn (tgt := 165) (off := 164) X dd_Mo_both_1 (by rw [q7]; decide) (by rw [q7]; decide) (by rw [q7]; rfl) (by decide) ?_
    refine z_iload_n X dd_Mo_both_165 rfl 1 rfl ?_
    refine z_iload_n X dd_Mo_both_166 rfl 2 rfl ?_
    refine z_ior X dd_Mo_both_167 ?_
    obtain rfl := Option.some.inj h
    exact z_iret X H.1 H.2.1 H.2.2.1 dd_Mo_both_168
  rw [if_neg q7] at h
  by_cases q8 : a0 = 8
  · rw [if_pos q8] at h
    refine z_tableIn (tgt := 165) (off := 164) X dd_Mo_both_1 (by rw [q8]; decide) (by rw [q8]; decide) (by rw [q8]; rfl) (by decide) ?_
    refine z_iload_n X dd_Mo_both_165 rfl 1 rfl ?_
    refine z_iload_n X dd_Mo_both_166 rfl 2 rfl ?_
    refine z_ior X dd_Mo_both_167 ?_
    obtain rfl := Option.some.inj h
    exact z_iret X H.1 H.2.1 H.2.2.1 dd_Mo_both_168
  rw [if_neg q8] at h
  by_cases q9 : a0 = 9
  · rw [if_pos q9] at h
    refine z_tableIn (tgt := 165) (off := 164) X dd_Mo_both_1 (by rw [q9]; decide) (by rw [q9]; decide) (by rw [q9]; rfl) (by decide) ?_
    refine z_iload_n X dd_Mo_both_165 rfl 1 rfl ?_
    refine z_iload_n X dd_Mo_both_166 rfl 2 rfl ?_
    refine z_ior X dd_Mo_both_167 ?_
    obtain rfl := Option.some.inj h
    exact z_iret X H.1 H.2.1 H.2.2.1 dd_Mo_both_168
  rw [if_neg q9] at h
  by_cases q10 : a0 = 10
  · rw [if_pos q10] at h
    refine z_tableIn (tgt := 95) (off := 94) X dd_Mo_both_1 (by rw [q10]; decide) (by rw [q10]; decide) (by rw [q10]; rfl) (by decide) ?_
    refine z_iload_n X dd_Mo_both_95 rfl 1 rfl ?_
    refine z_iload_n X dd_Mo_both_96 rfl 2 rfl ?_
    refine z_icmp_ne (tgt := 104) X dd_Mo_both_97 (by decide) (fun q11 => ?_) (fun q11 => ?_)
    · rw [if_neg q11] at h
      refine z_iconst (v := 0) X dd_Mo_both_104 (by decide) ?_
      refine z_sub [] rfl ?_
      exact t_Mo_both_105 X H h
    · rw [if_pos q11] at h
      refine z_iconst (v := 1) X dd_Mo_both_100 (by decide) ?_
      refine z_goto (tgt := 105) X dd_Mo_both_101 (by decide) ?_
      refine z_sub [] rfl ?_
      exact t_Mo_both_105 X H h
  rw [if_neg q10] at h
  by_cases q12 : a0 = 11
  · rw [if_pos q12] at h
    refine z_tableIn (tgt := 106) (off := 105) X dd_Mo_both_1 (by rw [q12]; decide) (by rw [q12]; decide) (by rw [q12]; rfl) (by decide) ?_
    refine z_iload_n X dd_Mo_both_106 rfl 1 rfl ?_
    refine z_iload_n X dd_Mo_both_107 rfl 2 rfl ?_
    refine z_icmp_eq (tgt := 115) X dd_Mo_both_108 (by decide) (fun q13 => ?_) (fun q13 => ?_)
    · rw [if_pos q13] at h
      refine z_iconst (v := 0) X dd_Mo_both_115 (by decide) ?_
      refine z_sub [] rfl ?_
      exact t_Mo_both_116 X H h
    · rw [if_neg q13] at h
      refine z_iconst (v := 1) X dd_Mo_both_111 (by decide) ?_
      refine z_goto (tgt := 116) X dd_Mo_both_112 (by decide) ?_
      refine z_sub [] rfl ?_
      exact t_Mo_both_116 X H h
  rw [if_neg q12] at h
  by_cases q14 : a0 = 12
  · rw [if_pos q14] at h
    refine z_tableIn (tgt := 117) (off := 116) X dd_Mo_both_1 (by rw [q14]; decide) (by rw [q14]; decide) (by rw [q14]; rfl) (by decide) ?_
    refine z_iload_n X dd_Mo_both_117 rfl 1 rfl ?_
    refine z_iload_n X dd_Mo_both_118 rfl 2 rfl ?_
    refine z_icmp_ge (tgt := 126) X dd_Mo_both_119 (by decide) (fun q15 => ?_) (fun q15 => ?_)
    · rw [if_pos q15] at h
      refine z_iconst (v := 0) X dd_Mo_both_126 (by decide) ?_
      refine z_sub [] rfl ?_
      exact t_Mo_both_127 X H h
    · rw [if_neg q15] at h
      refine z_iconst (v := 1) X dd_Mo_both_122 (by decide) ?_
      refine z_goto (tgt := 127) X dd_Mo_both_123 (by decide) ?_
      refine z_sub [] rfl ?_
      exact t_Mo_both_127 X H h
  rw [if_neg q14] at h
  by_cases q16 : a0 = 13
  · rw [if_pos q16] at h
    refine z_tableIn (tgt := 128) (off := 127) X dd_Mo_both_1 (by rw [q16]; decide) (by rw [q16]; decide) (by rw [q16]; rfl) (by decide) ?_
    refine z_iload_n X dd_Mo_both_128 rfl 1 rfl ?_
    refine z_iload_n X dd_Mo_both_129 rfl 2 rfl ?_
    refine z_icmp_gt (tgt := 137) X dd_Mo_both_130 (by decide) (fun q17 => ?_) (fun q17 => ?_)
    · rw [if_pos q17] at h
      refine z_iconst (v := 0) X dd_Mo_both_137 (by decide) ?_
      refine z_sub [] rfl ?_
      exact t_Mo_both_138 X H h
    · rw [if_neg q17] at h
      refine z_iconst (v := 1) X dd_Mo_both_133 (by decide) ?_
      refine z_goto (tgt := 138) X dd_Mo_both_134 (by decide) ?_
      refine z_sub [] rfl ?_
      exact t_Mo_both_138 X H h
  rw [if_neg q16] at h
  by_cases q18 : a0 = 14
  · rw [if_pos q18] at h
    refine z_tableIn (tgt := 139) (off := 138) X dd_Mo_both_1 (by rw [q18]; decide) (by rw [q18]; decide) (by rw [q18]; rfl) (by decide) ?_
    refine z_iload_n X dd_Mo_both_139 rfl 1 rfl ?_
    refine z_iload_n X dd_Mo_both_140 rfl 2 rfl ?_
    refine z_icmp_le (tgt := 148) X dd_Mo_both_141 (by decide) (fun q19 => ?_) (fun q19 => ?_)
    · rw [if_pos q19] at h
      refine z_iconst (v := 0) X dd_Mo_both_148 (by decide) ?_
      refine z_sub [] rfl ?_
      exact t_Mo_both_149 X H h
    · rw [if_neg q19] at h
      refine z_iconst (v := 1) X dd_Mo_both_144 (by decide) ?_
      refine z_goto (tgt := 149) X dd_Mo_both_145 (by decide) ?_
      refine z_sub [] rfl ?_
      exact t_Mo_both_149 X H h
  rw [if_neg q18] at h
  by_cases q20 : a0 = 15
  · rw [if_pos q20] at h
    refine z_tableIn (tgt := 150) (off := 149) X dd_Mo_both_1 (by rw [q20]; decide) (by rw [q20]; decide) (by rw [q20]; rfl) (by decide) ?_
    refine z_iload_n X dd_Mo_both_150 rfl 1 rfl ?_
    refine z_iload_n X dd_Mo_both_151 rfl 2 rfl ?_
    refine z_icmp_lt (tgt := 159) X dd_Mo_both_152 (by decide) (fun q21 => ?_) (fun q21 => ?_)
    · rw [if_pos q21] at h
      refine z_iconst (v := 0) X dd_Mo_both_159 (by decide) ?_
      refine z_sub [] rfl ?_
      exact t_Mo_both_160 X H h
    · rw [if_neg q21] at h
      refine z_iconst (v := 1) X dd_Mo_both_155 (by decide) ?_
      refine z_goto (tgt := 160) X dd_Mo_both_156 (by decide) ?_
      refine z_sub [] rfl ?_
      exact t_Mo_both_160 X H h
  rw [if_neg q20] at h
  by_cases q22 : a0 = 16
  · rw [if_pos q22] at h
    refine z_tableIn (tgt := 161) (off := 160) X dd_Mo_both_1 (by rw [q22]; decide) (by rw [q22]; decide) (by rw [q22]; rfl) (by decide) ?_
    refine z_iload_n X dd_Mo_both_161 rfl 1 rfl ?_
    refine z_iload_n X dd_Mo_both_162 rfl 2 rfl ?_
    refine z_iand X dd_Mo_both_163 ?_
    obtain rfl := Option.some.inj h
    exact z_iret X H.1 H.2.1 H.2.2.1 dd_Mo_both_164
  rw [if_neg q22] at h
  refine z_tableOut (tgt := 165) X dd_Mo_both_1 (by have yq1 := lv_neT q1 (a := 4) (by decide); have yq3 := lv_neT q3 (a := 5) (by decide); have yq5 := lv_neT q5 (a := 6) (by decide); have yq7 := lv_neT q7 (a := 7) (by decide); have yq8 := lv_neT q8 (a := 8) (by decide); have yq9 := lv_neT q9 (a := 9) (by decide); have yq10 := lv_neT q10 (a := 10) (by decide); have yq12 := lv_neT q12 (a := 11) (by decide); have yq14 := lv_neT q14 (a := 12) (by decide); have yq16 := lv_neT q16 (a := 13) (by decide); have yq18 := lv_neT q18 (a := 14) (by decide); have yq20 := lv_neT q20 (a := 15) (by decide); have yq22 := lv_neT q22 (a := 16) (by decide); omega) (by decide) ?_
  refine z_iload_n X dd_Mo_both_165 rfl 1 rfl ?_
  refine z_iload_n X dd_Mo_both_166 rfl 2 rfl ?_
  refine z_ior X dd_Mo_both_167 ?_
  obtain rfl := Option.some.inj h
  exact z_iret X H.1 H.2.1 H.2.2.1 dd_Mo_both_168
theorem dd_Mo_work_0 : decode bb_Mo_work 0 = .ok (.iconst 0, 1) := by decide +kernel
theorem dd_Mo_work_1 : decode bb_Mo_work 1 = .ok (.istore_n 3, 1) := by decide +kernel
theorem dd_Mo_work_2 : decode bb_Mo_work 2 = .ok (.iload_n 1, 1) := by decide +kernel
theorem dd_Mo_work_3 : decode bb_Mo_work 3 = .ok (.istore 4, 2) := by decide +kernel
theorem dd_Mo_work_5 : decode bb_Mo_work 5 = .ok (.aload_n 0, 1) := by decide +kernel
theorem dd_Mo_work_6 : decode bb_Mo_work 6 = .ok (.getfield 137, 3) := by decide +kernel
theorem dd_Mo_work_9 : decode bb_Mo_work 9 = .ok (.iload_n 2, 1) := by decide +kernel
theorem dd_Mo_work_10 : decode bb_Mo_work 10 = .ok (.iload 4, 2) := by decide +kernel
theorem dd_Mo_work_12 : decode bb_Mo_work 12 = .ok (.iadd, 1) := by decide +kernel
theorem dd_Mo_work_13 : decode bb_Mo_work 13 = .ok (.iaload, 1) := by decide +kernel
theorem dd_Mo_work_14 : decode bb_Mo_work 14 = .ok (.bipush 99, 2) := by decide +kernel
theorem dd_Mo_work_16 : decode bb_Mo_work 16 = .ok (.if_icmp .eq 230, 3) := by decide +kernel
theorem dd_Mo_work_19 : decode bb_Mo_work 19 = .ok (.aload_n 0, 1) := by decide +kernel
theorem dd_Mo_work_20 : decode bb_Mo_work 20 = .ok (.getfield 137, 3) := by decide +kernel
theorem dd_Mo_work_23 : decode bb_Mo_work 23 = .ok (.iload_n 2, 1) := by decide +kernel
theorem dd_Mo_work_24 : decode bb_Mo_work 24 = .ok (.iload 4, 2) := by decide +kernel
theorem dd_Mo_work_26 : decode bb_Mo_work 26 = .ok (.iadd, 1) := by decide +kernel
theorem dd_Mo_work_27 : decode bb_Mo_work 27 = .ok (.iaload, 1) := by decide +kernel
theorem dd_Mo_work_28 : decode bb_Mo_work 28 = .ok (.istore 5, 2) := by decide +kernel
theorem dd_Mo_work_30 : decode bb_Mo_work 30 = .ok (.aload_n 0, 1) := by decide +kernel
theorem dd_Mo_work_31 : decode bb_Mo_work 31 = .ok (.getfield 140, 3) := by decide +kernel
theorem dd_Mo_work_34 : decode bb_Mo_work 34 = .ok (.iload_n 2, 1) := by decide +kernel
theorem dd_Mo_work_35 : decode bb_Mo_work 35 = .ok (.iload 4, 2) := by decide +kernel
theorem dd_Mo_work_37 : decode bb_Mo_work 37 = .ok (.iadd, 1) := by decide +kernel
theorem dd_Mo_work_38 : decode bb_Mo_work 38 = .ok (.iaload, 1) := by decide +kernel
theorem dd_Mo_work_39 : decode bb_Mo_work 39 = .ok (.istore 6, 2) := by decide +kernel
theorem dd_Mo_work_41 : decode bb_Mo_work 41 = .ok (.iinc 4 1, 3) := by decide +kernel
theorem dd_Mo_work_44 : decode bb_Mo_work 44 = .ok (.iload 5, 2) := by decide +kernel
theorem dd_Mo_work_46 : decode bb_Mo_work 46 = .ok (.iconst 3, 1) := by decide +kernel
theorem dd_Mo_work_47 : decode bb_Mo_work 47 = .ok (.if_icmp .gt 78, 3) := by decide +kernel
theorem dd_Mo_work_50 : decode bb_Mo_work 50 = .ok (.aload_n 0, 1) := by decide +kernel
theorem dd_Mo_work_51 : decode bb_Mo_work 51 = .ok (.getfield 197, 3) := by decide +kernel
theorem dd_Mo_work_54 : decode bb_Mo_work 54 = .ok (.iload_n 3, 1) := by decide +kernel
theorem dd_Mo_work_55 : decode bb_Mo_work 55 = .ok (.iload 5, 2) := by decide +kernel
theorem dd_Mo_work_57 : decode bb_Mo_work 57 = .ok (.ifCond .ne 8, 3) := by decide +kernel
theorem dd_Mo_work_60 : decode bb_Mo_work 60 = .ok (.iload 6, 2) := by decide +kernel
theorem dd_Mo_work_62 : decode bb_Mo_work 62 = .ok (.goto 56, 3) := by decide +kernel
theorem dd_Mo_work_65 : decode bb_Mo_work 65 = .ok (.iload 5, 2) := by decide +kernel
theorem dd_Mo_work_67 : decode bb_Mo_work 67 = .ok (.iconst 1, 1) := by decide +kernel
theorem dd_Mo_work_68 : decode bb_Mo_work 68 = .ok (.if_icmp .ne 13, 3) := by decide +kernel
theorem dd_Mo_work_71 : decode bb_Mo_work 71 = .ok (.aload_n 0, 1) := by decide +kernel
theorem dd_Mo_work_72 : decode bb_Mo_work 72 = .ok (.getfield 191, 3) := by decide +kernel
theorem dd_Mo_work_75 : decode bb_Mo_work 75 = .ok (.iload 6, 2) := by decide +kernel
theorem dd_Mo_work_77 : decode bb_Mo_work 77 = .ok (.iaload, 1) := by decide +kernel
theorem dd_Mo_work_78 : decode bb_Mo_work 78 = .ok (.goto 40, 3) := by decide +kernel
theorem dd_Mo_work_81 : decode bb_Mo_work 81 = .ok (.iload 5, 2) := by decide +kernel
theorem dd_Mo_work_83 : decode bb_Mo_work 83 = .ok (.iconst 2, 1) := by decide +kernel
theorem dd_Mo_work_84 : decode bb_Mo_work 84 = .ok (.if_icmp .ne 13, 3) := by decide +kernel
theorem dd_Mo_work_87 : decode bb_Mo_work 87 = .ok (.aload_n 0, 1) := by decide +kernel
theorem dd_Mo_work_88 : decode bb_Mo_work 88 = .ok (.getfield 194, 3) := by decide +kernel
theorem dd_Mo_work_91 : decode bb_Mo_work 91 = .ok (.iload 6, 2) := by decide +kernel
theorem dd_Mo_work_93 : decode bb_Mo_work 93 = .ok (.iaload, 1) := by decide +kernel
theorem dd_Mo_work_94 : decode bb_Mo_work 94 = .ok (.goto 24, 3) := by decide +kernel
theorem dd_Mo_work_97 : decode bb_Mo_work 97 = .ok (.aload_n 0, 1) := by decide +kernel
theorem dd_Mo_work_98 : decode bb_Mo_work 98 = .ok (.getfield 13, 3) := by decide +kernel
theorem dd_Mo_work_101 : decode bb_Mo_work 101 = .ok (.iconst 4, 1) := by decide +kernel
theorem dd_Mo_work_102 : decode bb_Mo_work 102 = .ok (.aload_n 0, 1) := by decide +kernel
theorem dd_Mo_work_103 : decode bb_Mo_work 103 = .ok (.getfield 191, 3) := by decide +kernel
theorem dd_Mo_work_106 : decode bb_Mo_work 106 = .ok (.iload 6, 2) := by decide +kernel
theorem dd_Mo_work_108 : decode bb_Mo_work 108 = .ok (.iconst 4, 1) := by decide +kernel
theorem dd_Mo_work_109 : decode bb_Mo_work 109 = .ok (.idiv, 1) := by decide +kernel
theorem dd_Mo_work_110 : decode bb_Mo_work 110 = .ok (.iaload, 1) := by decide +kernel
theorem dd_Mo_work_111 : decode bb_Mo_work 111 = .ok (.imul, 1) := by decide +kernel
theorem dd_Mo_work_112 : decode bb_Mo_work 112 = .ok (.iload 6, 2) := by decide +kernel
theorem dd_Mo_work_114 : decode bb_Mo_work 114 = .ok (.iconst 4, 1) := by decide +kernel
theorem dd_Mo_work_115 : decode bb_Mo_work 115 = .ok (.irem, 1) := by decide +kernel
theorem dd_Mo_work_116 : decode bb_Mo_work 116 = .ok (.iadd, 1) := by decide +kernel
theorem dd_Mo_work_117 : decode bb_Mo_work 117 = .ok (.iaload, 1) := by decide +kernel
theorem dd_Mo_work_118 : decode bb_Mo_work 118 = .ok (.iastore, 1) := by decide +kernel
theorem dd_Mo_work_119 : decode bb_Mo_work 119 = .ok (.iinc 3 1, 3) := by decide +kernel
theorem dd_Mo_work_122 : decode bb_Mo_work 122 = .ok (.goto 121, 3) := by decide +kernel
theorem dd_Mo_work_125 : decode bb_Mo_work 125 = .ok (.iload 5, 2) := by decide +kernel
theorem dd_Mo_work_127 : decode bb_Mo_work 127 = .ok (.bipush 19, 2) := by decide +kernel
theorem dd_Mo_work_129 : decode bb_Mo_work 129 = .ok (.if_icmp .ne 29, 3) := by decide +kernel
theorem dd_Mo_work_132 : decode bb_Mo_work 132 = .ok (.aload_n 0, 1) := by decide +kernel
theorem dd_Mo_work_133 : decode bb_Mo_work 133 = .ok (.getfield 197, 3) := by decide +kernel
theorem dd_Mo_work_136 : decode bb_Mo_work 136 = .ok (.iload_n 3, 1) := by decide +kernel
theorem dd_Mo_work_137 : decode bb_Mo_work 137 = .ok (.aload_n 0, 1) := by decide +kernel
theorem dd_Mo_work_138 : decode bb_Mo_work 138 = .ok (.iload 6, 2) := by decide +kernel
theorem dd_Mo_work_140 : decode bb_Mo_work 140 = .ok (.invokevirtual 475, 3) := by decide +kernel
theorem dd_Mo_work_143 : decode bb_Mo_work 143 = .ok (.ifCond .eq 7, 3) := by decide +kernel
theorem dd_Mo_work_146 : decode bb_Mo_work 146 = .ok (.iconst 1, 1) := by decide +kernel
theorem dd_Mo_work_147 : decode bb_Mo_work 147 = .ok (.goto 4, 3) := by decide +kernel
theorem dd_Mo_work_150 : decode bb_Mo_work 150 = .ok (.iconst 0, 1) := by decide +kernel
theorem dd_Mo_work_151 : decode bb_Mo_work 151 = .ok (.iastore, 1) := by decide +kernel
theorem dd_Mo_work_152 : decode bb_Mo_work 152 = .ok (.iinc 3 1, 3) := by decide +kernel
theorem dd_Mo_work_155 : decode bb_Mo_work 155 = .ok (.goto 88, 3) := by decide +kernel
theorem dd_Mo_work_158 : decode bb_Mo_work 158 = .ok (.iload 5, 2) := by decide +kernel
theorem dd_Mo_work_160 : decode bb_Mo_work 160 = .ok (.bipush 7, 2) := by decide +kernel
theorem dd_Mo_work_162 : decode bb_Mo_work 162 = .ok (.if_icmp .ne 23, 3) := by decide +kernel
theorem dd_Mo_work_165 : decode bb_Mo_work 165 = .ok (.aload_n 0, 1) := by decide +kernel
theorem dd_Mo_work_166 : decode bb_Mo_work 166 = .ok (.getfield 197, 3) := by decide +kernel
theorem dd_Mo_work_169 : decode bb_Mo_work 169 = .ok (.iload_n 3, 1) := by decide +kernel
theorem dd_Mo_work_170 : decode bb_Mo_work 170 = .ok (.iconst 1, 1) := by decide +kernel
theorem dd_Mo_work_171 : decode bb_Mo_work 171 = .ok (.isub, 1) := by decide +kernel
theorem dd_Mo_work_172 : decode bb_Mo_work 172 = .ok (.aload_n 0, 1) := by decide +kernel
theorem dd_Mo_work_173 : decode bb_Mo_work 173 = .ok (.getfield 197, 3) := by decide +kernel
theorem dd_Mo_work_176 : decode bb_Mo_work 176 = .ok (.iload_n 3, 1) := by decide +kernel
theorem dd_Mo_work_177 : decode bb_Mo_work 177 = .ok (.iconst 1, 1) := by decide +kernel
theorem dd_Mo_work_178 : decode bb_Mo_work 178 = .ok (.isub, 1) := by decide +kernel
theorem dd_Mo_work_179 : decode bb_Mo_work 179 = .ok (.iaload, 1) := by decide +kernel
theorem dd_Mo_work_180 : decode bb_Mo_work 180 = .ok (.ineg, 1) := by decide +kernel
theorem dd_Mo_work_181 : decode bb_Mo_work 181 = .ok (.iastore, 1) := by decide +kernel
theorem dd_Mo_work_182 : decode bb_Mo_work 182 = .ok (.goto 61, 3) := by decide +kernel
theorem dd_Mo_work_185 : decode bb_Mo_work 185 = .ok (.iload 5, 2) := by decide +kernel
theorem dd_Mo_work_187 : decode bb_Mo_work 187 = .ok (.bipush 18, 2) := by decide +kernel
theorem dd_Mo_work_189 : decode bb_Mo_work 189 = .ok (.if_icmp .ne 24, 3) := by decide +kernel
theorem dd_Mo_work_192 : decode bb_Mo_work 192 = .ok (.aload_n 0, 1) := by decide +kernel
theorem dd_Mo_work_193 : decode bb_Mo_work 193 = .ok (.getfield 197, 3) := by decide +kernel
theorem dd_Mo_work_196 : decode bb_Mo_work 196 = .ok (.iload_n 3, 1) := by decide +kernel
theorem dd_Mo_work_197 : decode bb_Mo_work 197 = .ok (.iconst 1, 1) := by decide +kernel
theorem dd_Mo_work_198 : decode bb_Mo_work 198 = .ok (.isub, 1) := by decide +kernel
theorem dd_Mo_work_199 : decode bb_Mo_work 199 = .ok (.iconst 1, 1) := by decide +kernel
theorem dd_Mo_work_200 : decode bb_Mo_work 200 = .ok (.aload_n 0, 1) := by decide +kernel
theorem dd_Mo_work_201 : decode bb_Mo_work 201 = .ok (.getfield 197, 3) := by decide +kernel
theorem dd_Mo_work_204 : decode bb_Mo_work 204 = .ok (.iload_n 3, 1) := by decide +kernel
theorem dd_Mo_work_205 : decode bb_Mo_work 205 = .ok (.iconst 1, 1) := by decide +kernel
theorem dd_Mo_work_206 : decode bb_Mo_work 206 = .ok (.isub, 1) := by decide +kernel
theorem dd_Mo_work_207 : decode bb_Mo_work 207 = .ok (.iaload, 1) := by decide +kernel
theorem dd_Mo_work_208 : decode bb_Mo_work 208 = .ok (.isub, 1) := by decide +kernel
theorem dd_Mo_work_209 : decode bb_Mo_work 209 = .ok (.iastore, 1) := by decide +kernel
theorem dd_Mo_work_210 : decode bb_Mo_work 210 = .ok (.goto 33, 3) := by decide +kernel
theorem dd_Mo_work_213 : decode bb_Mo_work 213 = .ok (.iinc 3 (-1), 3) := by decide +kernel
theorem dd_Mo_work_216 : decode bb_Mo_work 216 = .ok (.aload_n 0, 1) := by decide +kernel
theorem dd_Mo_work_217 : decode bb_Mo_work 217 = .ok (.getfield 197, 3) := by decide +kernel
theorem dd_Mo_work_220 : decode bb_Mo_work 220 = .ok (.iload_n 3, 1) := by decide +kernel
theorem dd_Mo_work_221 : decode bb_Mo_work 221 = .ok (.iconst 1, 1) := by decide +kernel
theorem dd_Mo_work_222 : decode bb_Mo_work 222 = .ok (.isub, 1) := by decide +kernel
theorem dd_Mo_work_223 : decode bb_Mo_work 223 = .ok (.iload 5, 2) := by decide +kernel
theorem dd_Mo_work_225 : decode bb_Mo_work 225 = .ok (.aload_n 0, 1) := by decide +kernel
theorem dd_Mo_work_226 : decode bb_Mo_work 226 = .ok (.getfield 197, 3) := by decide +kernel
theorem dd_Mo_work_229 : decode bb_Mo_work 229 = .ok (.iload_n 3, 1) := by decide +kernel
theorem dd_Mo_work_230 : decode bb_Mo_work 230 = .ok (.iconst 1, 1) := by decide +kernel
theorem dd_Mo_work_231 : decode bb_Mo_work 231 = .ok (.isub, 1) := by decide +kernel
theorem dd_Mo_work_232 : decode bb_Mo_work 232 = .ok (.iaload, 1) := by decide +kernel
theorem dd_Mo_work_233 : decode bb_Mo_work 233 = .ok (.aload_n 0, 1) := by decide +kernel
theorem dd_Mo_work_234 : decode bb_Mo_work 234 = .ok (.getfield 197, 3) := by decide +kernel
theorem dd_Mo_work_237 : decode bb_Mo_work 237 = .ok (.iload_n 3, 1) := by decide +kernel
theorem dd_Mo_work_238 : decode bb_Mo_work 238 = .ok (.iaload, 1) := by decide +kernel
theorem dd_Mo_work_239 : decode bb_Mo_work 239 = .ok (.invokestatic 478, 3) := by decide +kernel
theorem dd_Mo_work_242 : decode bb_Mo_work 242 = .ok (.iastore, 1) := by decide +kernel
theorem dd_Mo_work_243 : decode bb_Mo_work 243 = .ok (.goto (-238), 3) := by decide +kernel
theorem dd_Mo_work_246 : decode bb_Mo_work 246 = .ok (.aload_n 0, 1) := by decide +kernel
theorem dd_Mo_work_247 : decode bb_Mo_work 247 = .ok (.getfield 197, 3) := by decide +kernel
theorem dd_Mo_work_250 : decode bb_Mo_work 250 = .ok (.iconst 0, 1) := by decide +kernel
theorem dd_Mo_work_251 : decode bb_Mo_work 251 = .ok (.iaload, 1) := by decide +kernel
theorem dd_Mo_work_252 : decode bb_Mo_work 252 = .ok (.ireturn, 1) := by decide +kernel
set_option maxRecDepth 100000 in
set_option maxHeartbeats 4000000 in
theorem t_Mo_work_243  (X : zX p s m args cd D cid B bb_Mo_work 7 rr_Mo zT) (H : zH s meth B n0 (some (.int)) "work") {nf : Nat} {x0 : Nat} {x2 : Int32} {x3 : Int32} {x4 : Int32} {c : Zc} {r : (Nat × Int32 × Int32 × Int32 × Zc) ⊕ (Nat × Zc)} (h : f_Mo_work_243 nf x0 x2 x3 x4 c = some r) (k0 : ∀ a, r = .inl a → (fun a : Nat × Int32 × Int32 × Int32 × Zc => Zz p l e (zRm 3 68 0 0) s m args below meth cd Q D cid B 7 0 0 a.2.2.2.2 5 [(0, .ref a.1), (2, .int a.2.1), (3, .int a.2.2.1), (4, .int a.2.2.2.1)] []) a) (k1 : ∀ b, r = .inr b → (fun b : Nat × Zc => Zz p l e (zRm 3 68 0 0) s m args below meth cd Q D cid B 7 0 0 b.2 246 [(0, .ref b.1)] []) b) : Zz p l e (zRm 3 68 0 0) s m args below meth cd Q D cid B 7 0 0 c 243 [(0, .ref x0), (2, .int x2), (3, .int x3), (4, .int x4)] [] := by
  unfold f_Mo_work_243 at h
  refine z_goto (tgt := 5) X dd_Mo_work_243 (by decide) ?_
  obtain rfl := Option.some.inj h
  exact k0 _ rfl
set_option maxRecDepth 100000 in
set_option maxHeartbeats 4000000 in
theorem t_Mo_work_151  (X : zX p s m args cd D cid B bb_Mo_work 7 rr_Mo zT) (H : zH s meth B n0 (some (.int)) "work") {nf : Nat} {x0 : Nat} {x2 : Int32} {x3 : Int32} {x4 : Int32} {s0 : Nat} {s1 : Int32} {s2 : Int32} {c : Zc} {r : (Nat × Int32 × Int32 × Int32 × Zc) ⊕ (Nat × Zc)} (h : f_Mo_work_151 nf x0 x2 x3 x4 s0 s1 s2 c = some r) (k0 : ∀ a, r = .inl a → (fun a : Nat × Int32 × Int32 × Int32 × Zc => Zz p l e (zRm 3 68 0 0) s m args below meth cd Q D cid B 7 0 0 a.2.2.2.2 5 [(0, .ref a.1), (2, .int a.2.1), (3, .int a.2.2.1), (4, .int a.2.2.2.1)] []) a) (k1 : ∀ b, r = .inr b → (fun b : Nat × Zc => Zz p l e (zRm 3 68 0 0) s m args below meth cd Q D cid B 7 0 0 b.2 246 [(0, .ref b.1)] []) b) : Zz p l e (zRm 3 68 0 0) s m args below meth cd Q D cid B 7 0 0 c 151 [(0, .ref x0), (2, .int x2), (3, .int x3), (4, .int x4)] [.int s2, .int s1, .ref s0] := by
  unfold f_Mo_work_151 at h
  obtain ⟨c31, ec31, h⟩ := zb h
  refine z_iastore X dd_Mo_work_151 rfl ec31 ?_
  refine z_iinc (v := (x3 + 1)) (lv' := [(3, .int (x3 + 1)), (0, .ref x0), (2, .int x2), (4, .int x4)]) X dd_Mo_work_152 2 rfl rfl (by decide) rfl ?_
  refine z_goto (tgt := 243) X dd_Mo_work_155 (by decide) ?_
  refine z_sub [1, 2, 0, 3] rfl ?_
  exact t_Mo_work_243 X H h k0 k1
set_option maxRecDepth 100000 in
set_option maxHeartbeats 4000000 in
theorem t_Mo_work_118  (X : zX p s m args cd D cid B bb_Mo_work 7 rr_Mo zT) (H : zH s meth B n0 (some (.int)) "work") {nf : Nat} {x0 : Nat} {x2 : Int32} {x3 : Int32} {x4 : Int32} {s0 : Nat} {s1 : Int32} {s2 : Int32} {c : Zc} {r : (Nat × Int32 × Int32 × Int32 × Zc) ⊕ (Nat × Zc)} (h : f_Mo_work_118 nf x0 x2 x3 x4 s0 s1 s2 c = some r) (k0 : ∀ a, r = .inl a → (fun a : Nat × Int32 × Int32 × Int32 × Zc => Zz p l e (zRm 3 68 0 0) s m args below meth cd Q D cid B 7 0 0 a.2.2.2.2 5 [(0, .ref a.1), (2, .int a.2.1), (3, .int a.2.2.1), (4, .int a.2.2.2.1)] []) a) (k1 : ∀ b, r = .inr b → (fun b : Nat × Zc => Zz p l e (zRm 3 68 0 0) s m args below meth cd Q D cid B 7 0 0 b.2 246 [(0, .ref b.1)] []) b) : Zz p l e (zRm 3 68 0 0) s m args below meth cd Q D cid B 7 0 0 c 118 [(0, .ref x0), (2, .int x2), (3, .int x3), (4, .int x4)] [.int s2, .int s1, .ref s0] := by
  unfold f_Mo_work_118 at h
  obtain ⟨c42, ec42, h⟩ := zb h
  refine z_iastore X dd_Mo_work_118 rfl ec42 ?_
  refine z_iinc (v := (x3 + 1)) (lv' := [(3, .int (x3 + 1)), (0, .ref x0), (2, .int x2), (4, .int x4)]) X dd_Mo_work_119 2 rfl rfl (by decide) rfl ?_
  refine z_goto (tgt := 243) X dd_Mo_work_122 (by decide) ?_
  refine z_sub [1, 2, 0, 3] rfl ?_
  exact t_Mo_work_243 X H h k0 k1
set_option maxRecDepth 100000 in
set_option maxHeartbeats 4000000 in
theorem u_Mo_work_5  (X : zX p s m args cd D cid B bb_Mo_work 7 rr_Mo zT) (H : zH s meth B n0 (some (.int)) "work") {nf : Nat} {x0 : Nat} {x2 : Int32} {x3 : Int32} {x4 : Int32} {c : Zc} {r : (Nat × Int32 × Int32 × Int32 × Zc) ⊕ (Nat × Zc)} (h : g_Mo_work_5 nf x0 x2 x3 x4 c = some r) (k0 : ∀ a, r = .inl a → (fun a : Nat × Int32 × Int32 × Int32 × Zc => Zz p l e (zRm 3 68 0 0) s m args below meth cd Q D cid B 7 0 0 a.2.2.2.2 5 [(0, .ref a.1), (2, .int a.2.1), (3, .int a.2.2.1), (4, .int a.2.2.2.1)] []) a) (k1 : ∀ b, r = .inr b → (fun b : Nat × Zc => Zz p l e (zRm 3 68 0 0) s m args below meth cd Q D cid B 7 0 0 b.2 246 [(0, .ref b.1)] []) b) : Zz p l e (zRm 3 68 0 0) s m args below meth cd Q D cid B 7 0 0 c 5 [(0, .ref x0), (2, .int x2), (3, .int x3), (4, .int x4)] [] := by
  unfold g_Mo_work_5 at h
  refine z_aload_n X dd_Mo_work_5 rfl 0 rfl ?_
  obtain ⟨v1, ev1, h⟩ := zb h
  refine z_get (j := 50) X dd_Mo_work_6 kc_12 ki_12 (by decide) km_1571 (zgr_v ev1) ?_
  refine z_iload_n X dd_Mo_work_9 rfl 1 rfl ?_
  refine z_iload X dd_Mo_work_10 3 rfl ?_
  refine z_iadd X dd_Mo_work_12 ?_
  obtain ⟨v2, ev2, h⟩ := zb h
  refine z_iaload X dd_Mo_work_13 rfl ev2 ?_
  refine z_bipush (v := 99) X dd_Mo_work_14 (by decide) ?_
  refine z_icmp_eq (tgt := 246) X dd_Mo_work_16 (by decide) (fun q3 => ?_) (fun q3 => ?_)
  · rw [if_pos q3] at h
    refine z_sub [0] rfl ?_
    obtain rfl := Option.some.inj h
    exact k1 _ rfl
  · rw [if_neg q3] at h
    refine z_aload_n X dd_Mo_work_19 rfl 0 rfl ?_
    obtain ⟨v4, ev4, h⟩ := zb h
    refine z_get (j := 50) X dd_Mo_work_20 kc_12 ki_12 (by decide) km_1571 (zgr_v ev4) ?_
    refine z_iload_n X dd_Mo_work_23 rfl 1 rfl ?_
    refine z_iload X dd_Mo_work_24 3 rfl ?_
    refine z_iadd X dd_Mo_work_26 ?_
    obtain ⟨v5, ev5, h⟩ := zb h
    refine z_iaload X dd_Mo_work_27 rfl ev5 ?_
    refine z_istore (lv' := [(5, .int v5), (0, .ref x0), (2, .int x2), (3, .int x3), (4, .int x4)]) X dd_Mo_work_28 (by decide) rfl ?_
    refine z_aload_n X dd_Mo_work_30 rfl 1 rfl ?_
    obtain ⟨v6, ev6, h⟩ := zb h
    refine z_get (j := 51) X dd_Mo_work_31 kc_12 ki_12 (by decide) km_1572 (zgr_v ev6) ?_
    refine z_iload_n X dd_Mo_work_34 rfl 2 rfl ?_
    refine z_iload X dd_Mo_work_35 4 rfl ?_
    refine z_iadd X dd_Mo_work_37 ?_
    obtain ⟨v7, ev7, h⟩ := zb h
    refine z_iaload X dd_Mo_work_38 rfl ev7 ?_
    refine z_istore (lv' := [(6, .int v7), (5, .int v5), (0, .ref x0), (2, .int x2), (3, .int x3), (4, .int x4)]) X dd_Mo_work_39 (by decide) rfl ?_
    refine z_iinc (v := (x4 + 1)) (lv' := [(4, .int (x4 + 1)), (6, .int v7), (5, .int v5), (0, .ref x0), (2, .int x2), (3, .int x3)]) X dd_Mo_work_41 5 rfl rfl (by decide) rfl ?_
    refine z_iload X dd_Mo_work_44 2 rfl ?_
    refine z_iconst (v := 3) X dd_Mo_work_46 (by decide) ?_
    refine z_icmp_gt (tgt := 125) X dd_Mo_work_47 (by decide) (fun q8 => ?_) (fun q8 => ?_)
    · rw [if_pos q8] at h
      refine z_iload X dd_Mo_work_125 2 rfl ?_
      refine z_bipush (v := 19) X dd_Mo_work_127 (by decide) ?_
      refine z_icmp_ne (tgt := 158) X dd_Mo_work_129 (by decide) (fun q9 => ?_) (fun q9 => ?_)
      · rw [if_neg q9] at h
        refine z_iload X dd_Mo_work_158 2 rfl ?_
        refine z_bipush (v := 7) X dd_Mo_work_160 (by decide) ?_
        refine z_icmp_ne (tgt := 185) X dd_Mo_work_162 (by decide) (fun q10 => ?_) (fun q10 => ?_)
        · rw [if_neg q10] at h
          refine z_iload X dd_Mo_work_185 2 rfl ?_
          refine z_bipush (v := 18) X dd_Mo_work_187 (by decide) ?_
          refine z_icmp_ne (tgt := 213) X dd_Mo_work_189 (by decide) (fun q11 => ?_) (fun q11 => ?_)
          · rw [if_neg q11] at h
            refine z_iinc (v := (x3 + (-1))) (lv' := [(3, .int (x3 + (-1))), (4, .int (x4 + 1)), (6, .int v7), (5, .int v5), (0, .ref x0), (2, .int x2)]) X dd_Mo_work_213 5 rfl rfl (by decide) rfl ?_
            refine z_aload_n X dd_Mo_work_216 rfl 4 rfl ?_
            obtain ⟨v12, ev12, h⟩ := zb h
            refine z_get (j := 76) X dd_Mo_work_217 kc_12 ki_12 (by decide) km_1597 (zgr_v ev12) ?_
            refine z_iload_n X dd_Mo_work_220 rfl 0 rfl ?_
            refine z_iconst (v := 1) X dd_Mo_work_221 (by decide) ?_
            refine z_isub X dd_Mo_work_222 ?_
            refine z_iload X dd_Mo_work_223 3 rfl ?_
            refine z_aload_n X dd_Mo_work_225 rfl 4 rfl ?_
            obtain ⟨v13, ev13, h⟩ := zb h
            refine z_get (j := 76) X dd_Mo_work_226 kc_12 ki_12 (by decide) km_1597 (zgr_v ev13) ?_
            refine z_iload_n X dd_Mo_work_229 rfl 0 rfl ?_
            refine z_iconst (v := 1) X dd_Mo_work_230 (by decide) ?_
            refine z_isub X dd_Mo_work_231 ?_
            obtain ⟨v14, ev14, h⟩ := zb h
            refine z_iaload X dd_Mo_work_232 rfl ev14 ?_
            refine z_aload_n X dd_Mo_work_233 rfl 4 rfl ?_
            obtain ⟨v15, ev15, h⟩ := zb h
            refine z_get (j := 76) X dd_Mo_work_234 kc_12 ki_12 (by decide) km_1597 (zgr_v ev15) ?_
            refine z_iload_n X dd_Mo_work_237 rfl 0 rfl ?_
            obtain ⟨v16, ev16, h⟩ := zb h
            refine z_iaload X dd_Mo_work_238 rfl ev16 ?_
            obtain ⟨q17, eq17, h⟩ := zb h
            refine z_callSi X [.int v5, .int v14, .int v16] rfl dd_Mo_work_239 (c_Mo_both l eq17) (va_cwS 3 X.1.2.2.2.2 (zg_S km_2125 km_2126 km_138 km_2127) rfl rfl rfl (by decide +kernel) ⟨Nat.le_of_ble_eq_true rfl, Nat.le_of_ble_eq_true rfl⟩) rfl (Nat.le_of_ble_eq_true rfl) ⟨Nat.le_of_ble_eq_true rfl, Nat.le_of_ble_eq_true rfl⟩ ?_
            obtain ⟨c18, ec18, h⟩ := zb h
            refine z_iastore X dd_Mo_work_242 rfl ec18 ?_
            refine z_sub [4, 5, 0, 1] rfl ?_
            exact t_Mo_work_243 X H h k0 k1
          · rw [if_pos q11] at h
            refine z_aload_n X dd_Mo_work_192 rfl 3 rfl ?_
            obtain ⟨v19, ev19, h⟩ := zb h
            refine z_get (j := 76) X dd_Mo_work_193 kc_12 ki_12 (by decide) km_1597 (zgr_v ev19) ?_
            refine z_iload_n X dd_Mo_work_196 rfl 5 rfl ?_
            refine z_iconst (v := 1) X dd_Mo_work_197 (by decide) ?_
            refine z_isub X dd_Mo_work_198 ?_
            refine z_iconst (v := 1) X dd_Mo_work_199 (by decide) ?_
            refine z_aload_n X dd_Mo_work_200 rfl 3 rfl ?_
            obtain ⟨v20, ev20, h⟩ := zb h
            refine z_get (j := 76) X dd_Mo_work_201 kc_12 ki_12 (by decide) km_1597 (zgr_v ev20) ?_
            refine z_iload_n X dd_Mo_work_204 rfl 5 rfl ?_
            refine z_iconst (v := 1) X dd_Mo_work_205 (by decide) ?_
            refine z_isub X dd_Mo_work_206 ?_
            obtain ⟨v21, ev21, h⟩ := zb h
            refine z_iaload X dd_Mo_work_207 rfl ev21 ?_
            refine z_isub X dd_Mo_work_208 ?_
            obtain ⟨c22, ec22, h⟩ := zb h
            refine z_iastore X dd_Mo_work_209 rfl ec22 ?_
            refine z_goto (tgt := 243) X dd_Mo_work_210 (by decide) ?_
            refine z_sub [3, 4, 5, 0] rfl ?_
            exact t_Mo_work_243 X H h k0 k1
        · rw [if_pos q10] at h
          refine z_aload_n X dd_Mo_work_165 rfl 3 rfl ?_
          obtain ⟨v23, ev23, h⟩ := zb h
          refine z_get (j := 76) X dd_Mo_work_166 kc_12 ki_12 (by decide) km_1597 (zgr_v ev23) ?_
          refine z_iload_n X dd_Mo_work_169 rfl 5 rfl ?_
          refine z_iconst (v := 1) X dd_Mo_work_170 (by decide) ?_
          refine z_isub X dd_Mo_work_171 ?_
          refine z_aload_n X dd_Mo_work_172 rfl 3 rfl ?_
          obtain ⟨v24, ev24, h⟩ := zb h
          refine z_get (j := 76) X dd_Mo_work_173 kc_12 ki_12 (by decide) km_1597 (zgr_v ev24) ?_
          refine z_iload_n X dd_Mo_work_176 rfl 5 rfl ?_
          refine z_iconst (v := 1) X dd_Mo_work_177 (by decide) ?_
          refine z_isub X dd_Mo_work_178 ?_
          obtain ⟨v25, ev25, h⟩ := zb h
          refine z_iaload X dd_Mo_work_179 rfl ev25 ?_
          refine z_ineg X dd_Mo_work_180 ?_
          obtain ⟨c26, ec26, h⟩ := zb h
          refine z_iastore X dd_Mo_work_181 rfl ec26 ?_
          refine z_goto (tgt := 243) X dd_Mo_work_182 (by decide) ?_
          refine z_sub [3, 4, 5, 0] rfl ?_
          exact t_Mo_work_243 X H h k0 k1
      · rw [if_pos q9] at h
        refine z_aload_n X dd_Mo_work_132 rfl 3 rfl ?_
        obtain ⟨v27, ev27, h⟩ := zb h
        refine z_get (j := 76) X dd_Mo_work_133 kc_12 ki_12 (by decide) km_1597 (zgr_v ev27) ?_
        refine z_iload_n X dd_Mo_work_136 rfl 5 rfl ?_
        refine z_aload_n X dd_Mo_work_137 rfl 3 rfl ?_
        refine z_iload X dd_Mo_work_138 1 rfl ?_
        obtain ⟨w29, ew29, h⟩ := zb h
        obtain ⟨q28, eq28, h⟩ := zb h
        refine z_callVi X [.int v7] rfl dd_Mo_work_140 (c_Mo_isWithout l eq28) (cwV 1 X.1.2.2.2.2 (zg_V km_2117 km_2119 km_116 km_138 km_2120) rfl rfl rfl (by decide +kernel) ⟨Nat.le_of_ble_eq_true rfl, Nat.le_of_ble_eq_true rfl⟩) (zob_s ew29) kc_12 rfl (Nat.le_of_ble_eq_true rfl) ⟨Nat.le_of_ble_eq_true rfl, Nat.le_of_ble_eq_true rfl⟩ ?_
        refine z_if_eq (tgt := 150) X dd_Mo_work_143 (by decide) (fun q30 => ?_) (fun q30 => ?_)
        · rw [if_pos q30] at h
          refine z_iconst (v := 0) X dd_Mo_work_150 (by decide) ?_
          refine z_sub [3, 4, 5, 0] rfl ?_
          exact t_Mo_work_151 X H h k0 k1
        · rw [if_neg q30] at h
          refine z_iconst (v := 1) X dd_Mo_work_146 (by decide) ?_
          refine z_goto (tgt := 151) X dd_Mo_work_147 (by decide) ?_
          refine z_sub [3, 4, 5, 0] rfl ?_
          exact t_Mo_work_151 X H h k0 k1
    · rw [if_neg q8] at h
      refine z_aload_n X dd_Mo_work_50 rfl 3 rfl ?_
      obtain ⟨v32, ev32, h⟩ := zb h
      refine z_get (j := 76) X dd_Mo_work_51 kc_12 ki_12 (by decide) km_1597 (zgr_v ev32) ?_
      refine z_iload_n X dd_Mo_work_54 rfl 5 rfl ?_
      refine z_iload X dd_Mo_work_55 2 rfl ?_
      refine z_if_ne (tgt := 65) X dd_Mo_work_57 (by decide) (fun q33 => ?_) (fun q33 => ?_)
      · rw [if_neg q33] at h
        refine z_iload X dd_Mo_work_65 2 rfl ?_
        refine z_iconst (v := 1) X dd_Mo_work_67 (by decide) ?_
        refine z_icmp_ne (tgt := 81) X dd_Mo_work_68 (by decide) (fun q34 => ?_) (fun q34 => ?_)
        · rw [if_neg q34] at h
          refine z_iload X dd_Mo_work_81 2 rfl ?_
          refine z_iconst (v := 2) X dd_Mo_work_83 (by decide) ?_
          refine z_icmp_ne (tgt := 97) X dd_Mo_work_84 (by decide) (fun q35 => ?_) (fun q35 => ?_)
          · rw [if_neg q35] at h
            refine z_aload_n X dd_Mo_work_97 rfl 3 rfl ?_
            obtain ⟨v36, ev36, h⟩ := zb h
            refine z_get (j := 2) X dd_Mo_work_98 kc_12 ki_12 (by decide) km_1523 (zgr_v ev36) ?_
            refine z_iconst (v := 4) X dd_Mo_work_101 (by decide) ?_
            refine z_aload_n X dd_Mo_work_102 rfl 3 rfl ?_
            obtain ⟨v37, ev37, h⟩ := zb h
            refine z_get (j := 74) X dd_Mo_work_103 kc_12 ki_12 (by decide) km_1595 (zgr_v ev37) ?_
            refine z_iload X dd_Mo_work_106 1 rfl ?_
            refine z_iconst (v := 4) X dd_Mo_work_108 (by decide) ?_
            refine z_idiv X dd_Mo_work_109 (by decide) ?_
            obtain ⟨v39, ev39, h⟩ := zb h
            refine z_iaload X dd_Mo_work_110 rfl ev39 ?_
            refine z_imul X dd_Mo_work_111 ?_
            refine z_iload X dd_Mo_work_112 1 rfl ?_
            refine z_iconst (v := 4) X dd_Mo_work_114 (by decide) ?_
            refine z_irem X dd_Mo_work_115 (by decide) ?_
            refine z_iadd X dd_Mo_work_116 ?_
            obtain ⟨v41, ev41, h⟩ := zb h
            refine z_iaload X dd_Mo_work_117 rfl ev41 ?_
            refine z_sub [3, 4, 5, 0] rfl ?_
            exact t_Mo_work_118 X H h k0 k1
          · rw [if_pos q35] at h
            refine z_aload_n X dd_Mo_work_87 rfl 3 rfl ?_
            obtain ⟨v43, ev43, h⟩ := zb h
            refine z_get (j := 75) X dd_Mo_work_88 kc_12 ki_12 (by decide) km_1596 (zgr_v ev43) ?_
            refine z_iload X dd_Mo_work_91 1 rfl ?_
            obtain ⟨v44, ev44, h⟩ := zb h
            refine z_iaload X dd_Mo_work_93 rfl ev44 ?_
            refine z_goto (tgt := 118) X dd_Mo_work_94 (by decide) ?_
            refine z_sub [3, 4, 5, 0] rfl ?_
            exact t_Mo_work_118 X H h k0 k1
        · rw [if_pos q34] at h
          refine z_aload_n X dd_Mo_work_71 rfl 3 rfl ?_
          obtain ⟨v45, ev45, h⟩ := zb h
          refine z_get (j := 74) X dd_Mo_work_72 kc_12 ki_12 (by decide) km_1595 (zgr_v ev45) ?_
          refine z_iload X dd_Mo_work_75 1 rfl ?_
          obtain ⟨v46, ev46, h⟩ := zb h
          refine z_iaload X dd_Mo_work_77 rfl ev46 ?_
          refine z_goto (tgt := 118) X dd_Mo_work_78 (by decide) ?_
          refine z_sub [3, 4, 5, 0] rfl ?_
          exact t_Mo_work_118 X H h k0 k1
      · rw [if_pos q33] at h
        refine z_iload X dd_Mo_work_60 1 rfl ?_
        refine z_goto (tgt := 118) X dd_Mo_work_62 (by decide) ?_
        refine z_sub [3, 4, 5, 0] rfl ?_
        exact t_Mo_work_118 X H h k0 k1
set_option maxRecDepth 100000 in
set_option maxHeartbeats 4000000 in
theorem t_Mo_work_5  (X : zX p s m args cd D cid B bb_Mo_work 7 rr_Mo zT) (H : zH s meth B n0 (some (.int)) "work") {nf : Nat} {x0 : Nat} {x2 : Int32} {x3 : Int32} {x4 : Int32} {c : Zc} {res : Int32 × Zc} (h : f_Mo_work_5 nf x0 x2 x3 x4 c = some res) : Zz p l e (zRm 3 68 0 0) s m args below meth cd (MQ below (zQi D cid B res.1 res.2 n0 0) args s 0 0 (fun q => B ≤ q)) D cid B 7 0 0 c 5 [(0, .ref x0), (2, .int x2), (3, .int x3), (4, .int x4)] [] := by
  unfold f_Mo_work_5 at h
  obtain ⟨b, eb, h⟩ := zb h
  refine zlp_ok (P := fun a : Nat × Int32 × Int32 × Int32 × Zc => Zz p l e (zRm 3 68 0 0) s m args below meth cd _ D cid B 7 0 0 a.2.2.2.2 5 [(0, .ref a.1), (2, .int a.2.1), (3, .int a.2.2.1), (4, .int a.2.2.2.1)] []) (G := fun b : Nat × Zc => Zz p l e (zRm 3 68 0 0) s m args below meth cd _ D cid B 7 0 0 b.2 246 [(0, .ref b.1)] []) (fun a r ha k0 k1 => u_Mo_work_5 X H ha k0 k1) nf _ b eb ?_
  refine z_aload_n X dd_Mo_work_246 rfl 0 rfl ?_
  obtain ⟨v47, ev47, h⟩ := zb h
  refine z_get (j := 76) X dd_Mo_work_247 kc_12 ki_12 (by decide) km_1597 (zgr_v ev47) ?_
  refine z_iconst (v := 0) X dd_Mo_work_250 (by decide) ?_
  obtain ⟨v48, ev48, h⟩ := zb h
  refine z_iaload X dd_Mo_work_251 rfl ev48 ?_
  obtain rfl := Option.some.inj h
  exact z_iret X H.1 H.2.1 H.2.2.1 dd_Mo_work_252
set_option maxRecDepth 100000 in
set_option maxHeartbeats 4000000 in
theorem c_Mo_work (l : Launch) {nf : Nat} {a0 : Nat} {a1 : Int32} {a2 : Int32} {c : Zc} {res : Int32 × Zc} (h : f_Mo_work nf a0 a1 a2 c = some res) : zM l yy_Mo_work ww_Mo_work 3 68 0 0 [.ref a0, .int a1, .int a2] c (fun D cid B => zQi D cid B res.1 res.2 c.length 0) := by
  refine z_met (cc := bb_Mo_work) (maxL := 7) (ret := (some (.int))) (by decide +kernel) rfl (Nat.le_of_ble_eq_true rfl) ?_
  intro p e s m args below meth cd D cid B X h1 h2 h3 h4
  have X : zX p s m args cd D cid B bb_Mo_work 7 rr_Mo zT := X
  have H : zH s meth B c.length (some (.int)) "work" := ⟨h1, h2, h4, h3⟩
  unfold f_Mo_work at h
  show Zz p l e (zRm 3 68 0 0) s m args below meth cd _ D cid B 7 0 0 c 0 [(0, .ref a0), (1, .int a1), (2, .int a2)] []
  refine z_iconst (v := 0) X dd_Mo_work_0 (by decide) ?_
  refine z_istore_n (lv' := [(3, .int 0), (0, .ref a0), (1, .int a1), (2, .int a2)]) X dd_Mo_work_1 rfl (by decide) rfl ?_
  refine z_iload_n X dd_Mo_work_2 rfl 2 rfl ?_
  refine z_istore (lv' := [(4, .int a1), (3, .int 0), (0, .ref a0), (1, .int a1), (2, .int a2)]) X dd_Mo_work_3 (by decide) rfl ?_
  refine z_sub [2, 4, 1, 0] rfl ?_
  exact t_Mo_work_5 X H h
theorem dd_Mo_holds_0 : decode bb_Mo_holds 0 = .ok (.aload_n 0, 1) := by decide +kernel
theorem dd_Mo_holds_1 : decode bb_Mo_holds 1 = .ok (.iconst 0, 1) := by decide +kernel
theorem dd_Mo_holds_2 : decode bb_Mo_holds 2 = .ok (.invokevirtual 463, 3) := by decide +kernel
theorem dd_Mo_holds_5 : decode bb_Mo_holds 5 = .ok (.ifCond .eq 44, 3) := by decide +kernel
theorem dd_Mo_holds_8 : decode bb_Mo_holds 8 = .ok (.aload_n 0, 1) := by decide +kernel
theorem dd_Mo_holds_9 : decode bb_Mo_holds 9 = .ok (.getfield 125, 3) := by decide +kernel
theorem dd_Mo_holds_12 : decode bb_Mo_holds 12 = .ok (.aload_n 0, 1) := by decide +kernel
theorem dd_Mo_holds_13 : decode bb_Mo_holds 13 = .ok (.getfield 331, 3) := by decide +kernel
theorem dd_Mo_holds_16 : decode bb_Mo_holds 16 = .ok (.iaload, 1) := by decide +kernel
theorem dd_Mo_holds_17 : decode bb_Mo_holds 17 = .ok (.ifCond .lt 28, 3) := by decide +kernel
theorem dd_Mo_holds_20 : decode bb_Mo_holds 20 = .ok (.aload_n 0, 1) := by decide +kernel
theorem dd_Mo_holds_21 : decode bb_Mo_holds 21 = .ok (.aload_n 0, 1) := by decide +kernel
theorem dd_Mo_holds_22 : decode bb_Mo_holds 22 = .ok (.getfield 125, 3) := by decide +kernel
theorem dd_Mo_holds_25 : decode bb_Mo_holds 25 = .ok (.aload_n 0, 1) := by decide +kernel
theorem dd_Mo_holds_26 : decode bb_Mo_holds 26 = .ok (.getfield 331, 3) := by decide +kernel
theorem dd_Mo_holds_29 : decode bb_Mo_holds 29 = .ok (.iaload, 1) := by decide +kernel
theorem dd_Mo_holds_30 : decode bb_Mo_holds 30 = .ok (.sipush 512, 3) := by decide +kernel
theorem dd_Mo_holds_33 : decode bb_Mo_holds 33 = .ok (.aload_n 0, 1) := by decide +kernel
theorem dd_Mo_holds_34 : decode bb_Mo_holds 34 = .ok (.getfield 331, 3) := by decide +kernel
theorem dd_Mo_holds_37 : decode bb_Mo_holds 37 = .ok (.imul, 1) := by decide +kernel
theorem dd_Mo_holds_38 : decode bb_Mo_holds 38 = .ok (.invokevirtual 485, 3) := by decide +kernel
theorem dd_Mo_holds_41 : decode bb_Mo_holds 41 = .ok (.iconst 1, 1) := by decide +kernel
theorem dd_Mo_holds_42 : decode bb_Mo_holds 42 = .ok (.if_icmp .ne 7, 3) := by decide +kernel
theorem dd_Mo_holds_45 : decode bb_Mo_holds 45 = .ok (.iconst 1, 1) := by decide +kernel
theorem dd_Mo_holds_46 : decode bb_Mo_holds 46 = .ok (.goto 4, 3) := by decide +kernel
theorem dd_Mo_holds_49 : decode bb_Mo_holds 49 = .ok (.iconst 0, 1) := by decide +kernel
theorem dd_Mo_holds_50 : decode bb_Mo_holds 50 = .ok (.ireturn, 1) := by decide +kernel
set_option maxRecDepth 100000 in
set_option maxHeartbeats 4000000 in
theorem t_Mo_holds_50  (X : zX p s m args cd D cid B bb_Mo_holds 1 rr_Mo zT) (H : zH s meth B n0 (some (.boolean)) "holds") {nf : Nat} {s0 : Int32} {c : Zc} {res : Int32 × Zc} (h : f_Mo_holds_50 nf s0 c = some res) : Zz p l e (zRm 4 94 0 0) s m args below meth cd (MQ below (zQi D cid B res.1 res.2 n0 0) args s 0 0 (fun q => B ≤ q)) D cid B 1 0 0 c 50 [] [.int s0] := by
  unfold f_Mo_holds_50 at h
  obtain ⟨hz, h⟩ := zrz_s h
  obtain rfl := h
  exact z_zret X H.1 (zn_z hz) H.2.1 H.2.2.1 dd_Mo_holds_50
set_option maxRecDepth 100000 in
set_option maxHeartbeats 4000000 in
theorem t_Mo_holds_49  (X : zX p s m args cd D cid B bb_Mo_holds 1 rr_Mo zT) (H : zH s meth B n0 (some (.boolean)) "holds") {nf : Nat}  {c : Zc} {res : Int32 × Zc} (h : f_Mo_holds_49 nf  c = some res) : Zz p l e (zRm 4 94 0 0) s m args below meth cd (MQ below (zQi D cid B res.1 res.2 n0 0) args s 0 0 (fun q => B ≤ q)) D cid B 1 0 0 c 49 [] [] := by
  unfold f_Mo_holds_49 at h
  refine z_iconst (v := 0) X dd_Mo_holds_49 (by decide) ?_
  exact t_Mo_holds_50 X H h
set_option maxRecDepth 100000 in
set_option maxHeartbeats 4000000 in
theorem t_Mo_holds_45  (X : zX p s m args cd D cid B bb_Mo_holds 1 rr_Mo zT) (H : zH s meth B n0 (some (.boolean)) "holds") {nf : Nat}  {c : Zc} {res : Int32 × Zc} (h : f_Mo_holds_45 nf  c = some res) : Zz p l e (zRm 4 94 0 0) s m args below meth cd (MQ below (zQi D cid B res.1 res.2 n0 0) args s 0 0 (fun q => B ≤ q)) D cid B 1 0 0 c 45 [] [] := by
  unfold f_Mo_holds_45 at h
  refine z_iconst (v := 1) X dd_Mo_holds_45 (by decide) ?_
  refine z_goto (tgt := 50) X dd_Mo_holds_46 (by decide) ?_
  exact t_Mo_holds_50 X H h
set_option maxRecDepth 100000 in
set_option maxHeartbeats 4000000 in
theorem c_Mo_holds (l : Launch) {nf : Nat} {a0 : Nat} {c : Zc} {res : Int32 × Zc} (h : f_Mo_holds nf a0 c = some res) : zM l yy_Mo_holds ww_Mo_holds 4 94 0 0 [.ref a0] c (fun D cid B => zQi D cid B res.1 res.2 c.length 0) := by
  refine z_met (cc := bb_Mo_holds) (maxL := 1) (ret := (some (.boolean))) (by decide +kernel) rfl (Nat.le_of_ble_eq_true rfl) ?_
  intro p e s m args below meth cd D cid B X h1 h2 h3 h4
  have X : zX p s m args cd D cid B bb_Mo_holds 1 rr_Mo zT := X
  have H : zH s meth B c.length (some (.boolean)) "holds" := ⟨h1, h2, h4, h3⟩
  unfold f_Mo_holds at h
  show Zz p l e (zRm 4 94 0 0) s m args below meth cd _ D cid B 1 0 0 c 0 [(0, .ref a0)] []
  refine z_aload_n X dd_Mo_holds_0 rfl 0 rfl ?_
  refine z_iconst (v := 0) X dd_Mo_holds_1 (by decide) ?_
  obtain ⟨w2, ew2, h⟩ := zb h
  obtain ⟨q1, eq1, h⟩ := zb h
  refine z_callVi X [.int 0] rfl dd_Mo_holds_2 (c_Mo_fits l eq1) (cwV 1 X.1.2.2.2.2 (zg_V km_2105 km_2107 km_113 km_138 km_2108) rfl rfl rfl (by decide +kernel) ⟨Nat.le_of_ble_eq_true rfl, Nat.le_of_ble_eq_true rfl⟩) (zob_s ew2) kc_12 rfl (Nat.le_of_ble_eq_true rfl) ⟨Nat.le_of_ble_eq_true rfl, Nat.le_of_ble_eq_true rfl⟩ ?_
  refine z_if_eq (tgt := 49) X dd_Mo_holds_5 (by decide) (fun q3 => ?_) (fun q3 => ?_)
  · rw [if_pos q3] at h
    refine z_sub [] rfl ?_
    exact t_Mo_holds_49 X H h
  · rw [if_neg q3] at h
    refine z_aload_n X dd_Mo_holds_8 rfl 0 rfl ?_
    obtain ⟨v4, ev4, h⟩ := zb h
    refine z_get (j := 46) X dd_Mo_holds_9 kc_12 ki_12 (by decide) km_1567 (zgr_v ev4) ?_
    refine z_aload_n X dd_Mo_holds_12 rfl 0 rfl ?_
    obtain ⟨v5, ev5, h⟩ := zb h
    refine z_get (j := 25) X dd_Mo_holds_13 kc_12 ki_12 (by decide) km_1546 (zgi_v ev5) ?_
    obtain ⟨v6, ev6, h⟩ := zb h
    refine z_iaload X dd_Mo_holds_16 rfl ev6 ?_
    refine z_if_lt (tgt := 45) X dd_Mo_holds_17 (by decide) (fun q7 => ?_) (fun q7 => ?_)
    · rw [if_pos q7] at h
      refine z_sub [] rfl ?_
      exact t_Mo_holds_45 X H h
    · rw [if_neg q7] at h
      refine z_aload_n X dd_Mo_holds_20 rfl 0 rfl ?_
      refine z_aload_n X dd_Mo_holds_21 rfl 0 rfl ?_
      obtain ⟨v8, ev8, h⟩ := zb h
      refine z_get (j := 46) X dd_Mo_holds_22 kc_12 ki_12 (by decide) km_1567 (zgr_v ev8) ?_
      refine z_aload_n X dd_Mo_holds_25 rfl 0 rfl ?_
      obtain ⟨v9, ev9, h⟩ := zb h
      refine z_get (j := 25) X dd_Mo_holds_26 kc_12 ki_12 (by decide) km_1546 (zgi_v ev9) ?_
      obtain ⟨v10, ev10, h⟩ := zb h
      refine z_iaload X dd_Mo_holds_29 rfl ev10 ?_
      refine z_sipush (v := 512) X dd_Mo_holds_30 (by decide) ?_
      refine z_aload_n X dd_Mo_holds_33 rfl 0 rfl ?_
      obtain ⟨v11, ev11, h⟩ := zb h
      refine z_get (j := 25) X dd_Mo_holds_34 kc_12 ki_12 (by decide) km_1546 (zgi_v ev11) ?_
      refine z_imul X dd_Mo_holds_37 ?_
      obtain ⟨w13, ew13, h⟩ := zb h
      obtain ⟨q12, eq12, h⟩ := zb h
      refine z_callVi X [.int v10, .int (512 * v11)] rfl dd_Mo_holds_38 (c_Mo_work l eq12) (cwV 2 X.1.2.2.2.2 (zg_V km_2113 km_2115 km_115 km_138 km_2116) rfl rfl rfl (by decide +kernel) ⟨Nat.le_of_ble_eq_true rfl, Nat.le_of_ble_eq_true rfl⟩) (zob_s ew13) kc_12 rfl (Nat.le_of_ble_eq_true rfl) ⟨Nat.le_of_ble_eq_true rfl, Nat.le_of_ble_eq_true rfl⟩ ?_
      refine z_iconst (v := 1) X dd_Mo_holds_41 (by decide) ?_
      refine z_icmp_ne (tgt := 49) X dd_Mo_holds_42 (by decide) (fun q14 => ?_) (fun q14 => ?_)
      · rw [if_neg q14] at h
        refine z_sub [] rfl ?_
        exact t_Mo_holds_49 X H h
      · rw [if_pos q14] at h
        refine z_sub [] rfl ?_
        exact t_Mo_holds_45 X H h
theorem dd_Mo_firstRow_0 : decode bb_Mo_firstRow 0 = .ok (.iconst 0, 1) := by decide +kernel
theorem dd_Mo_firstRow_1 : decode bb_Mo_firstRow 1 = .ok (.istore_n 1, 1) := by decide +kernel
theorem dd_Mo_firstRow_2 : decode bb_Mo_firstRow 2 = .ok (.iload_n 1, 1) := by decide +kernel
theorem dd_Mo_firstRow_3 : decode bb_Mo_firstRow 3 = .ok (.bipush 8, 2) := by decide +kernel
theorem dd_Mo_firstRow_5 : decode bb_Mo_firstRow 5 = .ok (.if_icmp .ge 16, 3) := by decide +kernel
theorem dd_Mo_firstRow_8 : decode bb_Mo_firstRow 8 = .ok (.aload_n 0, 1) := by decide +kernel
theorem dd_Mo_firstRow_9 : decode bb_Mo_firstRow 9 = .ok (.getfield 191, 3) := by decide +kernel
theorem dd_Mo_firstRow_12 : decode bb_Mo_firstRow 12 = .ok (.iload_n 1, 1) := by decide +kernel
theorem dd_Mo_firstRow_13 : decode bb_Mo_firstRow 13 = .ok (.iconst 0, 1) := by decide +kernel
theorem dd_Mo_firstRow_14 : decode bb_Mo_firstRow 14 = .ok (.iastore, 1) := by decide +kernel
theorem dd_Mo_firstRow_15 : decode bb_Mo_firstRow 15 = .ok (.iinc 1 1, 3) := by decide +kernel
theorem dd_Mo_firstRow_18 : decode bb_Mo_firstRow 18 = .ok (.goto (-16), 3) := by decide +kernel
theorem dd_Mo_firstRow_21 : decode bb_Mo_firstRow 21 = .ok (.return_, 1) := by decide +kernel
set_option maxRecDepth 100000 in
set_option maxHeartbeats 4000000 in
theorem u_Mo_firstRow_2  (X : zX p s m args cd D cid B bb_Mo_firstRow 2 rr_Mo zT) (H : zH s meth B n0 none "firstRow") {nf : Nat} {x0 : Nat} {x1 : Int32} {c : Zc} {r : (Nat × Int32 × Zc) ⊕ (Zc)} (h : g_Mo_firstRow_2 nf x0 x1 c = some r) (k0 : ∀ a, r = .inl a → (fun a : Nat × Int32 × Zc => Zz p l e (zRm 0 0 0 0) s m args below meth cd Q D cid B 2 0 0 a.2.2 2 [(0, .ref a.1), (1, .int a.2.1)] []) a) (k1 : ∀ b, r = .inr b → (fun b : Zc => Zz p l e (zRm 0 0 0 0) s m args below meth cd Q D cid B 2 0 0 b 21 [] []) b) : Zz p l e (zRm 0 0 0 0) s m args below meth cd Q D cid B 2 0 0 c 2 [(0, .ref x0), (1, .int x1)] [] := by
  unfold g_Mo_firstRow_2 at h
  refine z_iload_n X dd_Mo_firstRow_2 rfl 1 rfl ?_
  refine z_bipush (v := 8) X dd_Mo_firstRow_3 (by decide) ?_
  refine z_icmp_ge (tgt := 21) X dd_Mo_firstRow_5 (by decide) (fun q1 => ?_) (fun q1 => ?_)
  · rw [if_pos q1] at h
    refine z_sub [] rfl ?_
    obtain rfl := Option.some.inj h
    exact k1 _ rfl
  · rw [if_neg q1] at h
    refine z_aload_n X dd_Mo_firstRow_8 rfl 0 rfl ?_
    obtain ⟨v2, ev2, h⟩ := zb h
    refine z_get (j := 74) X dd_Mo_firstRow_9 kc_12 ki_12 (by decide) km_1595 (zgr_v ev2) ?_
    refine z_iload_n X dd_Mo_firstRow_12 rfl 1 rfl ?_
    refine z_iconst (v := 0) X dd_Mo_firstRow_13 (by decide) ?_
    obtain ⟨c3, ec3, h⟩ := zb h
    refine z_iastore X dd_Mo_firstRow_14 rfl ec3 ?_
    refine z_iinc (v := (x1 + 1)) (lv' := [(1, .int (x1 + 1)), (0, .ref x0)]) X dd_Mo_firstRow_15 1 rfl rfl (by decide) rfl ?_
    refine z_goto (tgt := 2) X dd_Mo_firstRow_18 (by decide) ?_
    refine z_sub [1, 0] rfl ?_
    obtain rfl := Option.some.inj h
    exact k0 _ rfl
set_option maxRecDepth 100000 in
set_option maxHeartbeats 4000000 in
theorem t_Mo_firstRow_2  (X : zX p s m args cd D cid B bb_Mo_firstRow 2 rr_Mo zT) (H : zH s meth B n0 none "firstRow") {nf : Nat} {x0 : Nat} {x1 : Int32} {c : Zc} {res : Zc} (h : f_Mo_firstRow_2 nf x0 x1 c = some res) : Zz p l e (zRm 0 0 0 0) s m args below meth cd (MQ below (zQv D cid B res n0 0) args s 0 0 (fun q => B ≤ q)) D cid B 2 0 0 c 2 [(0, .ref x0), (1, .int x1)] [] := by
  unfold f_Mo_firstRow_2 at h
  obtain ⟨b, eb, h⟩ := zb h
  refine zlp_ok (P := fun a : Nat × Int32 × Zc => Zz p l e (zRm 0 0 0 0) s m args below meth cd _ D cid B 2 0 0 a.2.2 2 [(0, .ref a.1), (1, .int a.2.1)] []) (G := fun b : Zc => Zz p l e (zRm 0 0 0 0) s m args below meth cd _ D cid B 2 0 0 b 21 [] []) (fun a r ha k0 k1 => u_Mo_firstRow_2 X H ha k0 k1) nf _ b eb ?_
  obtain rfl := Option.some.inj h
  exact z_vret X H.1 H.2.1 H.2.2.1 dd_Mo_firstRow_21
set_option maxRecDepth 100000 in
set_option maxHeartbeats 4000000 in
theorem c_Mo_firstRow (l : Launch) {nf : Nat} {a0 : Nat} {c : Zc} {res : Zc} (h : f_Mo_firstRow nf a0 c = some res) : zM l yy_Mo_firstRow ww_Mo_firstRow 0 0 0 0 [.ref a0] c (fun D cid B => zQv D cid B res c.length 0) := by
  refine z_met (cc := bb_Mo_firstRow) (maxL := 2) (ret := none) (by decide +kernel) rfl (Nat.le_of_ble_eq_true rfl) ?_
  intro p e s m args below meth cd D cid B X h1 h2 h3 h4
  have X : zX p s m args cd D cid B bb_Mo_firstRow 2 rr_Mo zT := X
  have H : zH s meth B c.length none "firstRow" := ⟨h1, h2, h4, h3⟩
  unfold f_Mo_firstRow at h
  show Zz p l e (zRm 0 0 0 0) s m args below meth cd _ D cid B 2 0 0 c 0 [(0, .ref a0)] []
  refine z_iconst (v := 0) X dd_Mo_firstRow_0 (by decide) ?_
  refine z_istore_n (lv' := [(1, .int 0), (0, .ref a0)]) X dd_Mo_firstRow_1 rfl (by decide) rfl ?_
  refine z_sub [1, 0] rfl ?_
  exact t_Mo_firstRow_2 X H h
theorem dd_Mo_round_0 : decode bb_Mo_round 0 = .ok (.iconst 0, 1) := by decide +kernel
theorem dd_Mo_round_1 : decode bb_Mo_round 1 = .ok (.istore_n 1, 1) := by decide +kernel
theorem dd_Mo_round_2 : decode bb_Mo_round 2 = .ok (.iload_n 1, 1) := by decide +kernel
theorem dd_Mo_round_3 : decode bb_Mo_round 3 = .ok (.sipush 1024, 3) := by decide +kernel
theorem dd_Mo_round_6 : decode bb_Mo_round 6 = .ok (.if_icmp .ge 16, 3) := by decide +kernel
theorem dd_Mo_round_9 : decode bb_Mo_round 9 = .ok (.aload_n 0, 1) := by decide +kernel
theorem dd_Mo_round_10 : decode bb_Mo_round 10 = .ok (.getfield 200, 3) := by decide +kernel
theorem dd_Mo_round_13 : decode bb_Mo_round 13 = .ok (.iload_n 1, 1) := by decide +kernel
theorem dd_Mo_round_14 : decode bb_Mo_round 14 = .ok (.iconst 0, 1) := by decide +kernel
theorem dd_Mo_round_15 : decode bb_Mo_round 15 = .ok (.iastore, 1) := by decide +kernel
theorem dd_Mo_round_16 : decode bb_Mo_round 16 = .ok (.iinc 1 1, 3) := by decide +kernel
theorem dd_Mo_round_19 : decode bb_Mo_round 19 = .ok (.goto (-17), 3) := by decide +kernel
theorem dd_Mo_round_22 : decode bb_Mo_round 22 = .ok (.iconst 4, 1) := by decide +kernel
theorem dd_Mo_round_23 : decode bb_Mo_round 23 = .ok (.istore_n 1, 1) := by decide +kernel
theorem dd_Mo_round_24 : decode bb_Mo_round 24 = .ok (.iload_n 1, 1) := by decide +kernel
theorem dd_Mo_round_25 : decode bb_Mo_round 25 = .ok (.bipush 8, 2) := by decide +kernel
theorem dd_Mo_round_27 : decode bb_Mo_round 27 = .ok (.if_icmp .ge 111, 3) := by decide +kernel
theorem dd_Mo_round_30 : decode bb_Mo_round 30 = .ok (.aload_n 0, 1) := by decide +kernel
theorem dd_Mo_round_31 : decode bb_Mo_round 31 = .ok (.getfield 59, 3) := by decide +kernel
theorem dd_Mo_round_34 : decode bb_Mo_round 34 = .ok (.iload_n 1, 1) := by decide +kernel
theorem dd_Mo_round_35 : decode bb_Mo_round 35 = .ok (.baload, 1) := by decide +kernel
theorem dd_Mo_round_36 : decode bb_Mo_round 36 = .ok (.ifCond .eq 96, 3) := by decide +kernel
theorem dd_Mo_round_39 : decode bb_Mo_round 39 = .ok (.aload_n 0, 1) := by decide +kernel
theorem dd_Mo_round_40 : decode bb_Mo_round 40 = .ok (.getfield 450, 3) := by decide +kernel
theorem dd_Mo_round_43 : decode bb_Mo_round 43 = .ok (.ifCond .le 89, 3) := by decide +kernel
theorem dd_Mo_round_46 : decode bb_Mo_round 46 = .ok (.aload_n 0, 1) := by decide +kernel
theorem dd_Mo_round_47 : decode bb_Mo_round 47 = .ok (.aload_n 0, 1) := by decide +kernel
theorem dd_Mo_round_48 : decode bb_Mo_round 48 = .ok (.getfield 56, 3) := by decide +kernel
theorem dd_Mo_round_51 : decode bb_Mo_round 51 = .ok (.iload_n 1, 1) := by decide +kernel
theorem dd_Mo_round_52 : decode bb_Mo_round 52 = .ok (.iaload, 1) := by decide +kernel
theorem dd_Mo_round_53 : decode bb_Mo_round 53 = .ok (.putfield 331, 3) := by decide +kernel
theorem dd_Mo_round_56 : decode bb_Mo_round 56 = .ok (.aload_n 0, 1) := by decide +kernel
theorem dd_Mo_round_57 : decode bb_Mo_round 57 = .ok (.invokevirtual 503, 3) := by decide +kernel
theorem dd_Mo_round_60 : decode bb_Mo_round 60 = .ok (.aload_n 0, 1) := by decide +kernel
theorem dd_Mo_round_61 : decode bb_Mo_round 61 = .ok (.invokevirtual 506, 3) := by decide +kernel
theorem dd_Mo_round_64 : decode bb_Mo_round 64 = .ok (.iconst 1, 1) := by decide +kernel
theorem dd_Mo_round_65 : decode bb_Mo_round 65 = .ok (.istore_n 2, 1) := by decide +kernel
theorem dd_Mo_round_66 : decode bb_Mo_round 66 = .ok (.iload_n 2, 1) := by decide +kernel
theorem dd_Mo_round_67 : decode bb_Mo_round 67 = .ok (.ifCond .eq 65, 3) := by decide +kernel
theorem dd_Mo_round_70 : decode bb_Mo_round 70 = .ok (.aload_n 0, 1) := by decide +kernel
theorem dd_Mo_round_71 : decode bb_Mo_round 71 = .ok (.invokevirtual 509, 3) := by decide +kernel
theorem dd_Mo_round_74 : decode bb_Mo_round 74 = .ok (.ifCond .eq 49, 3) := by decide +kernel
theorem dd_Mo_round_77 : decode bb_Mo_round 77 = .ok (.aload_n 0, 1) := by decide +kernel
theorem dd_Mo_round_78 : decode bb_Mo_round 78 = .ok (.getfield 200, 3) := by decide +kernel
theorem dd_Mo_round_81 : decode bb_Mo_round 81 = .ok (.sipush 256, 3) := by decide +kernel
theorem dd_Mo_round_84 : decode bb_Mo_round 84 = .ok (.iload_n 1, 1) := by decide +kernel
theorem dd_Mo_round_85 : decode bb_Mo_round 85 = .ok (.iconst 4, 1) := by decide +kernel
theorem dd_Mo_round_86 : decode bb_Mo_round 86 = .ok (.isub, 1) := by decide +kernel
theorem dd_Mo_round_87 : decode bb_Mo_round 87 = .ok (.imul, 1) := by decide +kernel
theorem dd_Mo_round_88 : decode bb_Mo_round 88 = .ok (.bipush 16, 2) := by decide +kernel
theorem dd_Mo_round_90 : decode bb_Mo_round 90 = .ok (.aload_n 0, 1) := by decide +kernel
theorem dd_Mo_round_91 : decode bb_Mo_round 91 = .ok (.getfield 191, 3) := by decide +kernel
theorem dd_Mo_round_94 : decode bb_Mo_round 94 = .ok (.aload_n 0, 1) := by decide +kernel
theorem dd_Mo_round_95 : decode bb_Mo_round 95 = .ok (.getfield 131, 3) := by decide +kernel
theorem dd_Mo_round_98 : decode bb_Mo_round 98 = .ok (.aload_n 0, 1) := by decide +kernel
theorem dd_Mo_round_99 : decode bb_Mo_round 99 = .ok (.getfield 331, 3) := by decide +kernel
theorem dd_Mo_round_102 : decode bb_Mo_round 102 = .ok (.iaload, 1) := by decide +kernel
theorem dd_Mo_round_103 : decode bb_Mo_round 103 = .ok (.iaload, 1) := by decide +kernel
theorem dd_Mo_round_104 : decode bb_Mo_round 104 = .ok (.imul, 1) := by decide +kernel
theorem dd_Mo_round_105 : decode bb_Mo_round 105 = .ok (.iadd, 1) := by decide +kernel
theorem dd_Mo_round_106 : decode bb_Mo_round 106 = .ok (.aload_n 0, 1) := by decide +kernel
theorem dd_Mo_round_107 : decode bb_Mo_round 107 = .ok (.getfield 191, 3) := by decide +kernel
theorem dd_Mo_round_110 : decode bb_Mo_round 110 = .ok (.aload_n 0, 1) := by decide +kernel
theorem dd_Mo_round_111 : decode bb_Mo_round 111 = .ok (.getfield 134, 3) := by decide +kernel
theorem dd_Mo_round_114 : decode bb_Mo_round 114 = .ok (.aload_n 0, 1) := by decide +kernel
theorem dd_Mo_round_115 : decode bb_Mo_round 115 = .ok (.getfield 331, 3) := by decide +kernel
theorem dd_Mo_round_118 : decode bb_Mo_round 118 = .ok (.iaload, 1) := by decide +kernel
theorem dd_Mo_round_119 : decode bb_Mo_round 119 = .ok (.iaload, 1) := by decide +kernel
theorem dd_Mo_round_120 : decode bb_Mo_round 120 = .ok (.iadd, 1) := by decide +kernel
theorem dd_Mo_round_121 : decode bb_Mo_round 121 = .ok (.iconst 1, 1) := by decide +kernel
theorem dd_Mo_round_122 : decode bb_Mo_round 122 = .ok (.iastore, 1) := by decide +kernel
theorem dd_Mo_round_123 : decode bb_Mo_round 123 = .ok (.aload_n 0, 1) := by decide +kernel
theorem dd_Mo_round_124 : decode bb_Mo_round 124 = .ok (.iconst 0, 1) := by decide +kernel
theorem dd_Mo_round_125 : decode bb_Mo_round 125 = .ok (.invokevirtual 466, 3) := by decide +kernel
theorem dd_Mo_round_128 : decode bb_Mo_round 128 = .ok (.istore_n 2, 1) := by decide +kernel
theorem dd_Mo_round_129 : decode bb_Mo_round 129 = .ok (.goto (-63), 3) := by decide +kernel
theorem dd_Mo_round_132 : decode bb_Mo_round 132 = .ok (.iinc 1 1, 3) := by decide +kernel
theorem dd_Mo_round_135 : decode bb_Mo_round 135 = .ok (.goto (-111), 3) := by decide +kernel
theorem dd_Mo_round_138 : decode bb_Mo_round 138 = .ok (.iconst 0, 1) := by decide +kernel
theorem dd_Mo_round_139 : decode bb_Mo_round 139 = .ok (.istore_n 1, 1) := by decide +kernel
theorem dd_Mo_round_140 : decode bb_Mo_round 140 = .ok (.iconst 0, 1) := by decide +kernel
theorem dd_Mo_round_141 : decode bb_Mo_round 141 = .ok (.istore_n 2, 1) := by decide +kernel
theorem dd_Mo_round_142 : decode bb_Mo_round 142 = .ok (.iload_n 2, 1) := by decide +kernel
theorem dd_Mo_round_143 : decode bb_Mo_round 143 = .ok (.sipush 1024, 3) := by decide +kernel
theorem dd_Mo_round_146 : decode bb_Mo_round 146 = .ok (.if_icmp .ge 55, 3) := by decide +kernel
theorem dd_Mo_round_149 : decode bb_Mo_round 149 = .ok (.iload_n 1, 1) := by decide +kernel
theorem dd_Mo_round_150 : decode bb_Mo_round 150 = .ok (.aload_n 0, 1) := by decide +kernel
theorem dd_Mo_round_151 : decode bb_Mo_round 151 = .ok (.getfield 200, 3) := by decide +kernel
theorem dd_Mo_round_154 : decode bb_Mo_round 154 = .ok (.iload_n 2, 1) := by decide +kernel
theorem dd_Mo_round_155 : decode bb_Mo_round 155 = .ok (.iaload, 1) := by decide +kernel
theorem dd_Mo_round_156 : decode bb_Mo_round 156 = .ok (.aload_n 0, 1) := by decide +kernel
theorem dd_Mo_round_157 : decode bb_Mo_round 157 = .ok (.getfield 32, 3) := by decide +kernel
theorem dd_Mo_round_160 : decode bb_Mo_round 160 = .ok (.sipush 2048, 3) := by decide +kernel
theorem dd_Mo_round_163 : decode bb_Mo_round 163 = .ok (.iload_n 2, 1) := by decide +kernel
theorem dd_Mo_round_164 : decode bb_Mo_round 164 = .ok (.iadd, 1) := by decide +kernel
theorem dd_Mo_round_165 : decode bb_Mo_round 165 = .ok (.iaload, 1) := by decide +kernel
theorem dd_Mo_round_166 : decode bb_Mo_round 166 = .ok (.if_icmp .le 7, 3) := by decide +kernel
theorem dd_Mo_round_169 : decode bb_Mo_round 169 = .ok (.iconst 1, 1) := by decide +kernel
theorem dd_Mo_round_170 : decode bb_Mo_round 170 = .ok (.goto 4, 3) := by decide +kernel
theorem dd_Mo_round_173 : decode bb_Mo_round 173 = .ok (.iconst 0, 1) := by decide +kernel
theorem dd_Mo_round_174 : decode bb_Mo_round 174 = .ok (.ior, 1) := by decide +kernel
theorem dd_Mo_round_175 : decode bb_Mo_round 175 = .ok (.istore_n 1, 1) := by decide +kernel
theorem dd_Mo_round_176 : decode bb_Mo_round 176 = .ok (.aload_n 0, 1) := by decide +kernel
theorem dd_Mo_round_177 : decode bb_Mo_round 177 = .ok (.getfield 32, 3) := by decide +kernel
theorem dd_Mo_round_180 : decode bb_Mo_round 180 = .ok (.sipush 2048, 3) := by decide +kernel
theorem dd_Mo_round_183 : decode bb_Mo_round 183 = .ok (.iload_n 2, 1) := by decide +kernel
theorem dd_Mo_round_184 : decode bb_Mo_round 184 = .ok (.iadd, 1) := by decide +kernel
theorem dd_Mo_round_185 : decode bb_Mo_round 185 = .ok (.dup2, 1) := by decide +kernel
theorem dd_Mo_round_186 : decode bb_Mo_round 186 = .ok (.iaload, 1) := by decide +kernel
theorem dd_Mo_round_187 : decode bb_Mo_round 187 = .ok (.aload_n 0, 1) := by decide +kernel
theorem dd_Mo_round_188 : decode bb_Mo_round 188 = .ok (.getfield 200, 3) := by decide +kernel
theorem dd_Mo_round_191 : decode bb_Mo_round 191 = .ok (.iload_n 2, 1) := by decide +kernel
theorem dd_Mo_round_192 : decode bb_Mo_round 192 = .ok (.iaload, 1) := by decide +kernel
theorem dd_Mo_round_193 : decode bb_Mo_round 193 = .ok (.ior, 1) := by decide +kernel
theorem dd_Mo_round_194 : decode bb_Mo_round 194 = .ok (.iastore, 1) := by decide +kernel
theorem dd_Mo_round_195 : decode bb_Mo_round 195 = .ok (.iinc 2 1, 3) := by decide +kernel
theorem dd_Mo_round_198 : decode bb_Mo_round 198 = .ok (.goto (-56), 3) := by decide +kernel
theorem dd_Mo_round_201 : decode bb_Mo_round 201 = .ok (.iload_n 1, 1) := by decide +kernel
theorem dd_Mo_round_202 : decode bb_Mo_round 202 = .ok (.ireturn, 1) := by decide +kernel
set_option maxRecDepth 100000 in
set_option maxHeartbeats 4000000 in
theorem u_Mo_round_2  (X : zX p s m args cd D cid B bb_Mo_round 3 rr_Mo zT) (H : zH s meth B n0 (some (.boolean)) "round") {nf : Nat} {x0 : Nat} {x1 : Int32} {c : Zc} {r : (Nat × Int32 × Zc) ⊕ (Nat × Zc)} (h : g_Mo_round_2 nf x0 x1 c = some r) (k0 : ∀ a, r = .inl a → (fun a : Nat × Int32 × Zc => Zz p l e (zRm 5 114 0 0) s m args below meth cd Q D cid B 3 0 0 a.2.2 2 [(0, .ref a.1), (1, .int a.2.1)] []) a) (k1 : ∀ b, r = .inr b → (fun b : Nat × Zc => Zz p l e (zRm 5 114 0 0) s m args below meth cd Q D cid B 3 0 0 b.2 22 [(0, .ref b.1)] []) b) : Zz p l e (zRm 5 114 0 0) s m args below meth cd Q D cid B 3 0 0 c 2 [(0, .ref x0), (1, .int x1)] [] := by
  unfold g_Mo_round_2 at h
  refine z_iload_n X dd_Mo_round_2 rfl 1 rfl ?_
  refine z_sipush (v := 1024) X dd_Mo_round_3 (by decide) ?_
  refine z_icmp_ge (tgt := 22) X dd_Mo_round_6 (by decide) (fun q1 => ?_) (fun q1 => ?_)
  · rw [if_pos q1] at h
    refine z_sub [0] rfl ?_
    obtain rfl := Option.some.inj h
    exact k1 _ rfl
  · rw [if_neg q1] at h
    refine z_aload_n X dd_Mo_round_9 rfl 0 rfl ?_
    obtain ⟨v2, ev2, h⟩ := zb h
    refine z_get (j := 77) X dd_Mo_round_10 kc_12 ki_12 (by decide) km_1598 (zgr_v ev2) ?_
    refine z_iload_n X dd_Mo_round_13 rfl 1 rfl ?_
    refine z_iconst (v := 0) X dd_Mo_round_14 (by decide) ?_
    obtain ⟨c3, ec3, h⟩ := zb h
    refine z_iastore X dd_Mo_round_15 rfl ec3 ?_
    refine z_iinc (v := (x1 + 1)) (lv' := [(1, .int (x1 + 1)), (0, .ref x0)]) X dd_Mo_round_16 1 rfl rfl (by decide) rfl ?_
    refine z_goto (tgt := 2) X dd_Mo_round_19 (by decide) ?_
    refine z_sub [1, 0] rfl ?_
    obtain rfl := Option.some.inj h
    exact k0 _ rfl
set_option maxRecDepth 100000 in
set_option maxHeartbeats 4000000 in
theorem t_Mo_round_132  (X : zX p s m args cd D cid B bb_Mo_round 3 rr_Mo zT) (H : zH s meth B n0 (some (.boolean)) "round") {nf : Nat} {x0 : Nat} {x1 : Int32} {c : Zc} {r : (Nat × Int32 × Zc) ⊕ (Nat × Zc)} (h : f_Mo_round_132 nf x0 x1 c = some r) (k0 : ∀ a, r = .inl a → (fun a : Nat × Int32 × Zc => Zz p l e (zRm 5 114 0 0) s m args below meth cd Q D cid B 3 0 0 a.2.2 24 [(0, .ref a.1), (1, .int a.2.1)] []) a) (k1 : ∀ b, r = .inr b → (fun b : Nat × Zc => Zz p l e (zRm 5 114 0 0) s m args below meth cd Q D cid B 3 0 0 b.2 138 [(0, .ref b.1)] []) b) : Zz p l e (zRm 5 114 0 0) s m args below meth cd Q D cid B 3 0 0 c 132 [(0, .ref x0), (1, .int x1)] [] := by
  unfold f_Mo_round_132 at h
  refine z_iinc (v := (x1 + 1)) (lv' := [(1, .int (x1 + 1)), (0, .ref x0)]) X dd_Mo_round_132 1 rfl rfl (by decide) rfl ?_
  refine z_goto (tgt := 24) X dd_Mo_round_135 (by decide) ?_
  refine z_sub [1, 0] rfl ?_
  obtain rfl := Option.some.inj h
  exact k0 _ rfl
set_option maxRecDepth 100000 in
set_option maxHeartbeats 4000000 in
theorem t_Mo_round_123  (X : zX p s m args cd D cid B bb_Mo_round 3 rr_Mo zT) (H : zH s meth B n0 (some (.boolean)) "round") {nf : Nat} {x0 : Nat} {x1 : Int32} {c : Zc} {r : (Nat × Int32 × Int32 × Zc) ⊕ (Nat × Int32 × Zc)} (h : f_Mo_round_123 nf x0 x1 c = some r) (k0 : ∀ a, r = .inl a → (fun a : Nat × Int32 × Int32 × Zc => Zz p l e (zRm 5 114 0 0) s m args below meth cd Q D cid B 3 0 0 a.2.2.2 66 [(0, .ref a.1), (1, .int a.2.1), (2, .int a.2.2.1)] []) a) (k1 : ∀ b, r = .inr b → (fun b : Nat × Int32 × Zc => Zz p l e (zRm 5 114 0 0) s m args below meth cd Q D cid B 3 0 0 b.2.2 132 [(0, .ref b.1), (1, .int b.2.1)] []) b) : Zz p l e (zRm 5 114 0 0) s m args below meth cd Q D cid B 3 0 0 c 123 [(0, .ref x0), (1, .int x1)] [] := by
  unfold f_Mo_round_123 at h
  refine z_aload_n X dd_Mo_round_123 rfl 0 rfl ?_
  refine z_iconst (v := 0) X dd_Mo_round_124 (by decide) ?_
  obtain ⟨w22, ew22, h⟩ := zb h
  obtain ⟨q21, eq21, h⟩ := zb h
  refine z_callVi X [.int 0] rfl dd_Mo_round_125 (c_Mo_goesOn l eq21) (cwV 1 X.1.2.2.2.2 (zg_V km_2121 km_2123 km_117 km_138 km_2124) rfl rfl rfl (by decide +kernel) ⟨Nat.le_of_ble_eq_true rfl, Nat.le_of_ble_eq_true rfl⟩) (zob_s ew22) kc_12 rfl (Nat.le_of_ble_eq_true rfl) ⟨Nat.le_of_ble_eq_true rfl, Nat.le_of_ble_eq_true rfl⟩ ?_
  refine z_istore_n (lv' := [(2, .int q21.1), (0, .ref x0), (1, .int x1)]) X dd_Mo_round_128 rfl (by decide) rfl ?_
  refine z_goto (tgt := 66) X dd_Mo_round_129 (by decide) ?_
  refine z_sub [1, 2, 0] rfl ?_
  obtain rfl := Option.some.inj h
  exact k0 _ rfl
set_option maxRecDepth 100000 in
set_option maxHeartbeats 4000000 in
theorem u_Mo_round_66  (X : zX p s m args cd D cid B bb_Mo_round 3 rr_Mo zT) (H : zH s meth B n0 (some (.boolean)) "round") {nf : Nat} {x0 : Nat} {x1 : Int32} {x2 : Int32} {c : Zc} {r : (Nat × Int32 × Int32 × Zc) ⊕ (Nat × Int32 × Zc)} (h : g_Mo_round_66 nf x0 x1 x2 c = some r) (k0 : ∀ a, r = .inl a → (fun a : Nat × Int32 × Int32 × Zc => Zz p l e (zRm 5 114 0 0) s m args below meth cd Q D cid B 3 0 0 a.2.2.2 66 [(0, .ref a.1), (1, .int a.2.1), (2, .int a.2.2.1)] []) a) (k1 : ∀ b, r = .inr b → (fun b : Nat × Int32 × Zc => Zz p l e (zRm 5 114 0 0) s m args below meth cd Q D cid B 3 0 0 b.2.2 132 [(0, .ref b.1), (1, .int b.2.1)] []) b) : Zz p l e (zRm 5 114 0 0) s m args below meth cd Q D cid B 3 0 0 c 66 [(0, .ref x0), (1, .int x1), (2, .int x2)] [] := by
  unfold g_Mo_round_66 at h
  refine z_iload_n X dd_Mo_round_66 rfl 2 rfl ?_
  refine z_if_eq (tgt := 132) X dd_Mo_round_67 (by decide) (fun q17 => ?_) (fun q17 => ?_)
  · rw [if_pos q17] at h
    refine z_sub [0, 1] rfl ?_
    obtain rfl := Option.some.inj h
    exact k1 _ rfl
  · rw [if_neg q17] at h
    refine z_aload_n X dd_Mo_round_70 rfl 0 rfl ?_
    obtain ⟨w19, ew19, h⟩ := zb h
    obtain ⟨q18, eq18, h⟩ := zb h
    refine z_callVi X [] rfl dd_Mo_round_71 (c_Mo_holds l eq18) (cwV 0 X.1.2.2.2.2 (zg_V km_2101 km_2103 km_112 km_138 km_2104) rfl rfl rfl (by decide +kernel) ⟨Nat.le_of_ble_eq_true rfl, Nat.le_of_ble_eq_true rfl⟩) (zob_s ew19) kc_12 rfl (Nat.le_of_ble_eq_true rfl) ⟨Nat.le_of_ble_eq_true rfl, Nat.le_of_ble_eq_true rfl⟩ ?_
    refine z_if_eq (tgt := 123) X dd_Mo_round_74 (by decide) (fun q20 => ?_) (fun q20 => ?_)
    · rw [if_pos q20] at h
      refine z_sub [0, 1] rfl ?_
      exact t_Mo_round_123 X H h k0 k1
    · rw [if_neg q20] at h
      refine z_aload_n X dd_Mo_round_77 rfl 0 rfl ?_
      obtain ⟨v23, ev23, h⟩ := zb h
      refine z_get (j := 77) X dd_Mo_round_78 kc_12 ki_12 (by decide) km_1598 (zgr_v ev23) ?_
      refine z_sipush (v := 256) X dd_Mo_round_81 (by decide) ?_
      refine z_iload_n X dd_Mo_round_84 rfl 1 rfl ?_
      refine z_iconst (v := 4) X dd_Mo_round_85 (by decide) ?_
      refine z_isub X dd_Mo_round_86 ?_
      refine z_imul X dd_Mo_round_87 ?_
      refine z_bipush (v := 16) X dd_Mo_round_88 (by decide) ?_
      refine z_aload_n X dd_Mo_round_90 rfl 0 rfl ?_
      obtain ⟨v24, ev24, h⟩ := zb h
      refine z_get (j := 74) X dd_Mo_round_91 kc_12 ki_12 (by decide) km_1595 (zgr_v ev24) ?_
      refine z_aload_n X dd_Mo_round_94 rfl 0 rfl ?_
      obtain ⟨v25, ev25, h⟩ := zb h
      refine z_get (j := 48) X dd_Mo_round_95 kc_12 ki_12 (by decide) km_1569 (zgr_v ev25) ?_
      refine z_aload_n X dd_Mo_round_98 rfl 0 rfl ?_
      obtain ⟨v26, ev26, h⟩ := zb h
      refine z_get (j := 25) X dd_Mo_round_99 kc_12 ki_12 (by decide) km_1546 (zgi_v ev26) ?_
      obtain ⟨v27, ev27, h⟩ := zb h
      refine z_iaload X dd_Mo_round_102 rfl ev27 ?_
      obtain ⟨v28, ev28, h⟩ := zb h
      refine z_iaload X dd_Mo_round_103 rfl ev28 ?_
      refine z_imul X dd_Mo_round_104 ?_
      refine z_iadd X dd_Mo_round_105 ?_
      refine z_aload_n X dd_Mo_round_106 rfl 0 rfl ?_
      obtain ⟨v29, ev29, h⟩ := zb h
      refine z_get (j := 74) X dd_Mo_round_107 kc_12 ki_12 (by decide) km_1595 (zgr_v ev29) ?_
      refine z_aload_n X dd_Mo_round_110 rfl 0 rfl ?_
      obtain ⟨v30, ev30, h⟩ := zb h
      refine z_get (j := 49) X dd_Mo_round_111 kc_12 ki_12 (by decide) km_1570 (zgr_v ev30) ?_
      refine z_aload_n X dd_Mo_round_114 rfl 0 rfl ?_
      obtain ⟨v31, ev31, h⟩ := zb h
      refine z_get (j := 25) X dd_Mo_round_115 kc_12 ki_12 (by decide) km_1546 (zgi_v ev31) ?_
      obtain ⟨v32, ev32, h⟩ := zb h
      refine z_iaload X dd_Mo_round_118 rfl ev32 ?_
      obtain ⟨v33, ev33, h⟩ := zb h
      refine z_iaload X dd_Mo_round_119 rfl ev33 ?_
      refine z_iadd X dd_Mo_round_120 ?_
      refine z_iconst (v := 1) X dd_Mo_round_121 (by decide) ?_
      obtain ⟨c34, ec34, h⟩ := zb h
      refine z_iastore X dd_Mo_round_122 rfl ec34 ?_
      refine z_sub [0, 1] rfl ?_
      exact t_Mo_round_123 X H h k0 k1
set_option maxRecDepth 100000 in
set_option maxHeartbeats 4000000 in
theorem t_Mo_round_66  (X : zX p s m args cd D cid B bb_Mo_round 3 rr_Mo zT) (H : zH s meth B n0 (some (.boolean)) "round") {nf : Nat} {x0 : Nat} {x1 : Int32} {x2 : Int32} {c : Zc} {r : (Nat × Int32 × Zc) ⊕ (Nat × Zc)} (h : f_Mo_round_66 nf x0 x1 x2 c = some r) (k0 : ∀ a, r = .inl a → (fun a : Nat × Int32 × Zc => Zz p l e (zRm 5 114 0 0) s m args below meth cd Q D cid B 3 0 0 a.2.2 24 [(0, .ref a.1), (1, .int a.2.1)] []) a) (k1 : ∀ b, r = .inr b → (fun b : Nat × Zc => Zz p l e (zRm 5 114 0 0) s m args below meth cd Q D cid B 3 0 0 b.2 138 [(0, .ref b.1)] []) b) : Zz p l e (zRm 5 114 0 0) s m args below meth cd Q D cid B 3 0 0 c 66 [(0, .ref x0), (1, .int x1), (2, .int x2)] [] := by
  unfold f_Mo_round_66 at h
  obtain ⟨b, eb, h⟩ := zb h
  refine zlp_ok (P := fun a : Nat × Int32 × Int32 × Zc => Zz p l e (zRm 5 114 0 0) s m args below meth cd _ D cid B 3 0 0 a.2.2.2 66 [(0, .ref a.1), (1, .int a.2.1), (2, .int a.2.2.1)] []) (G := fun b : Nat × Int32 × Zc => Zz p l e (zRm 5 114 0 0) s m args below meth cd _ D cid B 3 0 0 b.2.2 132 [(0, .ref b.1), (1, .int b.2.1)] []) (fun a r ha k0 k1 => u_Mo_round_66 X H ha k0 k1) nf _ b eb ?_
  exact t_Mo_round_132 X H h k0 k1
set_option maxRecDepth 100000 in
set_option maxHeartbeats 4000000 in
theorem u_Mo_round_24  (X : zX p s m args cd D cid B bb_Mo_round 3 rr_Mo zT) (H : zH s meth B n0 (some (.boolean)) "round") {nf : Nat} {x0 : Nat} {x1 : Int32} {c : Zc} {r : (Nat × Int32 × Zc) ⊕ (Nat × Zc)} (h : g_Mo_round_24 nf x0 x1 c = some r) (k0 : ∀ a, r = .inl a → (fun a : Nat × Int32 × Zc => Zz p l e (zRm 5 114 0 0) s m args below meth cd Q D cid B 3 0 0 a.2.2 24 [(0, .ref a.1), (1, .int a.2.1)] []) a) (k1 : ∀ b, r = .inr b → (fun b : Nat × Zc => Zz p l e (zRm 5 114 0 0) s m args below meth cd Q D cid B 3 0 0 b.2 138 [(0, .ref b.1)] []) b) : Zz p l e (zRm 5 114 0 0) s m args below meth cd Q D cid B 3 0 0 c 24 [(0, .ref x0), (1, .int x1)] [] := by
  unfold g_Mo_round_24 at h
  refine z_iload_n X dd_Mo_round_24 rfl 1 rfl ?_
  refine z_bipush (v := 8) X dd_Mo_round_25 (by decide) ?_
  refine z_icmp_ge (tgt := 138) X dd_Mo_round_27 (by decide) (fun q4 => ?_) (fun q4 => ?_)
  · rw [if_pos q4] at h
    refine z_sub [0] rfl ?_
    obtain rfl := Option.some.inj h
    exact k1 _ rfl
  · rw [if_neg q4] at h
    refine z_aload_n X dd_Mo_round_30 rfl 0 rfl ?_
    obtain ⟨v5, ev5, h⟩ := zb h
    refine z_get (j := 23) X dd_Mo_round_31 kc_12 ki_12 (by decide) km_1544 (zgr_v ev5) ?_
    refine z_iload_n X dd_Mo_round_34 rfl 1 rfl ?_
    obtain ⟨v6, ev6, h⟩ := zb h
    refine z_zaload X dd_Mo_round_35 rfl ev6 ?_
    refine z_if_eq (tgt := 132) X dd_Mo_round_36 (by decide) (fun q7 => ?_) (fun q7 => ?_)
    · rw [if_pos q7] at h
      exact t_Mo_round_132 X H h k0 k1
    · rw [if_neg q7] at h
      refine z_aload_n X dd_Mo_round_39 rfl 0 rfl ?_
      obtain ⟨v8, ev8, h⟩ := zb h
      refine z_get (j := 0) X dd_Mo_round_40 kc_12 ki_12 (by decide) km_1521 (zgi_v ev8) ?_
      refine z_if_le (tgt := 132) X dd_Mo_round_43 (by decide) (fun q9 => ?_) (fun q9 => ?_)
      · rw [if_pos q9] at h
        exact t_Mo_round_132 X H h k0 k1
      · rw [if_neg q9] at h
        refine z_aload_n X dd_Mo_round_46 rfl 0 rfl ?_
        refine z_aload_n X dd_Mo_round_47 rfl 0 rfl ?_
        obtain ⟨v10, ev10, h⟩ := zb h
        refine z_get (j := 22) X dd_Mo_round_48 kc_12 ki_12 (by decide) km_1543 (zgr_v ev10) ?_
        refine z_iload_n X dd_Mo_round_51 rfl 1 rfl ?_
        obtain ⟨v11, ev11, h⟩ := zb h
        refine z_iaload X dd_Mo_round_52 rfl ev11 ?_
        obtain ⟨c12, ec12, h⟩ := zb h
        refine z_put (j := 25) X dd_Mo_round_53 kc_12 ki_12 tt_Mo tk_Mo nn_Mo (by decide) km_1546 rfl (tk_Mo 25 (by decide)) rfl rfl ec12 ?_
        refine z_aload_n X dd_Mo_round_56 rfl 0 rfl ?_
        obtain ⟨w14, ew14, h⟩ := zb h
        obtain ⟨q13, eq13, h⟩ := zb h
        refine z_callVv X [] rfl dd_Mo_round_57 (c_Mo_measureAll l eq13) (cwV 0 X.1.2.2.2.2 (zg_V km_2085 km_2087 km_108 km_138 km_2088) rfl rfl rfl (by decide +kernel) ⟨Nat.le_of_ble_eq_true rfl, Nat.le_of_ble_eq_true rfl⟩) (zob_s ew14) kc_12 rfl (Nat.le_of_ble_eq_true rfl) ⟨Nat.le_of_ble_eq_true rfl, Nat.le_of_ble_eq_true rfl⟩ ?_
        refine z_aload_n X dd_Mo_round_60 rfl 0 rfl ?_
        obtain ⟨w16, ew16, h⟩ := zb h
        obtain ⟨q15, eq15, h⟩ := zb h
        refine z_callVv X [] rfl dd_Mo_round_61 (c_Mo_firstRow l eq15) (cwV 0 X.1.2.2.2.2 (zg_V km_2097 km_2099 km_111 km_138 km_2100) rfl rfl rfl (by decide +kernel) ⟨Nat.le_of_ble_eq_true rfl, Nat.le_of_ble_eq_true rfl⟩) (zob_s ew16) kc_12 rfl (Nat.le_of_ble_eq_true rfl) ⟨Nat.le_of_ble_eq_true rfl, Nat.le_of_ble_eq_true rfl⟩ ?_
        refine z_iconst (v := 1) X dd_Mo_round_64 (by decide) ?_
        refine z_istore_n (lv' := [(2, .int 1), (0, .ref x0), (1, .int x1)]) X dd_Mo_round_65 rfl (by decide) rfl ?_
        refine z_sub [1, 2, 0] rfl ?_
        exact t_Mo_round_66 X H h k0 k1
set_option maxRecDepth 100000 in
set_option maxHeartbeats 4000000 in
theorem t_Mo_round_174  (X : zX p s m args cd D cid B bb_Mo_round 3 rr_Mo zT) (H : zH s meth B n0 (some (.boolean)) "round") {nf : Nat} {x0 : Nat} {x2 : Int32} {s0 : Int32} {s1 : Int32} {c : Zc} {r : (Nat × Int32 × Int32 × Zc) ⊕ (Int32 × Zc)} (h : f_Mo_round_174 nf x0 x2 s0 s1 c = some r) (k0 : ∀ a, r = .inl a → (fun a : Nat × Int32 × Int32 × Zc => Zz p l e (zRm 5 114 0 0) s m args below meth cd Q D cid B 3 0 0 a.2.2.2 142 [(0, .ref a.1), (1, .int a.2.1), (2, .int a.2.2.1)] []) a) (k1 : ∀ b, r = .inr b → (fun b : Int32 × Zc => Zz p l e (zRm 5 114 0 0) s m args below meth cd Q D cid B 3 0 0 b.2 201 [(1, .int b.1)] []) b) : Zz p l e (zRm 5 114 0 0) s m args below meth cd Q D cid B 3 0 0 c 174 [(0, .ref x0), (2, .int x2)] [.int s1, .int s0] := by
  unfold f_Mo_round_174 at h
  refine z_ior X dd_Mo_round_174 ?_
  refine z_istore_n (lv' := [(1, .int (s0 ||| s1)), (0, .ref x0), (2, .int x2)]) X dd_Mo_round_175 rfl (by decide) rfl ?_
  refine z_aload_n X dd_Mo_round_176 rfl 1 rfl ?_
  obtain ⟨v41, ev41, h⟩ := zb h
  refine z_get (j := 9) X dd_Mo_round_177 kc_12 ki_12 (by decide) km_1530 (zgr_v ev41) ?_
  refine z_sipush (v := 2048) X dd_Mo_round_180 (by decide) ?_
  refine z_iload_n X dd_Mo_round_183 rfl 2 rfl ?_
  refine z_iadd X dd_Mo_round_184 ?_
  refine z_dup2_11 X dd_Mo_round_185 rfl rfl ?_
  obtain ⟨v42, ev42, h⟩ := zb h
  refine z_iaload X dd_Mo_round_186 rfl ev42 ?_
  refine z_aload_n X dd_Mo_round_187 rfl 1 rfl ?_
  obtain ⟨v43, ev43, h⟩ := zb h
  refine z_get (j := 77) X dd_Mo_round_188 kc_12 ki_12 (by decide) km_1598 (zgr_v ev43) ?_
  refine z_iload_n X dd_Mo_round_191 rfl 2 rfl ?_
  obtain ⟨v44, ev44, h⟩ := zb h
  refine z_iaload X dd_Mo_round_192 rfl ev44 ?_
  refine z_ior X dd_Mo_round_193 ?_
  obtain ⟨c45, ec45, h⟩ := zb h
  refine z_iastore X dd_Mo_round_194 rfl ec45 ?_
  refine z_iinc (v := (x2 + 1)) (lv' := [(2, .int (x2 + 1)), (1, .int (s0 ||| s1)), (0, .ref x0)]) X dd_Mo_round_195 2 rfl rfl (by decide) rfl ?_
  refine z_goto (tgt := 142) X dd_Mo_round_198 (by decide) ?_
  refine z_sub [2, 1, 0] rfl ?_
  obtain rfl := Option.some.inj h
  exact k0 _ rfl
set_option maxRecDepth 100000 in
set_option maxHeartbeats 4000000 in
theorem u_Mo_round_142  (X : zX p s m args cd D cid B bb_Mo_round 3 rr_Mo zT) (H : zH s meth B n0 (some (.boolean)) "round") {nf : Nat} {x0 : Nat} {x1 : Int32} {x2 : Int32} {c : Zc} {r : (Nat × Int32 × Int32 × Zc) ⊕ (Int32 × Zc)} (h : g_Mo_round_142 nf x0 x1 x2 c = some r) (k0 : ∀ a, r = .inl a → (fun a : Nat × Int32 × Int32 × Zc => Zz p l e (zRm 5 114 0 0) s m args below meth cd Q D cid B 3 0 0 a.2.2.2 142 [(0, .ref a.1), (1, .int a.2.1), (2, .int a.2.2.1)] []) a) (k1 : ∀ b, r = .inr b → (fun b : Int32 × Zc => Zz p l e (zRm 5 114 0 0) s m args below meth cd Q D cid B 3 0 0 b.2 201 [(1, .int b.1)] []) b) : Zz p l e (zRm 5 114 0 0) s m args below meth cd Q D cid B 3 0 0 c 142 [(0, .ref x0), (1, .int x1), (2, .int x2)] [] := by
  unfold g_Mo_round_142 at h
  refine z_iload_n X dd_Mo_round_142 rfl 2 rfl ?_
  refine z_sipush (v := 1024) X dd_Mo_round_143 (by decide) ?_
  refine z_icmp_ge (tgt := 201) X dd_Mo_round_146 (by decide) (fun q35 => ?_) (fun q35 => ?_)
  · rw [if_pos q35] at h
    refine z_sub [1] rfl ?_
    obtain rfl := Option.some.inj h
    exact k1 _ rfl
  · rw [if_neg q35] at h
    refine z_iload_n X dd_Mo_round_149 rfl 1 rfl ?_
    refine z_aload_n X dd_Mo_round_150 rfl 0 rfl ?_
    obtain ⟨v36, ev36, h⟩ := zb h
    refine z_get (j := 77) X dd_Mo_round_151 kc_12 ki_12 (by decide) km_1598 (zgr_v ev36) ?_
    refine z_iload_n X dd_Mo_round_154 rfl 2 rfl ?_
    obtain ⟨v37, ev37, h⟩ := zb h
    refine z_iaload X dd_Mo_round_155 rfl ev37 ?_
    refine z_aload_n X dd_Mo_round_156 rfl 0 rfl ?_
    obtain ⟨v38, ev38, h⟩ := zb h
    refine z_get (j := 9) X dd_Mo_round_157 kc_12 ki_12 (by decide) km_1530 (zgr_v ev38) ?_
    refine z_sipush (v := 2048) X dd_Mo_round_160 (by decide) ?_
    refine z_iload_n X dd_Mo_round_163 rfl 2 rfl ?_
    refine z_iadd X dd_Mo_round_164 ?_
    obtain ⟨v39, ev39, h⟩ := zb h
    refine z_iaload X dd_Mo_round_165 rfl ev39 ?_
    refine z_icmp_le (tgt := 173) X dd_Mo_round_166 (by decide) (fun q40 => ?_) (fun q40 => ?_)
    · rw [if_pos q40] at h
      refine z_iconst (v := 0) X dd_Mo_round_173 (by decide) ?_
      refine z_sub [0, 2] rfl ?_
      exact t_Mo_round_174 X H h k0 k1
    · rw [if_neg q40] at h
      refine z_iconst (v := 1) X dd_Mo_round_169 (by decide) ?_
      refine z_goto (tgt := 174) X dd_Mo_round_170 (by decide) ?_
      refine z_sub [0, 2] rfl ?_
      exact t_Mo_round_174 X H h k0 k1
set_option maxRecDepth 100000 in
set_option maxHeartbeats 4000000 in
theorem t_Mo_round_142  (X : zX p s m args cd D cid B bb_Mo_round 3 rr_Mo zT) (H : zH s meth B n0 (some (.boolean)) "round") {nf : Nat} {x0 : Nat} {x1 : Int32} {x2 : Int32} {c : Zc} {res : Int32 × Zc} (h : f_Mo_round_142 nf x0 x1 x2 c = some res) : Zz p l e (zRm 5 114 0 0) s m args below meth cd (MQ below (zQi D cid B res.1 res.2 n0 0) args s 0 0 (fun q => B ≤ q)) D cid B 3 0 0 c 142 [(0, .ref x0), (1, .int x1), (2, .int x2)] [] := by
  unfold f_Mo_round_142 at h
  obtain ⟨b, eb, h⟩ := zb h
  refine zlp_ok (P := fun a : Nat × Int32 × Int32 × Zc => Zz p l e (zRm 5 114 0 0) s m args below meth cd _ D cid B 3 0 0 a.2.2.2 142 [(0, .ref a.1), (1, .int a.2.1), (2, .int a.2.2.1)] []) (G := fun b : Int32 × Zc => Zz p l e (zRm 5 114 0 0) s m args below meth cd _ D cid B 3 0 0 b.2 201 [(1, .int b.1)] []) (fun a r ha k0 k1 => u_Mo_round_142 X H ha k0 k1) nf _ b eb ?_
  refine z_iload_n X dd_Mo_round_201 rfl 0 rfl ?_
  obtain ⟨hz, h⟩ := zrz_s h
  obtain rfl := h
  exact z_zret X H.1 (zn_z hz) H.2.1 H.2.2.1 dd_Mo_round_202
set_option maxRecDepth 100000 in
set_option maxHeartbeats 4000000 in
theorem t_Mo_round_24  (X : zX p s m args cd D cid B bb_Mo_round 3 rr_Mo zT) (H : zH s meth B n0 (some (.boolean)) "round") {nf : Nat} {x0 : Nat} {x1 : Int32} {c : Zc} {res : Int32 × Zc} (h : f_Mo_round_24 nf x0 x1 c = some res) : Zz p l e (zRm 5 114 0 0) s m args below meth cd (MQ below (zQi D cid B res.1 res.2 n0 0) args s 0 0 (fun q => B ≤ q)) D cid B 3 0 0 c 24 [(0, .ref x0), (1, .int x1)] [] := by
  unfold f_Mo_round_24 at h
  obtain ⟨b, eb, h⟩ := zb h
  refine zlp_ok (P := fun a : Nat × Int32 × Zc => Zz p l e (zRm 5 114 0 0) s m args below meth cd _ D cid B 3 0 0 a.2.2 24 [(0, .ref a.1), (1, .int a.2.1)] []) (G := fun b : Nat × Zc => Zz p l e (zRm 5 114 0 0) s m args below meth cd _ D cid B 3 0 0 b.2 138 [(0, .ref b.1)] []) (fun a r ha k0 k1 => u_Mo_round_24 X H ha k0 k1) nf _ b eb ?_
  refine z_iconst (v := 0) X dd_Mo_round_138 (by decide) ?_
  refine z_istore_n (lv' := [(1, .int 0), (0, .ref b.1)]) X dd_Mo_round_139 rfl (by decide) rfl ?_
  refine z_iconst (v := 0) X dd_Mo_round_140 (by decide) ?_
  refine z_istore_n (lv' := [(2, .int 0), (1, .int 0), (0, .ref b.1)]) X dd_Mo_round_141 rfl (by decide) rfl ?_
  refine z_sub [2, 1, 0] rfl ?_
  exact t_Mo_round_142 X H h
set_option maxRecDepth 100000 in
set_option maxHeartbeats 4000000 in
theorem t_Mo_round_2  (X : zX p s m args cd D cid B bb_Mo_round 3 rr_Mo zT) (H : zH s meth B n0 (some (.boolean)) "round") {nf : Nat} {x0 : Nat} {x1 : Int32} {c : Zc} {res : Int32 × Zc} (h : f_Mo_round_2 nf x0 x1 c = some res) : Zz p l e (zRm 5 114 0 0) s m args below meth cd (MQ below (zQi D cid B res.1 res.2 n0 0) args s 0 0 (fun q => B ≤ q)) D cid B 3 0 0 c 2 [(0, .ref x0), (1, .int x1)] [] := by
  unfold f_Mo_round_2 at h
  obtain ⟨b, eb, h⟩ := zb h
  refine zlp_ok (P := fun a : Nat × Int32 × Zc => Zz p l e (zRm 5 114 0 0) s m args below meth cd _ D cid B 3 0 0 a.2.2 2 [(0, .ref a.1), (1, .int a.2.1)] []) (G := fun b : Nat × Zc => Zz p l e (zRm 5 114 0 0) s m args below meth cd _ D cid B 3 0 0 b.2 22 [(0, .ref b.1)] []) (fun a r ha k0 k1 => u_Mo_round_2 X H ha k0 k1) nf _ b eb ?_
  refine z_iconst (v := 4) X dd_Mo_round_22 (by decide) ?_
  refine z_istore_n (lv' := [(1, .int 4), (0, .ref b.1)]) X dd_Mo_round_23 rfl (by decide) rfl ?_
  refine z_sub [1, 0] rfl ?_
  exact t_Mo_round_24 X H h
set_option maxRecDepth 100000 in
set_option maxHeartbeats 4000000 in
theorem c_Mo_round (l : Launch) {nf : Nat} {a0 : Nat} {c : Zc} {res : Int32 × Zc} (h : f_Mo_round nf a0 c = some res) : zM l yy_Mo_round ww_Mo_round 5 114 0 0 [.ref a0] c (fun D cid B => zQi D cid B res.1 res.2 c.length 0) := by
  refine z_met (cc := bb_Mo_round) (maxL := 3) (ret := (some (.boolean))) (by decide +kernel) rfl (Nat.le_of_ble_eq_true rfl) ?_
  intro p e s m args below meth cd D cid B X h1 h2 h3 h4
  have X : zX p s m args cd D cid B bb_Mo_round 3 rr_Mo zT := X
  have H : zH s meth B c.length (some (.boolean)) "round" := ⟨h1, h2, h4, h3⟩
  unfold f_Mo_round at h
  show Zz p l e (zRm 5 114 0 0) s m args below meth cd _ D cid B 3 0 0 c 0 [(0, .ref a0)] []
  refine z_iconst (v := 0) X dd_Mo_round_0 (by decide) ?_
  refine z_istore_n (lv' := [(1, .int 0), (0, .ref a0)]) X dd_Mo_round_1 rfl (by decide) rfl ?_
  refine z_sub [1, 0] rfl ?_
  exact t_Mo_round_2 X H h
theorem dd_Mo_workRules_0 : decode bb_Mo_workRules 0 = .ok (.aload_n 0, 1) := by decide +kernel
theorem dd_Mo_workRules_1 : decode bb_Mo_workRules 1 = .ok (.getfield 35, 3) := by decide +kernel
theorem dd_Mo_workRules_4 : decode bb_Mo_workRules 4 = .ok (.ifCond .ne 4, 3) := by decide +kernel
theorem dd_Mo_workRules_7 : decode bb_Mo_workRules 7 = .ok (.return_, 1) := by decide +kernel
theorem dd_Mo_workRules_8 : decode bb_Mo_workRules 8 = .ok (.aload_n 0, 1) := by decide +kernel
theorem dd_Mo_workRules_9 : decode bb_Mo_workRules 9 = .ok (.iconst 0, 1) := by decide +kernel
theorem dd_Mo_workRules_10 : decode bb_Mo_workRules 10 = .ok (.putfield 35, 3) := by decide +kernel
theorem dd_Mo_workRules_13 : decode bb_Mo_workRules 13 = .ok (.aload_n 0, 1) := by decide +kernel
theorem dd_Mo_workRules_14 : decode bb_Mo_workRules 14 = .ok (.iconst 0, 1) := by decide +kernel
theorem dd_Mo_workRules_15 : decode bb_Mo_workRules 15 = .ok (.putfield 488, 3) := by decide +kernel
theorem dd_Mo_workRules_18 : decode bb_Mo_workRules 18 = .ok (.iconst 0, 1) := by decide +kernel
theorem dd_Mo_workRules_19 : decode bb_Mo_workRules 19 = .ok (.istore_n 1, 1) := by decide +kernel
theorem dd_Mo_workRules_20 : decode bb_Mo_workRules 20 = .ok (.iload_n 1, 1) := by decide +kernel
theorem dd_Mo_workRules_21 : decode bb_Mo_workRules 21 = .ok (.sipush 3328, 3) := by decide +kernel
theorem dd_Mo_workRules_24 : decode bb_Mo_workRules 24 = .ok (.if_icmp .ge 16, 3) := by decide +kernel
theorem dd_Mo_workRules_27 : decode bb_Mo_workRules 27 = .ok (.aload_n 0, 1) := by decide +kernel
theorem dd_Mo_workRules_28 : decode bb_Mo_workRules 28 = .ok (.getfield 32, 3) := by decide +kernel
theorem dd_Mo_workRules_31 : decode bb_Mo_workRules 31 = .ok (.iload_n 1, 1) := by decide +kernel
theorem dd_Mo_workRules_32 : decode bb_Mo_workRules 32 = .ok (.iconst 0, 1) := by decide +kernel
theorem dd_Mo_workRules_33 : decode bb_Mo_workRules 33 = .ok (.iastore, 1) := by decide +kernel
theorem dd_Mo_workRules_34 : decode bb_Mo_workRules 34 = .ok (.iinc 1 1, 3) := by decide +kernel
theorem dd_Mo_workRules_37 : decode bb_Mo_workRules 37 = .ok (.goto (-17), 3) := by decide +kernel
theorem dd_Mo_workRules_40 : decode bb_Mo_workRules 40 = .ok (.iconst 0, 1) := by decide +kernel
theorem dd_Mo_workRules_41 : decode bb_Mo_workRules 41 = .ok (.istore_n 1, 1) := by decide +kernel
theorem dd_Mo_workRules_42 : decode bb_Mo_workRules 42 = .ok (.iload_n 1, 1) := by decide +kernel
theorem dd_Mo_workRules_43 : decode bb_Mo_workRules 43 = .ok (.bipush 100, 2) := by decide +kernel
theorem dd_Mo_workRules_45 : decode bb_Mo_workRules 45 = .ok (.if_icmp .ge 83, 3) := by decide +kernel
theorem dd_Mo_workRules_48 : decode bb_Mo_workRules 48 = .ok (.aload_n 0, 1) := by decide +kernel
theorem dd_Mo_workRules_49 : decode bb_Mo_workRules 49 = .ok (.getfield 16, 3) := by decide +kernel
theorem dd_Mo_workRules_52 : decode bb_Mo_workRules 52 = .ok (.iload_n 1, 1) := by decide +kernel
theorem dd_Mo_workRules_53 : decode bb_Mo_workRules 53 = .ok (.baload, 1) := by decide +kernel
theorem dd_Mo_workRules_54 : decode bb_Mo_workRules 54 = .ok (.ifCond .eq 68, 3) := by decide +kernel
theorem dd_Mo_workRules_57 : decode bb_Mo_workRules 57 = .ok (.aload_n 0, 1) := by decide +kernel
theorem dd_Mo_workRules_58 : decode bb_Mo_workRules 58 = .ok (.getfield 32, 3) := by decide +kernel
theorem dd_Mo_workRules_61 : decode bb_Mo_workRules 61 = .ok (.sipush 256, 3) := by decide +kernel
theorem dd_Mo_workRules_64 : decode bb_Mo_workRules 64 = .ok (.aload_n 0, 1) := by decide +kernel
theorem dd_Mo_workRules_65 : decode bb_Mo_workRules 65 = .ok (.getfield 26, 3) := by decide +kernel
theorem dd_Mo_workRules_68 : decode bb_Mo_workRules 68 = .ok (.iload_n 1, 1) := by decide +kernel
theorem dd_Mo_workRules_69 : decode bb_Mo_workRules 69 = .ok (.iaload, 1) := by decide +kernel
theorem dd_Mo_workRules_70 : decode bb_Mo_workRules 70 = .ok (.imul, 1) := by decide +kernel
theorem dd_Mo_workRules_71 : decode bb_Mo_workRules 71 = .ok (.bipush 16, 2) := by decide +kernel
theorem dd_Mo_workRules_73 : decode bb_Mo_workRules 73 = .ok (.aload_n 0, 1) := by decide +kernel
theorem dd_Mo_workRules_74 : decode bb_Mo_workRules 74 = .ok (.getfield 20, 3) := by decide +kernel
theorem dd_Mo_workRules_77 : decode bb_Mo_workRules 77 = .ok (.iload_n 1, 1) := by decide +kernel
theorem dd_Mo_workRules_78 : decode bb_Mo_workRules 78 = .ok (.iaload, 1) := by decide +kernel
theorem dd_Mo_workRules_79 : decode bb_Mo_workRules 79 = .ok (.imul, 1) := by decide +kernel
theorem dd_Mo_workRules_80 : decode bb_Mo_workRules 80 = .ok (.iadd, 1) := by decide +kernel
theorem dd_Mo_workRules_81 : decode bb_Mo_workRules 81 = .ok (.aload_n 0, 1) := by decide +kernel
theorem dd_Mo_workRules_82 : decode bb_Mo_workRules 82 = .ok (.getfield 23, 3) := by decide +kernel
theorem dd_Mo_workRules_85 : decode bb_Mo_workRules 85 = .ok (.iload_n 1, 1) := by decide +kernel
theorem dd_Mo_workRules_86 : decode bb_Mo_workRules 86 = .ok (.iaload, 1) := by decide +kernel
theorem dd_Mo_workRules_87 : decode bb_Mo_workRules 87 = .ok (.iadd, 1) := by decide +kernel
theorem dd_Mo_workRules_88 : decode bb_Mo_workRules 88 = .ok (.dup2, 1) := by decide +kernel
theorem dd_Mo_workRules_89 : decode bb_Mo_workRules 89 = .ok (.iaload, 1) := by decide +kernel
theorem dd_Mo_workRules_90 : decode bb_Mo_workRules 90 = .ok (.iconst 1, 1) := by decide +kernel
theorem dd_Mo_workRules_91 : decode bb_Mo_workRules 91 = .ok (.iadd, 1) := by decide +kernel
theorem dd_Mo_workRules_92 : decode bb_Mo_workRules 92 = .ok (.iastore, 1) := by decide +kernel
theorem dd_Mo_workRules_93 : decode bb_Mo_workRules 93 = .ok (.aload_n 0, 1) := by decide +kernel
theorem dd_Mo_workRules_94 : decode bb_Mo_workRules 94 = .ok (.getfield 32, 3) := by decide +kernel
theorem dd_Mo_workRules_97 : decode bb_Mo_workRules 97 = .ok (.sipush 3072, 3) := by decide +kernel
theorem dd_Mo_workRules_100 : decode bb_Mo_workRules 100 = .ok (.bipush 16, 2) := by decide +kernel
theorem dd_Mo_workRules_102 : decode bb_Mo_workRules 102 = .ok (.aload_n 0, 1) := by decide +kernel
theorem dd_Mo_workRules_103 : decode bb_Mo_workRules 103 = .ok (.getfield 20, 3) := by decide +kernel
theorem dd_Mo_workRules_106 : decode bb_Mo_workRules 106 = .ok (.iload_n 1, 1) := by decide +kernel
theorem dd_Mo_workRules_107 : decode bb_Mo_workRules 107 = .ok (.iaload, 1) := by decide +kernel
theorem dd_Mo_workRules_108 : decode bb_Mo_workRules 108 = .ok (.imul, 1) := by decide +kernel
theorem dd_Mo_workRules_109 : decode bb_Mo_workRules 109 = .ok (.iadd, 1) := by decide +kernel
theorem dd_Mo_workRules_110 : decode bb_Mo_workRules 110 = .ok (.aload_n 0, 1) := by decide +kernel
theorem dd_Mo_workRules_111 : decode bb_Mo_workRules 111 = .ok (.getfield 23, 3) := by decide +kernel
theorem dd_Mo_workRules_114 : decode bb_Mo_workRules 114 = .ok (.iload_n 1, 1) := by decide +kernel
theorem dd_Mo_workRules_115 : decode bb_Mo_workRules 115 = .ok (.iaload, 1) := by decide +kernel
theorem dd_Mo_workRules_116 : decode bb_Mo_workRules 116 = .ok (.iadd, 1) := by decide +kernel
theorem dd_Mo_workRules_117 : decode bb_Mo_workRules 117 = .ok (.dup2, 1) := by decide +kernel
theorem dd_Mo_workRules_118 : decode bb_Mo_workRules 118 = .ok (.iaload, 1) := by decide +kernel
theorem dd_Mo_workRules_119 : decode bb_Mo_workRules 119 = .ok (.iconst 1, 1) := by decide +kernel
theorem dd_Mo_workRules_120 : decode bb_Mo_workRules 120 = .ok (.iadd, 1) := by decide +kernel
theorem dd_Mo_workRules_121 : decode bb_Mo_workRules 121 = .ok (.iastore, 1) := by decide +kernel
theorem dd_Mo_workRules_122 : decode bb_Mo_workRules 122 = .ok (.iinc 1 1, 3) := by decide +kernel
theorem dd_Mo_workRules_125 : decode bb_Mo_workRules 125 = .ok (.goto (-83), 3) := by decide +kernel
theorem dd_Mo_workRules_128 : decode bb_Mo_workRules 128 = .ok (.lconst 0, 1) := by decide +kernel
theorem dd_Mo_workRules_129 : decode bb_Mo_workRules 129 = .ok (.lstore_n 1, 1) := by decide +kernel
theorem dd_Mo_workRules_130 : decode bb_Mo_workRules 130 = .ok (.iconst 4, 1) := by decide +kernel
theorem dd_Mo_workRules_131 : decode bb_Mo_workRules 131 = .ok (.istore_n 3, 1) := by decide +kernel
theorem dd_Mo_workRules_132 : decode bb_Mo_workRules 132 = .ok (.iload_n 3, 1) := by decide +kernel
theorem dd_Mo_workRules_133 : decode bb_Mo_workRules 133 = .ok (.bipush 8, 2) := by decide +kernel
theorem dd_Mo_workRules_135 : decode bb_Mo_workRules 135 = .ok (.if_icmp .ge 58, 3) := by decide +kernel
theorem dd_Mo_workRules_138 : decode bb_Mo_workRules 138 = .ok (.aload_n 0, 1) := by decide +kernel
theorem dd_Mo_workRules_139 : decode bb_Mo_workRules 139 = .ok (.getfield 59, 3) := by decide +kernel
theorem dd_Mo_workRules_142 : decode bb_Mo_workRules 142 = .ok (.iload_n 3, 1) := by decide +kernel
theorem dd_Mo_workRules_143 : decode bb_Mo_workRules 143 = .ok (.baload, 1) := by decide +kernel
theorem dd_Mo_workRules_144 : decode bb_Mo_workRules 144 = .ok (.ifCond .eq 43, 3) := by decide +kernel
theorem dd_Mo_workRules_147 : decode bb_Mo_workRules 147 = .ok (.aload_n 0, 1) := by decide +kernel
theorem dd_Mo_workRules_148 : decode bb_Mo_workRules 148 = .ok (.aload_n 0, 1) := by decide +kernel
theorem dd_Mo_workRules_149 : decode bb_Mo_workRules 149 = .ok (.getfield 56, 3) := by decide +kernel
theorem dd_Mo_workRules_152 : decode bb_Mo_workRules 152 = .ok (.iload_n 3, 1) := by decide +kernel
theorem dd_Mo_workRules_153 : decode bb_Mo_workRules 153 = .ok (.iaload, 1) := by decide +kernel
theorem dd_Mo_workRules_154 : decode bb_Mo_workRules 154 = .ok (.invokevirtual 491, 3) := by decide +kernel
theorem dd_Mo_workRules_157 : decode bb_Mo_workRules 157 = .ok (.lstore 4, 2) := by decide +kernel
theorem dd_Mo_workRules_159 : decode bb_Mo_workRules 159 = .ok (.aload_n 0, 1) := by decide +kernel
theorem dd_Mo_workRules_160 : decode bb_Mo_workRules 160 = .ok (.dup, 1) := by decide +kernel
theorem dd_Mo_workRules_161 : decode bb_Mo_workRules 161 = .ok (.getfield 488, 3) := by decide +kernel
theorem dd_Mo_workRules_164 : decode bb_Mo_workRules 164 = .ok (.lload 4, 2) := by decide +kernel
theorem dd_Mo_workRules_166 : decode bb_Mo_workRules 166 = .ok (.ldc2_w 495, 3) := by decide +kernel
theorem dd_Mo_workRules_169 : decode bb_Mo_workRules 169 = .ok (.lcmp, 1) := by decide +kernel
theorem dd_Mo_workRules_170 : decode bb_Mo_workRules 170 = .ok (.ifCond .le 7, 3) := by decide +kernel
theorem dd_Mo_workRules_173 : decode bb_Mo_workRules 173 = .ok (.iconst 1, 1) := by decide +kernel
theorem dd_Mo_workRules_174 : decode bb_Mo_workRules 174 = .ok (.goto 4, 3) := by decide +kernel
theorem dd_Mo_workRules_177 : decode bb_Mo_workRules 177 = .ok (.iconst 0, 1) := by decide +kernel
theorem dd_Mo_workRules_178 : decode bb_Mo_workRules 178 = .ok (.ior, 1) := by decide +kernel
theorem dd_Mo_workRules_179 : decode bb_Mo_workRules 179 = .ok (.putfield 488, 3) := by decide +kernel
theorem dd_Mo_workRules_182 : decode bb_Mo_workRules 182 = .ok (.lload_n 1, 1) := by decide +kernel
theorem dd_Mo_workRules_183 : decode bb_Mo_workRules 183 = .ok (.lload 4, 2) := by decide +kernel
theorem dd_Mo_workRules_185 : decode bb_Mo_workRules 185 = .ok (.ladd, 1) := by decide +kernel
theorem dd_Mo_workRules_186 : decode bb_Mo_workRules 186 = .ok (.lstore_n 1, 1) := by decide +kernel
theorem dd_Mo_workRules_187 : decode bb_Mo_workRules 187 = .ok (.iinc 3 1, 3) := by decide +kernel
theorem dd_Mo_workRules_190 : decode bb_Mo_workRules 190 = .ok (.goto (-58), 3) := by decide +kernel
theorem dd_Mo_workRules_193 : decode bb_Mo_workRules 193 = .ok (.lconst 0, 1) := by decide +kernel
theorem dd_Mo_workRules_194 : decode bb_Mo_workRules 194 = .ok (.lstore_n 3, 1) := by decide +kernel
theorem dd_Mo_workRules_195 : decode bb_Mo_workRules 195 = .ok (.aload_n 0, 1) := by decide +kernel
theorem dd_Mo_workRules_196 : decode bb_Mo_workRules 196 = .ok (.getfield 488, 3) := by decide +kernel
theorem dd_Mo_workRules_199 : decode bb_Mo_workRules 199 = .ok (.ifCond .ne 7, 3) := by decide +kernel
theorem dd_Mo_workRules_202 : decode bb_Mo_workRules 202 = .ok (.iconst 1, 1) := by decide +kernel
theorem dd_Mo_workRules_203 : decode bb_Mo_workRules 203 = .ok (.goto 4, 3) := by decide +kernel
theorem dd_Mo_workRules_206 : decode bb_Mo_workRules 206 = .ok (.iconst 0, 1) := by decide +kernel
theorem dd_Mo_workRules_207 : decode bb_Mo_workRules 207 = .ok (.istore 5, 2) := by decide +kernel
theorem dd_Mo_workRules_209 : decode bb_Mo_workRules 209 = .ok (.iload 5, 2) := by decide +kernel
theorem dd_Mo_workRules_211 : decode bb_Mo_workRules 211 = .ok (.ifCond .eq 32, 3) := by decide +kernel
theorem dd_Mo_workRules_214 : decode bb_Mo_workRules 214 = .ok (.lload_n 3, 1) := by decide +kernel
theorem dd_Mo_workRules_215 : decode bb_Mo_workRules 215 = .ok (.lconst 1, 1) := by decide +kernel
theorem dd_Mo_workRules_216 : decode bb_Mo_workRules 216 = .ok (.ladd, 1) := by decide +kernel
theorem dd_Mo_workRules_217 : decode bb_Mo_workRules 217 = .ok (.lstore_n 3, 1) := by decide +kernel
theorem dd_Mo_workRules_218 : decode bb_Mo_workRules 218 = .ok (.lload_n 1, 1) := by decide +kernel
theorem dd_Mo_workRules_219 : decode bb_Mo_workRules 219 = .ok (.lload_n 3, 1) := by decide +kernel
theorem dd_Mo_workRules_220 : decode bb_Mo_workRules 220 = .ok (.lmul, 1) := by decide +kernel
theorem dd_Mo_workRules_221 : decode bb_Mo_workRules 221 = .ok (.ldc2_w 497, 3) := by decide +kernel
theorem dd_Mo_workRules_224 : decode bb_Mo_workRules 224 = .ok (.lcmp, 1) := by decide +kernel
theorem dd_Mo_workRules_225 : decode bb_Mo_workRules 225 = .ok (.ifCond .le 9, 3) := by decide +kernel
theorem dd_Mo_workRules_228 : decode bb_Mo_workRules 228 = .ok (.aload_n 0, 1) := by decide +kernel
theorem dd_Mo_workRules_229 : decode bb_Mo_workRules 229 = .ok (.iconst 1, 1) := by decide +kernel
theorem dd_Mo_workRules_230 : decode bb_Mo_workRules 230 = .ok (.putfield 488, 3) := by decide +kernel
theorem dd_Mo_workRules_233 : decode bb_Mo_workRules 233 = .ok (.return_, 1) := by decide +kernel
theorem dd_Mo_workRules_234 : decode bb_Mo_workRules 234 = .ok (.aload_n 0, 1) := by decide +kernel
theorem dd_Mo_workRules_235 : decode bb_Mo_workRules 235 = .ok (.invokevirtual 499, 3) := by decide +kernel
theorem dd_Mo_workRules_238 : decode bb_Mo_workRules 238 = .ok (.istore 5, 2) := by decide +kernel
theorem dd_Mo_workRules_240 : decode bb_Mo_workRules 240 = .ok (.goto (-31), 3) := by decide +kernel
theorem dd_Mo_workRules_243 : decode bb_Mo_workRules 243 = .ok (.return_, 1) := by decide +kernel
set_option maxRecDepth 100000 in
set_option maxHeartbeats 4000000 in
theorem u_Mo_workRules_20  (X : zX p s m args cd D cid B bb_Mo_workRules 6 rr_Mo zT) (H : zH s meth B n0 none "workRules") {nf : Nat} {x0 : Nat} {x1 : Int32} {c : Zc} {r : (Nat × Int32 × Zc) ⊕ (Nat × Zc)} (h : g_Mo_workRules_20 nf x0 x1 c = some r) (k0 : ∀ a, r = .inl a → (fun a : Nat × Int32 × Zc => Zz p l e (zRm 6 136 0 0) s m args below meth cd Q D cid B 6 0 0 a.2.2 20 [(0, .ref a.1), (1, .int a.2.1)] []) a) (k1 : ∀ b, r = .inr b → (fun b : Nat × Zc => Zz p l e (zRm 6 136 0 0) s m args below meth cd Q D cid B 6 0 0 b.2 40 [(0, .ref b.1)] []) b) : Zz p l e (zRm 6 136 0 0) s m args below meth cd Q D cid B 6 0 0 c 20 [(0, .ref x0), (1, .int x1)] [] := by
  unfold g_Mo_workRules_20 at h
  refine z_iload_n X dd_Mo_workRules_20 rfl 1 rfl ?_
  refine z_sipush (v := 3328) X dd_Mo_workRules_21 (by decide) ?_
  refine z_icmp_ge (tgt := 40) X dd_Mo_workRules_24 (by decide) (fun q5 => ?_) (fun q5 => ?_)
  · rw [if_pos q5] at h
    refine z_sub [0] rfl ?_
    obtain rfl := Option.some.inj h
    exact k1 _ rfl
  · rw [if_neg q5] at h
    refine z_aload_n X dd_Mo_workRules_27 rfl 0 rfl ?_
    obtain ⟨v6, ev6, h⟩ := zb h
    refine z_get (j := 9) X dd_Mo_workRules_28 kc_12 ki_12 (by decide) km_1530 (zgr_v ev6) ?_
    refine z_iload_n X dd_Mo_workRules_31 rfl 1 rfl ?_
    refine z_iconst (v := 0) X dd_Mo_workRules_32 (by decide) ?_
    obtain ⟨c7, ec7, h⟩ := zb h
    refine z_iastore X dd_Mo_workRules_33 rfl ec7 ?_
    refine z_iinc (v := (x1 + 1)) (lv' := [(1, .int (x1 + 1)), (0, .ref x0)]) X dd_Mo_workRules_34 1 rfl rfl (by decide) rfl ?_
    refine z_goto (tgt := 20) X dd_Mo_workRules_37 (by decide) ?_
    refine z_sub [1, 0] rfl ?_
    obtain rfl := Option.some.inj h
    exact k0 _ rfl
set_option maxRecDepth 100000 in
set_option maxHeartbeats 4000000 in
theorem t_Mo_workRules_122  (X : zX p s m args cd D cid B bb_Mo_workRules 6 rr_Mo zT) (H : zH s meth B n0 none "workRules") {nf : Nat} {x0 : Nat} {x1 : Int32} {c : Zc} {r : (Nat × Int32 × Zc) ⊕ (Nat × Zc)} (h : f_Mo_workRules_122 nf x0 x1 c = some r) (k0 : ∀ a, r = .inl a → (fun a : Nat × Int32 × Zc => Zz p l e (zRm 6 136 0 0) s m args below meth cd Q D cid B 6 0 0 a.2.2 42 [(0, .ref a.1), (1, .int a.2.1)] []) a) (k1 : ∀ b, r = .inr b → (fun b : Nat × Zc => Zz p l e (zRm 6 136 0 0) s m args below meth cd Q D cid B 6 0 0 b.2 128 [(0, .ref b.1)] []) b) : Zz p l e (zRm 6 136 0 0) s m args below meth cd Q D cid B 6 0 0 c 122 [(0, .ref x0), (1, .int x1)] [] := by
  unfold f_Mo_workRules_122 at h
  refine z_iinc (v := (x1 + 1)) (lv' := [(1, .int (x1 + 1)), (0, .ref x0)]) X dd_Mo_workRules_122 1 rfl rfl (by decide) rfl ?_
  refine z_goto (tgt := 42) X dd_Mo_workRules_125 (by decide) ?_
  refine z_sub [1, 0] rfl ?_
  obtain rfl := Option.some.inj h
  exact k0 _ rfl
set_option maxRecDepth 100000 in
set_option maxHeartbeats 4000000 in
theorem u_Mo_workRules_42  (X : zX p s m args cd D cid B bb_Mo_workRules 6 rr_Mo zT) (H : zH s meth B n0 none "workRules") {nf : Nat} {x0 : Nat} {x1 : Int32} {c : Zc} {r : (Nat × Int32 × Zc) ⊕ (Nat × Zc)} (h : g_Mo_workRules_42 nf x0 x1 c = some r) (k0 : ∀ a, r = .inl a → (fun a : Nat × Int32 × Zc => Zz p l e (zRm 6 136 0 0) s m args below meth cd Q D cid B 6 0 0 a.2.2 42 [(0, .ref a.1), (1, .int a.2.1)] []) a) (k1 : ∀ b, r = .inr b → (fun b : Nat × Zc => Zz p l e (zRm 6 136 0 0) s m args below meth cd Q D cid B 6 0 0 b.2 128 [(0, .ref b.1)] []) b) : Zz p l e (zRm 6 136 0 0) s m args below meth cd Q D cid B 6 0 0 c 42 [(0, .ref x0), (1, .int x1)] [] := by
  unfold g_Mo_workRules_42 at h
  refine z_iload_n X dd_Mo_workRules_42 rfl 1 rfl ?_
  refine z_bipush (v := 100) X dd_Mo_workRules_43 (by decide) ?_
  refine z_icmp_ge (tgt := 128) X dd_Mo_workRules_45 (by decide) (fun q8 => ?_) (fun q8 => ?_)
  · rw [if_pos q8] at h
    refine z_sub [0] rfl ?_
    obtain rfl := Option.some.inj h
    exact k1 _ rfl
  · rw [if_neg q8] at h
    refine z_aload_n X dd_Mo_workRules_48 rfl 0 rfl ?_
    obtain ⟨v9, ev9, h⟩ := zb h
    refine z_get (j := 3) X dd_Mo_workRules_49 kc_12 ki_12 (by decide) km_1524 (zgr_v ev9) ?_
    refine z_iload_n X dd_Mo_workRules_52 rfl 1 rfl ?_
    obtain ⟨v10, ev10, h⟩ := zb h
    refine z_zaload X dd_Mo_workRules_53 rfl ev10 ?_
    refine z_if_eq (tgt := 122) X dd_Mo_workRules_54 (by decide) (fun q11 => ?_) (fun q11 => ?_)
    · rw [if_pos q11] at h
      exact t_Mo_workRules_122 X H h k0 k1
    · rw [if_neg q11] at h
      refine z_aload_n X dd_Mo_workRules_57 rfl 0 rfl ?_
      obtain ⟨v12, ev12, h⟩ := zb h
      refine z_get (j := 9) X dd_Mo_workRules_58 kc_12 ki_12 (by decide) km_1530 (zgr_v ev12) ?_
      refine z_sipush (v := 256) X dd_Mo_workRules_61 (by decide) ?_
      refine z_aload_n X dd_Mo_workRules_64 rfl 0 rfl ?_
      obtain ⟨v13, ev13, h⟩ := zb h
      refine z_get (j := 6) X dd_Mo_workRules_65 kc_12 ki_12 (by decide) km_1527 (zgr_v ev13) ?_
      refine z_iload_n X dd_Mo_workRules_68 rfl 1 rfl ?_
      obtain ⟨v14, ev14, h⟩ := zb h
      refine z_iaload X dd_Mo_workRules_69 rfl ev14 ?_
      refine z_imul X dd_Mo_workRules_70 ?_
      refine z_bipush (v := 16) X dd_Mo_workRules_71 (by decide) ?_
      refine z_aload_n X dd_Mo_workRules_73 rfl 0 rfl ?_
      obtain ⟨v15, ev15, h⟩ := zb h
      refine z_get (j := 4) X dd_Mo_workRules_74 kc_12 ki_12 (by decide) km_1525 (zgr_v ev15) ?_
      refine z_iload_n X dd_Mo_workRules_77 rfl 1 rfl ?_
      obtain ⟨v16, ev16, h⟩ := zb h
      refine z_iaload X dd_Mo_workRules_78 rfl ev16 ?_
      refine z_imul X dd_Mo_workRules_79 ?_
      refine z_iadd X dd_Mo_workRules_80 ?_
      refine z_aload_n X dd_Mo_workRules_81 rfl 0 rfl ?_
      obtain ⟨v17, ev17, h⟩ := zb h
      refine z_get (j := 5) X dd_Mo_workRules_82 kc_12 ki_12 (by decide) km_1526 (zgr_v ev17) ?_
      refine z_iload_n X dd_Mo_workRules_85 rfl 1 rfl ?_
      obtain ⟨v18, ev18, h⟩ := zb h
      refine z_iaload X dd_Mo_workRules_86 rfl ev18 ?_
      refine z_iadd X dd_Mo_workRules_87 ?_
      refine z_dup2_11 X dd_Mo_workRules_88 rfl rfl ?_
      obtain ⟨v19, ev19, h⟩ := zb h
      refine z_iaload X dd_Mo_workRules_89 rfl ev19 ?_
      refine z_iconst (v := 1) X dd_Mo_workRules_90 (by decide) ?_
      refine z_iadd X dd_Mo_workRules_91 ?_
      obtain ⟨c20, ec20, h⟩ := zb h
      refine z_iastore X dd_Mo_workRules_92 rfl ec20 ?_
      refine z_aload_n X dd_Mo_workRules_93 rfl 0 rfl ?_
      obtain ⟨v21, ev21, h⟩ := zb h
      refine z_get (j := 9) X dd_Mo_workRules_94 kc_12 ki_12 (by decide) km_1530 (zgr_v ev21) ?_
      refine z_sipush (v := 3072) X dd_Mo_workRules_97 (by decide) ?_
      refine z_bipush (v := 16) X dd_Mo_workRules_100 (by decide) ?_
      refine z_aload_n X dd_Mo_workRules_102 rfl 0 rfl ?_
      obtain ⟨v22, ev22, h⟩ := zb h
      refine z_get (j := 4) X dd_Mo_workRules_103 kc_12 ki_12 (by decide) km_1525 (zgr_v ev22) ?_
      refine z_iload_n X dd_Mo_workRules_106 rfl 1 rfl ?_
      obtain ⟨v23, ev23, h⟩ := zb h
      refine z_iaload X dd_Mo_workRules_107 rfl ev23 ?_
      refine z_imul X dd_Mo_workRules_108 ?_
      refine z_iadd X dd_Mo_workRules_109 ?_
      refine z_aload_n X dd_Mo_workRules_110 rfl 0 rfl ?_
      obtain ⟨v24, ev24, h⟩ := zb h
      refine z_get (j := 5) X dd_Mo_workRules_111 kc_12 ki_12 (by decide) km_1526 (zgr_v ev24) ?_
      refine z_iload_n X dd_Mo_workRules_114 rfl 1 rfl ?_
      obtain ⟨v25, ev25, h⟩ := zb h
      refine z_iaload X dd_Mo_workRules_115 rfl ev25 ?_
      refine z_iadd X dd_Mo_workRules_116 ?_
      refine z_dup2_11 X dd_Mo_workRules_117 rfl rfl ?_
      obtain ⟨v26, ev26, h⟩ := zb h
      refine z_iaload X dd_Mo_workRules_118 rfl ev26 ?_
      refine z_iconst (v := 1) X dd_Mo_workRules_119 (by decide) ?_
      refine z_iadd X dd_Mo_workRules_120 ?_
      obtain ⟨c27, ec27, h⟩ := zb h
      refine z_iastore X dd_Mo_workRules_121 rfl ec27 ?_
      exact t_Mo_workRules_122 X H h k0 k1
set_option maxRecDepth 100000 in
set_option maxHeartbeats 4000000 in
theorem t_Mo_workRules_187  (X : zX p s m args cd D cid B bb_Mo_workRules 6 rr_Mo zT) (H : zH s meth B n0 none "workRules") {nf : Nat} {x0 : Nat} {x1 : Int64} {x3 : Int32} {c : Zc} {r : (Nat × Int64 × Int32 × Zc) ⊕ (Nat × Int64 × Zc)} (h : f_Mo_workRules_187 nf x0 x1 x3 c = some r) (k0 : ∀ a, r = .inl a → (fun a : Nat × Int64 × Int32 × Zc => Zz p l e (zRm 6 136 0 0) s m args below meth cd Q D cid B 6 0 0 a.2.2.2 132 [(0, .ref a.1), (1, .long a.2.1), (3, .int a.2.2.1)] []) a) (k1 : ∀ b, r = .inr b → (fun b : Nat × Int64 × Zc => Zz p l e (zRm 6 136 0 0) s m args below meth cd Q D cid B 6 0 0 b.2.2 193 [(0, .ref b.1), (1, .long b.2.1)] []) b) : Zz p l e (zRm 6 136 0 0) s m args below meth cd Q D cid B 6 0 0 c 187 [(0, .ref x0), (1, .long x1), (3, .int x3)] [] := by
  unfold f_Mo_workRules_187 at h
  refine z_iinc (v := (x3 + 1)) (lv' := [(3, .int (x3 + 1)), (0, .ref x0), (1, .long x1)]) X dd_Mo_workRules_187 2 rfl rfl (by decide) rfl ?_
  refine z_goto (tgt := 132) X dd_Mo_workRules_190 (by decide) ?_
  refine z_sub [1, 2, 0] rfl ?_
  obtain rfl := Option.some.inj h
  exact k0 _ rfl
set_option maxRecDepth 100000 in
set_option maxHeartbeats 4000000 in
theorem t_Mo_workRules_178  (X : zX p s m args cd D cid B bb_Mo_workRules 6 rr_Mo zT) (H : zH s meth B n0 none "workRules") {nf : Nat} {x0 : Nat} {x1 : Int64} {x3 : Int32} {x4 : Int64} {s0 : Nat} {s1 : Int32} {s2 : Int32} {c : Zc} {r : (Nat × Int64 × Int32 × Zc) ⊕ (Nat × Int64 × Zc)} (h : f_Mo_workRules_178 nf x0 x1 x3 x4 s0 s1 s2 c = some r) (k0 : ∀ a, r = .inl a → (fun a : Nat × Int64 × Int32 × Zc => Zz p l e (zRm 6 136 0 0) s m args below meth cd Q D cid B 6 0 0 a.2.2.2 132 [(0, .ref a.1), (1, .long a.2.1), (3, .int a.2.2.1)] []) a) (k1 : ∀ b, r = .inr b → (fun b : Nat × Int64 × Zc => Zz p l e (zRm 6 136 0 0) s m args below meth cd Q D cid B 6 0 0 b.2.2 193 [(0, .ref b.1), (1, .long b.2.1)] []) b) : Zz p l e (zRm 6 136 0 0) s m args below meth cd Q D cid B 6 0 0 c 178 [(0, .ref x0), (1, .long x1), (3, .int x3), (4, .long x4)] [.int s2, .int s1, .ref s0] := by
  unfold f_Mo_workRules_178 at h
  refine z_ior X dd_Mo_workRules_178 ?_
  obtain ⟨c38, ec38, h⟩ := zb h
  obtain ⟨bc38, ec38⟩ := zpz_s ec38
  refine z_put (j := 11) X dd_Mo_workRules_179 kc_12 ki_12 tt_Mo tk_Mo nn_Mo (by decide) km_1532 rfl (tk_Mo 11 (by decide)) (zn_z bc38) (zf_z bc38) ec38 ?_
  refine z_lload_n X dd_Mo_workRules_182 rfl 1 rfl ?_
  refine z_lload X dd_Mo_workRules_183 3 rfl ?_
  refine z_ladd X dd_Mo_workRules_185 ?_
  refine z_lstore_n (lv' := [(1, .long (x1 + x4)), (0, .ref x0), (3, .int x3), (4, .long x4)]) X dd_Mo_workRules_186 rfl (by decide) rfl ?_
  refine z_sub [1, 0, 2] rfl ?_
  exact t_Mo_workRules_187 X H h k0 k1
set_option maxRecDepth 100000 in
set_option maxHeartbeats 4000000 in
theorem u_Mo_workRules_132  (X : zX p s m args cd D cid B bb_Mo_workRules 6 rr_Mo zT) (H : zH s meth B n0 none "workRules") {nf : Nat} {x0 : Nat} {x1 : Int64} {x3 : Int32} {c : Zc} {r : (Nat × Int64 × Int32 × Zc) ⊕ (Nat × Int64 × Zc)} (h : g_Mo_workRules_132 nf x0 x1 x3 c = some r) (k0 : ∀ a, r = .inl a → (fun a : Nat × Int64 × Int32 × Zc => Zz p l e (zRm 6 136 0 0) s m args below meth cd Q D cid B 6 0 0 a.2.2.2 132 [(0, .ref a.1), (1, .long a.2.1), (3, .int a.2.2.1)] []) a) (k1 : ∀ b, r = .inr b → (fun b : Nat × Int64 × Zc => Zz p l e (zRm 6 136 0 0) s m args below meth cd Q D cid B 6 0 0 b.2.2 193 [(0, .ref b.1), (1, .long b.2.1)] []) b) : Zz p l e (zRm 6 136 0 0) s m args below meth cd Q D cid B 6 0 0 c 132 [(0, .ref x0), (1, .long x1), (3, .int x3)] [] := by
  unfold g_Mo_workRules_132 at h
  refine z_iload_n X dd_Mo_workRules_132 rfl 2 rfl ?_
  refine z_bipush (v := 8) X dd_Mo_workRules_133 (by decide) ?_
  refine z_icmp_ge (tgt := 193) X dd_Mo_workRules_135 (by decide) (fun q28 => ?_) (fun q28 => ?_)
  · rw [if_pos q28] at h
    refine z_sub [0, 1] rfl ?_
    obtain rfl := Option.some.inj h
    exact k1 _ rfl
  · rw [if_neg q28] at h
    refine z_aload_n X dd_Mo_workRules_138 rfl 0 rfl ?_
    obtain ⟨v29, ev29, h⟩ := zb h
    refine z_get (j := 23) X dd_Mo_workRules_139 kc_12 ki_12 (by decide) km_1544 (zgr_v ev29) ?_
    refine z_iload_n X dd_Mo_workRules_142 rfl 2 rfl ?_
    obtain ⟨v30, ev30, h⟩ := zb h
    refine z_zaload X dd_Mo_workRules_143 rfl ev30 ?_
    refine z_if_eq (tgt := 187) X dd_Mo_workRules_144 (by decide) (fun q31 => ?_) (fun q31 => ?_)
    · rw [if_pos q31] at h
      exact t_Mo_workRules_187 X H h k0 k1
    · rw [if_neg q31] at h
      refine z_aload_n X dd_Mo_workRules_147 rfl 0 rfl ?_
      refine z_aload_n X dd_Mo_workRules_148 rfl 0 rfl ?_
      obtain ⟨v32, ev32, h⟩ := zb h
      refine z_get (j := 22) X dd_Mo_workRules_149 kc_12 ki_12 (by decide) km_1543 (zgr_v ev32) ?_
      refine z_iload_n X dd_Mo_workRules_152 rfl 2 rfl ?_
      obtain ⟨v33, ev33, h⟩ := zb h
      refine z_iaload X dd_Mo_workRules_153 rfl ev33 ?_
      obtain ⟨w35, ew35, h⟩ := zb h
      obtain ⟨q34, eq34, h⟩ := zb h
      refine z_callVl X [.int v33] rfl dd_Mo_workRules_154 (c_Mo_workOf l eq34) (cwV 1 X.1.2.2.2.2 (zg_V km_2075 km_2077 km_106 km_138 km_2078) rfl rfl rfl (by decide +kernel) ⟨Nat.le_of_ble_eq_true rfl, Nat.le_of_ble_eq_true rfl⟩) (zob_s ew35) kc_12 rfl (Nat.le_of_ble_eq_true rfl) ⟨Nat.le_of_ble_eq_true rfl, Nat.le_of_ble_eq_true rfl⟩ ?_
      refine z_lstore (lv' := [(4, .long q34.1), (0, .ref x0), (1, .long x1), (3, .int x3)]) X dd_Mo_workRules_157 (by decide) rfl ?_
      refine z_aload_n X dd_Mo_workRules_159 rfl 1 rfl ?_
      refine z_dup X dd_Mo_workRules_160 rfl ?_
      obtain ⟨v36, ev36, h⟩ := zb h
      refine z_get (j := 11) X dd_Mo_workRules_161 kc_12 ki_12 (by decide) km_1532 (zgi_v ev36) ?_
      refine z_lload X dd_Mo_workRules_164 0 rfl ?_
      refine z_ldc2 (v := 20000) X dd_Mo_workRules_166 km_2079 ?_
      refine z_lcmp X dd_Mo_workRules_169 ?_
      refine z_if_le (tgt := 177) X dd_Mo_workRules_170 (by decide) (fun q37 => ?_) (fun q37 => ?_)
      · rw [if_pos q37] at h
        refine z_iconst (v := 0) X dd_Mo_workRules_177 (by decide) ?_
        refine z_sub [1, 2, 3, 0] rfl ?_
        exact t_Mo_workRules_178 X H h k0 k1
      · rw [if_neg q37] at h
        refine z_iconst (v := 1) X dd_Mo_workRules_173 (by decide) ?_
        refine z_goto (tgt := 178) X dd_Mo_workRules_174 (by decide) ?_
        refine z_sub [1, 2, 3, 0] rfl ?_
        exact t_Mo_workRules_178 X H h k0 k1
set_option maxRecDepth 100000 in
set_option maxHeartbeats 4000000 in
theorem u_Mo_workRules_209  (X : zX p s m args cd D cid B bb_Mo_workRules 6 rr_Mo zT) (H : zH s meth B n0 none "workRules") {nf : Nat} {x0 : Nat} {x1 : Int64} {x3 : Int64} {x5 : Int32} {c : Zc} {r : (Nat × Int64 × Int64 × Int32 × Zc) ⊕ ((Nat × Zc) ⊕ (Zc))} (h : g_Mo_workRules_209 nf x0 x1 x3 x5 c = some r) (k0 : ∀ a, r = .inl a → (fun a : Nat × Int64 × Int64 × Int32 × Zc => Zz p l e (zRm 6 136 0 0) s m args below meth cd Q D cid B 6 0 0 a.2.2.2.2 209 [(0, .ref a.1), (1, .long a.2.1), (3, .long a.2.2.1), (5, .int a.2.2.2.1)] []) a) (k1 : ∀ b, r = .inr b → (fun b : (Nat × Zc) ⊕ (Zc) => Sum.elim (fun b => Zz p l e (zRm 6 136 0 0) s m args below meth cd Q D cid B 6 0 0 b.2 228 [(0, .ref b.1)] []) (fun b => Zz p l e (zRm 6 136 0 0) s m args below meth cd Q D cid B 6 0 0 b 243 [] []) b) b) : Zz p l e (zRm 6 136 0 0) s m args below meth cd Q D cid B 6 0 0 c 209 [(0, .ref x0), (1, .long x1), (3, .long x3), (5, .int x5)] [] := by
  unfold g_Mo_workRules_209 at h
  refine z_iload X dd_Mo_workRules_209 3 rfl ?_
  refine z_if_eq (tgt := 243) X dd_Mo_workRules_211 (by decide) (fun q41 => ?_) (fun q41 => ?_)
  · rw [if_pos q41] at h
    refine z_sub [] rfl ?_
    obtain rfl := Option.some.inj h
    exact k1 _ rfl
  · rw [if_neg q41] at h
    refine z_lload_n X dd_Mo_workRules_214 rfl 2 rfl ?_
    refine z_lconst (v := 1) X dd_Mo_workRules_215 (by decide) ?_
    refine z_ladd X dd_Mo_workRules_216 ?_
    refine z_lstore_n (lv' := [(3, .long (x3 + 1)), (0, .ref x0), (1, .long x1), (5, .int x5)]) X dd_Mo_workRules_217 rfl (by decide) rfl ?_
    refine z_lload_n X dd_Mo_workRules_218 rfl 2 rfl ?_
    refine z_lload_n X dd_Mo_workRules_219 rfl 0 rfl ?_
    refine z_lmul X dd_Mo_workRules_220 ?_
    refine z_ldc2 (v := 1000000) X dd_Mo_workRules_221 km_2080 ?_
    refine z_lcmp X dd_Mo_workRules_224 ?_
    refine z_if_le (tgt := 234) X dd_Mo_workRules_225 (by decide) (fun q42 => ?_) (fun q42 => ?_)
    · rw [if_pos q42] at h
      refine z_aload_n X dd_Mo_workRules_234 rfl 1 rfl ?_
      obtain ⟨w44, ew44, h⟩ := zb h
      obtain ⟨q43, eq43, h⟩ := zb h
      refine z_callVi X [] rfl dd_Mo_workRules_235 (c_Mo_round l eq43) (cwV 0 X.1.2.2.2.2 (zg_V km_2081 km_2083 km_107 km_138 km_2084) rfl rfl rfl (by decide +kernel) ⟨Nat.le_of_ble_eq_true rfl, Nat.le_of_ble_eq_true rfl⟩) (zob_s ew44) kc_12 rfl (Nat.le_of_ble_eq_true rfl) ⟨Nat.le_of_ble_eq_true rfl, Nat.le_of_ble_eq_true rfl⟩ ?_
      refine z_istore (lv' := [(5, .int q43.1), (3, .long (x3 + 1)), (0, .ref x0), (1, .long x1)]) X dd_Mo_workRules_238 (by decide) rfl ?_
      refine z_goto (tgt := 209) X dd_Mo_workRules_240 (by decide) ?_
      refine z_sub [2, 3, 1, 0] rfl ?_
      obtain rfl := Option.some.inj h
      exact k0 _ rfl
    · rw [if_neg q42] at h
      refine z_sub [1] rfl ?_
      obtain rfl := Option.some.inj h
      exact k1 _ rfl
set_option maxRecDepth 100000 in
set_option maxHeartbeats 4000000 in
theorem t_Mo_workRules_209  (X : zX p s m args cd D cid B bb_Mo_workRules 6 rr_Mo zT) (H : zH s meth B n0 none "workRules") {nf : Nat} {x0 : Nat} {x1 : Int64} {x3 : Int64} {x5 : Int32} {c : Zc} {res : Zc} (h : f_Mo_workRules_209 nf x0 x1 x3 x5 c = some res) : Zz p l e (zRm 6 136 0 0) s m args below meth cd (MQ below (zQv D cid B res n0 0) args s 0 0 (fun q => B ≤ q)) D cid B 6 0 0 c 209 [(0, .ref x0), (1, .long x1), (3, .long x3), (5, .int x5)] [] := by
  unfold f_Mo_workRules_209 at h
  obtain ⟨b, eb, h⟩ := zb h
  refine zlp_ok (P := fun a : Nat × Int64 × Int64 × Int32 × Zc => Zz p l e (zRm 6 136 0 0) s m args below meth cd _ D cid B 6 0 0 a.2.2.2.2 209 [(0, .ref a.1), (1, .long a.2.1), (3, .long a.2.2.1), (5, .int a.2.2.2.1)] []) (G := fun b : (Nat × Zc) ⊕ (Zc) => Sum.elim (fun b => Zz p l e (zRm 6 136 0 0) s m args below meth cd _ D cid B 6 0 0 b.2 228 [(0, .ref b.1)] []) (fun b => Zz p l e (zRm 6 136 0 0) s m args below meth cd _ D cid B 6 0 0 b 243 [] []) b) (fun a r ha k0 k1 => u_Mo_workRules_209 X H ha k0 k1) nf _ b eb ?_
  rcases b with b | b
  · simp only [Sum.elim_inl] at h ⊢
    refine z_aload_n X dd_Mo_workRules_228 rfl 0 rfl ?_
    refine z_iconst (v := 1) X dd_Mo_workRules_229 (by decide) ?_
    obtain ⟨c45, ec45, h⟩ := zb h
    refine z_put (j := 11) X dd_Mo_workRules_230 kc_12 ki_12 tt_Mo tk_Mo nn_Mo (by decide) km_1532 rfl (tk_Mo 11 (by decide)) rfl rfl ec45 ?_
    obtain rfl := Option.some.inj h
    exact z_vret X H.1 H.2.1 H.2.2.1 dd_Mo_workRules_233
  · simp only [Sum.elim_inr] at h ⊢
    obtain rfl := Option.some.inj h
    exact z_vret X H.1 H.2.1 H.2.2.1 dd_Mo_workRules_243
set_option maxRecDepth 100000 in
set_option maxHeartbeats 4000000 in
theorem t_Mo_workRules_207  (X : zX p s m args cd D cid B bb_Mo_workRules 6 rr_Mo zT) (H : zH s meth B n0 none "workRules") {nf : Nat} {x0 : Nat} {x1 : Int64} {x3 : Int64} {s0 : Int32} {c : Zc} {res : Zc} (h : f_Mo_workRules_207 nf x0 x1 x3 s0 c = some res) : Zz p l e (zRm 6 136 0 0) s m args below meth cd (MQ below (zQv D cid B res n0 0) args s 0 0 (fun q => B ≤ q)) D cid B 6 0 0 c 207 [(0, .ref x0), (1, .long x1), (3, .long x3)] [.int s0] := by
  unfold f_Mo_workRules_207 at h
  refine z_istore (lv' := [(5, .int s0), (0, .ref x0), (1, .long x1), (3, .long x3)]) X dd_Mo_workRules_207 (by decide) rfl ?_
  refine z_sub [1, 2, 3, 0] rfl ?_
  exact t_Mo_workRules_209 X H h
set_option maxRecDepth 100000 in
set_option maxHeartbeats 4000000 in
theorem t_Mo_workRules_132  (X : zX p s m args cd D cid B bb_Mo_workRules 6 rr_Mo zT) (H : zH s meth B n0 none "workRules") {nf : Nat} {x0 : Nat} {x1 : Int64} {x3 : Int32} {c : Zc} {res : Zc} (h : f_Mo_workRules_132 nf x0 x1 x3 c = some res) : Zz p l e (zRm 6 136 0 0) s m args below meth cd (MQ below (zQv D cid B res n0 0) args s 0 0 (fun q => B ≤ q)) D cid B 6 0 0 c 132 [(0, .ref x0), (1, .long x1), (3, .int x3)] [] := by
  unfold f_Mo_workRules_132 at h
  obtain ⟨b, eb, h⟩ := zb h
  refine zlp_ok (P := fun a : Nat × Int64 × Int32 × Zc => Zz p l e (zRm 6 136 0 0) s m args below meth cd _ D cid B 6 0 0 a.2.2.2 132 [(0, .ref a.1), (1, .long a.2.1), (3, .int a.2.2.1)] []) (G := fun b : Nat × Int64 × Zc => Zz p l e (zRm 6 136 0 0) s m args below meth cd _ D cid B 6 0 0 b.2.2 193 [(0, .ref b.1), (1, .long b.2.1)] []) (fun a r ha k0 k1 => u_Mo_workRules_132 X H ha k0 k1) nf _ b eb ?_
  refine z_lconst (v := 0) X dd_Mo_workRules_193 (by decide) ?_
  refine z_lstore_n (lv' := [(3, .long 0), (0, .ref b.1), (1, .long b.2.1)]) X dd_Mo_workRules_194 rfl (by decide) rfl ?_
  refine z_aload_n X dd_Mo_workRules_195 rfl 1 rfl ?_
  obtain ⟨v39, ev39, h⟩ := zb h
  refine z_get (j := 11) X dd_Mo_workRules_196 kc_12 ki_12 (by decide) km_1532 (zgi_v ev39) ?_
  refine z_if_ne (tgt := 206) X dd_Mo_workRules_199 (by decide) (fun q40 => ?_) (fun q40 => ?_)
  · rw [if_neg q40] at h
    refine z_iconst (v := 0) X dd_Mo_workRules_206 (by decide) ?_
    refine z_sub [1, 2, 0] rfl ?_
    exact t_Mo_workRules_207 X H h
  · rw [if_pos q40] at h
    refine z_iconst (v := 1) X dd_Mo_workRules_202 (by decide) ?_
    refine z_goto (tgt := 207) X dd_Mo_workRules_203 (by decide) ?_
    refine z_sub [1, 2, 0] rfl ?_
    exact t_Mo_workRules_207 X H h
set_option maxRecDepth 100000 in
set_option maxHeartbeats 4000000 in
theorem t_Mo_workRules_42  (X : zX p s m args cd D cid B bb_Mo_workRules 6 rr_Mo zT) (H : zH s meth B n0 none "workRules") {nf : Nat} {x0 : Nat} {x1 : Int32} {c : Zc} {res : Zc} (h : f_Mo_workRules_42 nf x0 x1 c = some res) : Zz p l e (zRm 6 136 0 0) s m args below meth cd (MQ below (zQv D cid B res n0 0) args s 0 0 (fun q => B ≤ q)) D cid B 6 0 0 c 42 [(0, .ref x0), (1, .int x1)] [] := by
  unfold f_Mo_workRules_42 at h
  obtain ⟨b, eb, h⟩ := zb h
  refine zlp_ok (P := fun a : Nat × Int32 × Zc => Zz p l e (zRm 6 136 0 0) s m args below meth cd _ D cid B 6 0 0 a.2.2 42 [(0, .ref a.1), (1, .int a.2.1)] []) (G := fun b : Nat × Zc => Zz p l e (zRm 6 136 0 0) s m args below meth cd _ D cid B 6 0 0 b.2 128 [(0, .ref b.1)] []) (fun a r ha k0 k1 => u_Mo_workRules_42 X H ha k0 k1) nf _ b eb ?_
  refine z_lconst (v := 0) X dd_Mo_workRules_128 (by decide) ?_
  refine z_lstore_n (lv' := [(1, .long 0), (0, .ref b.1)]) X dd_Mo_workRules_129 rfl (by decide) rfl ?_
  refine z_iconst (v := 4) X dd_Mo_workRules_130 (by decide) ?_
  refine z_istore_n (lv' := [(3, .int 4), (1, .long 0), (0, .ref b.1)]) X dd_Mo_workRules_131 rfl (by decide) rfl ?_
  refine z_sub [2, 1, 0] rfl ?_
  exact t_Mo_workRules_132 X H h
set_option maxRecDepth 100000 in
set_option maxHeartbeats 4000000 in
theorem t_Mo_workRules_20  (X : zX p s m args cd D cid B bb_Mo_workRules 6 rr_Mo zT) (H : zH s meth B n0 none "workRules") {nf : Nat} {x0 : Nat} {x1 : Int32} {c : Zc} {res : Zc} (h : f_Mo_workRules_20 nf x0 x1 c = some res) : Zz p l e (zRm 6 136 0 0) s m args below meth cd (MQ below (zQv D cid B res n0 0) args s 0 0 (fun q => B ≤ q)) D cid B 6 0 0 c 20 [(0, .ref x0), (1, .int x1)] [] := by
  unfold f_Mo_workRules_20 at h
  obtain ⟨b, eb, h⟩ := zb h
  refine zlp_ok (P := fun a : Nat × Int32 × Zc => Zz p l e (zRm 6 136 0 0) s m args below meth cd _ D cid B 6 0 0 a.2.2 20 [(0, .ref a.1), (1, .int a.2.1)] []) (G := fun b : Nat × Zc => Zz p l e (zRm 6 136 0 0) s m args below meth cd _ D cid B 6 0 0 b.2 40 [(0, .ref b.1)] []) (fun a r ha k0 k1 => u_Mo_workRules_20 X H ha k0 k1) nf _ b eb ?_
  refine z_iconst (v := 0) X dd_Mo_workRules_40 (by decide) ?_
  refine z_istore_n (lv' := [(1, .int 0), (0, .ref b.1)]) X dd_Mo_workRules_41 rfl (by decide) rfl ?_
  refine z_sub [1, 0] rfl ?_
  exact t_Mo_workRules_42 X H h
set_option maxRecDepth 100000 in
set_option maxHeartbeats 4000000 in
theorem c_Mo_workRules (l : Launch) {nf : Nat} {a0 : Nat} {c : Zc} {res : Zc} (h : f_Mo_workRules nf a0 c = some res) : zM l yy_Mo_workRules ww_Mo_workRules 6 136 0 0 [.ref a0] c (fun D cid B => zQv D cid B res c.length 0) := by
  refine z_met (cc := bb_Mo_workRules) (maxL := 6) (ret := none) (by decide +kernel) rfl (Nat.le_of_ble_eq_true rfl) ?_
  intro p e s m args below meth cd D cid B X h1 h2 h3 h4
  have X : zX p s m args cd D cid B bb_Mo_workRules 6 rr_Mo zT := X
  have H : zH s meth B c.length none "workRules" := ⟨h1, h2, h4, h3⟩
  unfold f_Mo_workRules at h
  show Zz p l e (zRm 6 136 0 0) s m args below meth cd _ D cid B 6 0 0 c 0 [(0, .ref a0)] []
  refine z_aload_n X dd_Mo_workRules_0 rfl 0 rfl ?_
  obtain ⟨v1, ev1, h⟩ := zb h
  refine z_get (j := 10) X dd_Mo_workRules_1 kc_12 ki_12 (by decide) km_1531 (zgi_v ev1) ?_
  refine z_if_ne (tgt := 8) X dd_Mo_workRules_4 (by decide) (fun q2 => ?_) (fun q2 => ?_)
  · rw [if_neg q2] at h
    refine z_aload_n X dd_Mo_workRules_8 rfl 0 rfl ?_
    refine z_iconst (v := 0) X dd_Mo_workRules_9 (by decide) ?_
    obtain ⟨c3, ec3, h⟩ := zb h
    refine z_put (j := 10) X dd_Mo_workRules_10 kc_12 ki_12 tt_Mo tk_Mo nn_Mo (by decide) km_1531 rfl (tk_Mo 10 (by decide)) rfl rfl ec3 ?_
    refine z_aload_n X dd_Mo_workRules_13 rfl 0 rfl ?_
    refine z_iconst (v := 0) X dd_Mo_workRules_14 (by decide) ?_
    obtain ⟨c4, ec4, h⟩ := zb h
    refine z_put (j := 11) X dd_Mo_workRules_15 kc_12 ki_12 tt_Mo tk_Mo nn_Mo (by decide) km_1532 rfl (tk_Mo 11 (by decide)) rfl rfl ec4 ?_
    refine z_iconst (v := 0) X dd_Mo_workRules_18 (by decide) ?_
    refine z_istore_n (lv' := [(1, .int 0), (0, .ref a0)]) X dd_Mo_workRules_19 rfl (by decide) rfl ?_
    refine z_sub [1, 0] rfl ?_
    exact t_Mo_workRules_20 X H h
  · rw [if_pos q2] at h
    obtain rfl := Option.some.inj h
    exact z_vret X H.1 H.2.1 H.2.2.1 dd_Mo_workRules_7
end ZzM
