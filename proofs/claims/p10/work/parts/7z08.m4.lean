section ZzM
variable {p : Program} {l : Launch} {e : Env} {s : State} {m : MethodId} {args : Array Value} {below : List Frame} {meth : Method} {cd : Code} {Q : State → Prop} {D : va_G} {cid : Nat → ClassId} {B n0 : Nat}
theorem dd_Tokens_takeToken_0 : decode bb_Tokens_takeToken 0 = .ok (.iload_n 1, 1) := by decide +kernel
theorem dd_Tokens_takeToken_1 : decode bb_Tokens_takeToken 1 = .ok (.istore_n 2, 1) := by decide +kernel
theorem dd_Tokens_takeToken_2 : decode bb_Tokens_takeToken 2 = .ok (.iload_n 2, 1) := by decide +kernel
theorem dd_Tokens_takeToken_3 : decode bb_Tokens_takeToken 3 = .ok (.aload_n 0, 1) := by decide +kernel
theorem dd_Tokens_takeToken_4 : decode bb_Tokens_takeToken 4 = .ok (.getfield 29, 3) := by decide +kernel
theorem dd_Tokens_takeToken_7 : decode bb_Tokens_takeToken 7 = .ok (.if_icmp .ge 33, 3) := by decide +kernel
theorem dd_Tokens_takeToken_10 : decode bb_Tokens_takeToken 10 = .ok (.aload_n 0, 1) := by decide +kernel
theorem dd_Tokens_takeToken_11 : decode bb_Tokens_takeToken 11 = .ok (.getfield 25, 3) := by decide +kernel
theorem dd_Tokens_takeToken_14 : decode bb_Tokens_takeToken 14 = .ok (.iload_n 2, 1) := by decide +kernel
theorem dd_Tokens_takeToken_15 : decode bb_Tokens_takeToken 15 = .ok (.baload, 1) := by decide +kernel
theorem dd_Tokens_takeToken_16 : decode bb_Tokens_takeToken 16 = .ok (.invokestatic 46, 3) := by decide +kernel
theorem dd_Tokens_takeToken_19 : decode bb_Tokens_takeToken 19 = .ok (.ifCond .ne 15, 3) := by decide +kernel
theorem dd_Tokens_takeToken_22 : decode bb_Tokens_takeToken 22 = .ok (.aload_n 0, 1) := by decide +kernel
theorem dd_Tokens_takeToken_23 : decode bb_Tokens_takeToken 23 = .ok (.getfield 25, 3) := by decide +kernel
theorem dd_Tokens_takeToken_26 : decode bb_Tokens_takeToken 26 = .ok (.iload_n 2, 1) := by decide +kernel
theorem dd_Tokens_takeToken_27 : decode bb_Tokens_takeToken 27 = .ok (.baload, 1) := by decide +kernel
theorem dd_Tokens_takeToken_28 : decode bb_Tokens_takeToken 28 = .ok (.invokestatic 49, 3) := by decide +kernel
theorem dd_Tokens_takeToken_31 : decode bb_Tokens_takeToken 31 = .ok (.ifCond .eq 9, 3) := by decide +kernel
theorem dd_Tokens_takeToken_34 : decode bb_Tokens_takeToken 34 = .ok (.iinc 2 1, 3) := by decide +kernel
theorem dd_Tokens_takeToken_37 : decode bb_Tokens_takeToken 37 = .ok (.goto (-35), 3) := by decide +kernel
theorem dd_Tokens_takeToken_40 : decode bb_Tokens_takeToken 40 = .ok (.iload_n 2, 1) := by decide +kernel
theorem dd_Tokens_takeToken_41 : decode bb_Tokens_takeToken 41 = .ok (.iload_n 1, 1) := by decide +kernel
theorem dd_Tokens_takeToken_42 : decode bb_Tokens_takeToken 42 = .ok (.if_icmp .le 12, 3) := by decide +kernel
theorem dd_Tokens_takeToken_45 : decode bb_Tokens_takeToken 45 = .ok (.aload_n 0, 1) := by decide +kernel
theorem dd_Tokens_takeToken_46 : decode bb_Tokens_takeToken 46 = .ok (.iload_n 1, 1) := by decide +kernel
theorem dd_Tokens_takeToken_47 : decode bb_Tokens_takeToken 47 = .ok (.iload_n 2, 1) := by decide +kernel
theorem dd_Tokens_takeToken_48 : decode bb_Tokens_takeToken 48 = .ok (.invokevirtual 52, 3) := by decide +kernel
theorem dd_Tokens_takeToken_51 : decode bb_Tokens_takeToken 51 = .ok (.goto 8, 3) := by decide +kernel
theorem dd_Tokens_takeToken_54 : decode bb_Tokens_takeToken 54 = .ok (.aload_n 0, 1) := by decide +kernel
theorem dd_Tokens_takeToken_55 : decode bb_Tokens_takeToken 55 = .ok (.iload_n 1, 1) := by decide +kernel
theorem dd_Tokens_takeToken_56 : decode bb_Tokens_takeToken 56 = .ok (.invokevirtual 55, 3) := by decide +kernel
theorem dd_Tokens_takeToken_59 : decode bb_Tokens_takeToken 59 = .ok (.istore_n 3, 1) := by decide +kernel
theorem dd_Tokens_takeToken_60 : decode bb_Tokens_takeToken 60 = .ok (.aload_n 0, 1) := by decide +kernel
theorem dd_Tokens_takeToken_61 : decode bb_Tokens_takeToken 61 = .ok (.getfield 9, 3) := by decide +kernel
theorem dd_Tokens_takeToken_64 : decode bb_Tokens_takeToken 64 = .ok (.aload_n 0, 1) := by decide +kernel
theorem dd_Tokens_takeToken_65 : decode bb_Tokens_takeToken 65 = .ok (.getfield 21, 3) := by decide +kernel
theorem dd_Tokens_takeToken_68 : decode bb_Tokens_takeToken 68 = .ok (.iload_n 3, 1) := by decide +kernel
theorem dd_Tokens_takeToken_69 : decode bb_Tokens_takeToken 69 = .ok (.iastore, 1) := by decide +kernel
theorem dd_Tokens_takeToken_70 : decode bb_Tokens_takeToken 70 = .ok (.aload_n 0, 1) := by decide +kernel
theorem dd_Tokens_takeToken_71 : decode bb_Tokens_takeToken 71 = .ok (.getfield 18, 3) := by decide +kernel
theorem dd_Tokens_takeToken_74 : decode bb_Tokens_takeToken 74 = .ok (.aload_n 0, 1) := by decide +kernel
theorem dd_Tokens_takeToken_75 : decode bb_Tokens_takeToken 75 = .ok (.getfield 21, 3) := by decide +kernel
theorem dd_Tokens_takeToken_78 : decode bb_Tokens_takeToken 78 = .ok (.iload_n 1, 1) := by decide +kernel
theorem dd_Tokens_takeToken_79 : decode bb_Tokens_takeToken 79 = .ok (.iastore, 1) := by decide +kernel
theorem dd_Tokens_takeToken_80 : decode bb_Tokens_takeToken 80 = .ok (.aload_n 0, 1) := by decide +kernel
theorem dd_Tokens_takeToken_81 : decode bb_Tokens_takeToken 81 = .ok (.dup, 1) := by decide +kernel
theorem dd_Tokens_takeToken_82 : decode bb_Tokens_takeToken 82 = .ok (.getfield 21, 3) := by decide +kernel
theorem dd_Tokens_takeToken_85 : decode bb_Tokens_takeToken 85 = .ok (.iconst 1, 1) := by decide +kernel
theorem dd_Tokens_takeToken_86 : decode bb_Tokens_takeToken 86 = .ok (.iadd, 1) := by decide +kernel
theorem dd_Tokens_takeToken_87 : decode bb_Tokens_takeToken 87 = .ok (.putfield 21, 3) := by decide +kernel
theorem dd_Tokens_takeToken_90 : decode bb_Tokens_takeToken 90 = .ok (.iload_n 3, 1) := by decide +kernel
theorem dd_Tokens_takeToken_91 : decode bb_Tokens_takeToken 91 = .ok (.ifCond .ne 8, 3) := by decide +kernel
theorem dd_Tokens_takeToken_94 : decode bb_Tokens_takeToken 94 = .ok (.aload_n 0, 1) := by decide +kernel
theorem dd_Tokens_takeToken_95 : decode bb_Tokens_takeToken 95 = .ok (.getfield 29, 3) := by decide +kernel
theorem dd_Tokens_takeToken_98 : decode bb_Tokens_takeToken 98 = .ok (.ireturn, 1) := by decide +kernel
theorem dd_Tokens_takeToken_99 : decode bb_Tokens_takeToken 99 = .ok (.iload_n 2, 1) := by decide +kernel
theorem dd_Tokens_takeToken_100 : decode bb_Tokens_takeToken 100 = .ok (.iload_n 1, 1) := by decide +kernel
theorem dd_Tokens_takeToken_101 : decode bb_Tokens_takeToken 101 = .ok (.if_icmp .le 7, 3) := by decide +kernel
theorem dd_Tokens_takeToken_104 : decode bb_Tokens_takeToken 104 = .ok (.iload_n 2, 1) := by decide +kernel
theorem dd_Tokens_takeToken_105 : decode bb_Tokens_takeToken 105 = .ok (.goto 17, 3) := by decide +kernel
theorem dd_Tokens_takeToken_108 : decode bb_Tokens_takeToken 108 = .ok (.iload_n 1, 1) := by decide +kernel
theorem dd_Tokens_takeToken_109 : decode bb_Tokens_takeToken 109 = .ok (.iload_n 3, 1) := by decide +kernel
theorem dd_Tokens_takeToken_110 : decode bb_Tokens_takeToken 110 = .ok (.sipush 256, 3) := by decide +kernel
theorem dd_Tokens_takeToken_113 : decode bb_Tokens_takeToken 113 = .ok (.if_icmp .lt 7, 3) := by decide +kernel
theorem dd_Tokens_takeToken_116 : decode bb_Tokens_takeToken 116 = .ok (.iconst 2, 1) := by decide +kernel
theorem dd_Tokens_takeToken_117 : decode bb_Tokens_takeToken 117 = .ok (.goto 4, 3) := by decide +kernel
theorem dd_Tokens_takeToken_120 : decode bb_Tokens_takeToken 120 = .ok (.iconst 1, 1) := by decide +kernel
theorem dd_Tokens_takeToken_121 : decode bb_Tokens_takeToken 121 = .ok (.iadd, 1) := by decide +kernel
theorem dd_Tokens_takeToken_122 : decode bb_Tokens_takeToken 122 = .ok (.ireturn, 1) := by decide +kernel
set_option maxRecDepth 100000 in
set_option maxHeartbeats 4000000 in
theorem t_Tokens_takeToken_34  (X : zX p s m args cd D cid B bb_Tokens_takeToken 4 rr_Tokens zT) (H : zH s meth B n0 (some (.int)) "takeToken") {nf : Nat} {x0 : Nat} {x1 : Int32} {x2 : Int32} {c : Zc} {r : (Nat × Int32 × Int32 × Zc) ⊕ (Nat × Int32 × Int32 × Zc)} (h : f_Tokens_takeToken_34 nf x0 x1 x2 c = some r) (k0 : ∀ a, r = .inl a → (fun a : Nat × Int32 × Int32 × Zc => Zz p l e (zRm 7 156 0 0) s m args below meth cd Q D cid B 4 0 0 a.2.2.2 2 [(0, .ref a.1), (1, .int a.2.1), (2, .int a.2.2.1)] []) a) (k1 : ∀ b, r = .inr b → (fun b : Nat × Int32 × Int32 × Zc => Zz p l e (zRm 7 156 0 0) s m args below meth cd Q D cid B 4 0 0 b.2.2.2 40 [(0, .ref b.1), (1, .int b.2.1), (2, .int b.2.2.1)] []) b) : Zz p l e (zRm 7 156 0 0) s m args below meth cd Q D cid B 4 0 0 c 34 [(0, .ref x0), (1, .int x1), (2, .int x2)] [] := by
  unfold f_Tokens_takeToken_34 at h
  refine z_iinc (v := (x2 + 1)) (lv' := [(2, .int (x2 + 1)), (0, .ref x0), (1, .int x1)]) X dd_Tokens_takeToken_34 2 rfl rfl (by decide) rfl ?_
  refine z_goto (tgt := 2) X dd_Tokens_takeToken_37 (by decide) ?_
  refine z_sub [1, 2, 0] rfl ?_
  obtain rfl := Option.some.inj h
  exact k0 _ rfl
set_option maxRecDepth 100000 in
set_option maxHeartbeats 4000000 in
theorem u_Tokens_takeToken_2  (X : zX p s m args cd D cid B bb_Tokens_takeToken 4 rr_Tokens zT) (H : zH s meth B n0 (some (.int)) "takeToken") {nf : Nat} {x0 : Nat} {x1 : Int32} {x2 : Int32} {c : Zc} {r : (Nat × Int32 × Int32 × Zc) ⊕ (Nat × Int32 × Int32 × Zc)} (h : g_Tokens_takeToken_2 nf x0 x1 x2 c = some r) (k0 : ∀ a, r = .inl a → (fun a : Nat × Int32 × Int32 × Zc => Zz p l e (zRm 7 156 0 0) s m args below meth cd Q D cid B 4 0 0 a.2.2.2 2 [(0, .ref a.1), (1, .int a.2.1), (2, .int a.2.2.1)] []) a) (k1 : ∀ b, r = .inr b → (fun b : Nat × Int32 × Int32 × Zc => Zz p l e (zRm 7 156 0 0) s m args below meth cd Q D cid B 4 0 0 b.2.2.2 40 [(0, .ref b.1), (1, .int b.2.1), (2, .int b.2.2.1)] []) b) : Zz p l e (zRm 7 156 0 0) s m args below meth cd Q D cid B 4 0 0 c 2 [(0, .ref x0), (1, .int x1), (2, .int x2)] [] := by
  unfold g_Tokens_takeToken_2 at h
  refine z_iload_n X dd_Tokens_takeToken_2 rfl 2 rfl ?_
  refine z_aload_n X dd_Tokens_takeToken_3 rfl 0 rfl ?_
  obtain ⟨v1, ev1, h⟩ := zb h
  refine z_get (j := 5) X dd_Tokens_takeToken_4 kc_3 ki_3 (by decide) km_425 (zgi_v ev1) ?_
  refine z_icmp_ge (tgt := 40) X dd_Tokens_takeToken_7 (by decide) (fun q2 => ?_) (fun q2 => ?_)
  · rw [if_pos q2] at h
    obtain rfl := Option.some.inj h
    exact k1 _ rfl
  · rw [if_neg q2] at h
    refine z_aload_n X dd_Tokens_takeToken_10 rfl 0 rfl ?_
    obtain ⟨v3, ev3, h⟩ := zb h
    refine z_get (j := 4) X dd_Tokens_takeToken_11 kc_3 ki_3 (by decide) km_424 (zgr_v ev3) ?_
    refine z_iload_n X dd_Tokens_takeToken_14 rfl 2 rfl ?_
    obtain ⟨v4, ev4, h⟩ := zb h
    refine z_baload X dd_Tokens_takeToken_15 rfl ev4 ?_
    obtain ⟨q5, eq5, h⟩ := zb h
    refine z_callSi X [.int v4] rfl dd_Tokens_takeToken_16 (c_Tokens_isLetter l eq5) (va_cwS 1 X.1.2.2.2.2 (zg_S km_851 km_852 km_131 km_853) rfl rfl rfl (by decide +kernel) ⟨Nat.le_of_ble_eq_true rfl, Nat.le_of_ble_eq_true rfl⟩) rfl (Nat.le_of_ble_eq_true rfl) ⟨Nat.le_of_ble_eq_true rfl, Nat.le_of_ble_eq_true rfl⟩ ?_
    refine z_if_ne (tgt := 34) X dd_Tokens_takeToken_19 (by decide) (fun q6 => ?_) (fun q6 => ?_)
    · rw [if_neg q6] at h
      exact t_Tokens_takeToken_34 X H h k0 k1
    · rw [if_pos q6] at h
      refine z_aload_n X dd_Tokens_takeToken_22 rfl 0 rfl ?_
      obtain ⟨v7, ev7, h⟩ := zb h
      refine z_get (j := 4) X dd_Tokens_takeToken_23 kc_3 ki_3 (by decide) km_424 (zgr_v ev7) ?_
      refine z_iload_n X dd_Tokens_takeToken_26 rfl 2 rfl ?_
      obtain ⟨v8, ev8, h⟩ := zb h
      refine z_baload X dd_Tokens_takeToken_27 rfl ev8 ?_
      obtain ⟨q9, eq9, h⟩ := zb h
      refine z_callSi X [.int v8] rfl dd_Tokens_takeToken_28 (c_Tokens_isDigit l eq9) (va_cwS 1 X.1.2.2.2.2 (zg_S km_854 km_855 km_131 km_856) rfl rfl rfl (by decide +kernel) ⟨Nat.le_of_ble_eq_true rfl, Nat.le_of_ble_eq_true rfl⟩) rfl (Nat.le_of_ble_eq_true rfl) ⟨Nat.le_of_ble_eq_true rfl, Nat.le_of_ble_eq_true rfl⟩ ?_
      refine z_if_eq (tgt := 40) X dd_Tokens_takeToken_31 (by decide) (fun q10 => ?_) (fun q10 => ?_)
      · rw [if_pos q10] at h
        obtain rfl := Option.some.inj h
        exact k1 _ rfl
      · rw [if_neg q10] at h
        exact t_Tokens_takeToken_34 X H h k0 k1
set_option maxRecDepth 100000 in
set_option maxHeartbeats 4000000 in
theorem t_Tokens_takeToken_122  (X : zX p s m args cd D cid B bb_Tokens_takeToken 4 rr_Tokens zT) (H : zH s meth B n0 (some (.int)) "takeToken") {nf : Nat} {s0 : Int32} {c : Zc} {res : Int32 × Zc} (h : f_Tokens_takeToken_122 nf s0 c = some res) : Zz p l e (zRm 7 156 0 0) s m args below meth cd (MQ below (zQi D cid B res.1 res.2 n0 0) args s 0 0 (fun q => B ≤ q)) D cid B 4 0 0 c 122 [] [.int s0] := by
  unfold f_Tokens_takeToken_122 at h
  obtain rfl := Option.some.inj h
  exact z_iret X H.1 H.2.1 H.2.2.1 dd_Tokens_takeToken_122
set_option maxRecDepth 100000 in
set_option maxHeartbeats 4000000 in
theorem t_Tokens_takeToken_121  (X : zX p s m args cd D cid B bb_Tokens_takeToken 4 rr_Tokens zT) (H : zH s meth B n0 (some (.int)) "takeToken") {nf : Nat} {s0 : Int32} {s1 : Int32} {c : Zc} {res : Int32 × Zc} (h : f_Tokens_takeToken_121 nf s0 s1 c = some res) : Zz p l e (zRm 7 156 0 0) s m args below meth cd (MQ below (zQi D cid B res.1 res.2 n0 0) args s 0 0 (fun q => B ≤ q)) D cid B 4 0 0 c 121 [] [.int s1, .int s0] := by
  unfold f_Tokens_takeToken_121 at h
  refine z_iadd X dd_Tokens_takeToken_121 ?_
  exact t_Tokens_takeToken_122 X H h
set_option maxRecDepth 100000 in
set_option maxHeartbeats 4000000 in
theorem t_Tokens_takeToken_59  (X : zX p s m args cd D cid B bb_Tokens_takeToken 4 rr_Tokens zT) (H : zH s meth B n0 (some (.int)) "takeToken") {nf : Nat} {x0 : Nat} {x1 : Int32} {x2 : Int32} {s0 : Int32} {c : Zc} {res : Int32 × Zc} (h : f_Tokens_takeToken_59 nf x0 x1 x2 s0 c = some res) : Zz p l e (zRm 7 156 0 0) s m args below meth cd (MQ below (zQi D cid B res.1 res.2 n0 0) args s 0 0 (fun q => B ≤ q)) D cid B 4 0 0 c 59 [(0, .ref x0), (1, .int x1), (2, .int x2)] [.int s0] := by
  unfold f_Tokens_takeToken_59 at h
  refine z_istore_n (lv' := [(3, .int s0), (0, .ref x0), (1, .int x1), (2, .int x2)]) X dd_Tokens_takeToken_59 rfl (by decide) rfl ?_
  refine z_aload_n X dd_Tokens_takeToken_60 rfl 1 rfl ?_
  obtain ⟨v14, ev14, h⟩ := zb h
  refine z_get (j := 0) X dd_Tokens_takeToken_61 kc_3 ki_3 (by decide) km_416 (zgr_v ev14) ?_
  refine z_aload_n X dd_Tokens_takeToken_64 rfl 1 rfl ?_
  obtain ⟨v15, ev15, h⟩ := zb h
  refine z_get (j := 3) X dd_Tokens_takeToken_65 kc_3 ki_3 (by decide) km_422 (zgi_v ev15) ?_
  refine z_iload_n X dd_Tokens_takeToken_68 rfl 0 rfl ?_
  obtain ⟨c16, ec16, h⟩ := zb h
  refine z_iastore X dd_Tokens_takeToken_69 rfl ec16 ?_
  refine z_aload_n X dd_Tokens_takeToken_70 rfl 1 rfl ?_
  obtain ⟨v17, ev17, h⟩ := zb h
  refine z_get (j := 2) X dd_Tokens_takeToken_71 kc_3 ki_3 (by decide) km_420 (zgr_v ev17) ?_
  refine z_aload_n X dd_Tokens_takeToken_74 rfl 1 rfl ?_
  obtain ⟨v18, ev18, h⟩ := zb h
  refine z_get (j := 3) X dd_Tokens_takeToken_75 kc_3 ki_3 (by decide) km_422 (zgi_v ev18) ?_
  refine z_iload_n X dd_Tokens_takeToken_78 rfl 2 rfl ?_
  obtain ⟨c19, ec19, h⟩ := zb h
  refine z_iastore X dd_Tokens_takeToken_79 rfl ec19 ?_
  refine z_aload_n X dd_Tokens_takeToken_80 rfl 1 rfl ?_
  refine z_dup X dd_Tokens_takeToken_81 rfl ?_
  obtain ⟨v20, ev20, h⟩ := zb h
  refine z_get (j := 3) X dd_Tokens_takeToken_82 kc_3 ki_3 (by decide) km_422 (zgi_v ev20) ?_
  refine z_iconst (v := 1) X dd_Tokens_takeToken_85 (by decide) ?_
  refine z_iadd X dd_Tokens_takeToken_86 ?_
  obtain ⟨c21, ec21, h⟩ := zb h
  refine z_put (j := 3) X dd_Tokens_takeToken_87 kc_3 ki_3 tt_Tokens tk_Tokens nn_Tokens (by decide) km_422 rfl (tk_Tokens 3 (by decide)) rfl rfl ec21 ?_
  refine z_iload_n X dd_Tokens_takeToken_90 rfl 0 rfl ?_
  refine z_if_ne (tgt := 99) X dd_Tokens_takeToken_91 (by decide) (fun q22 => ?_) (fun q22 => ?_)
  · rw [if_neg q22] at h
    refine z_iload_n X dd_Tokens_takeToken_99 rfl 3 rfl ?_
    refine z_iload_n X dd_Tokens_takeToken_100 rfl 2 rfl ?_
    refine z_icmp_le (tgt := 108) X dd_Tokens_takeToken_101 (by decide) (fun q23 => ?_) (fun q23 => ?_)
    · rw [if_pos q23] at h
      refine z_iload_n X dd_Tokens_takeToken_108 rfl 2 rfl ?_
      refine z_iload_n X dd_Tokens_takeToken_109 rfl 0 rfl ?_
      refine z_sipush (v := 256) X dd_Tokens_takeToken_110 (by decide) ?_
      refine z_icmp_lt (tgt := 120) X dd_Tokens_takeToken_113 (by decide) (fun q24 => ?_) (fun q24 => ?_)
      · rw [if_pos q24] at h
        refine z_iconst (v := 1) X dd_Tokens_takeToken_120 (by decide) ?_
        refine z_sub [] rfl ?_
        exact t_Tokens_takeToken_121 X H h
      · rw [if_neg q24] at h
        refine z_iconst (v := 2) X dd_Tokens_takeToken_116 (by decide) ?_
        refine z_goto (tgt := 121) X dd_Tokens_takeToken_117 (by decide) ?_
        refine z_sub [] rfl ?_
        exact t_Tokens_takeToken_121 X H h
    · rw [if_neg q23] at h
      refine z_iload_n X dd_Tokens_takeToken_104 rfl 3 rfl ?_
      refine z_goto (tgt := 122) X dd_Tokens_takeToken_105 (by decide) ?_
      refine z_sub [] rfl ?_
      exact t_Tokens_takeToken_122 X H h
  · rw [if_pos q22] at h
    refine z_aload_n X dd_Tokens_takeToken_94 rfl 1 rfl ?_
    obtain ⟨v25, ev25, h⟩ := zb h
    refine z_get (j := 5) X dd_Tokens_takeToken_95 kc_3 ki_3 (by decide) km_425 (zgi_v ev25) ?_
    obtain rfl := Option.some.inj h
    exact z_iret X H.1 H.2.1 H.2.2.1 dd_Tokens_takeToken_98
set_option maxRecDepth 100000 in
set_option maxHeartbeats 4000000 in
theorem t_Tokens_takeToken_40  (X : zX p s m args cd D cid B bb_Tokens_takeToken 4 rr_Tokens zT) (H : zH s meth B n0 (some (.int)) "takeToken") {nf : Nat} {x0 : Nat} {x1 : Int32} {x2 : Int32} {c : Zc} {res : Int32 × Zc} (h : f_Tokens_takeToken_40 nf x0 x1 x2 c = some res) : Zz p l e (zRm 7 156 0 0) s m args below meth cd (MQ below (zQi D cid B res.1 res.2 n0 0) args s 0 0 (fun q => B ≤ q)) D cid B 4 0 0 c 40 [(0, .ref x0), (1, .int x1), (2, .int x2)] [] := by
  unfold f_Tokens_takeToken_40 at h
  refine z_iload_n X dd_Tokens_takeToken_40 rfl 2 rfl ?_
  refine z_iload_n X dd_Tokens_takeToken_41 rfl 1 rfl ?_
  refine z_icmp_le (tgt := 54) X dd_Tokens_takeToken_42 (by decide) (fun q11 => ?_) (fun q11 => ?_)
  · rw [if_pos q11] at h
    refine z_aload_n X dd_Tokens_takeToken_54 rfl 0 rfl ?_
    refine z_iload_n X dd_Tokens_takeToken_55 rfl 1 rfl ?_
    obtain ⟨w13, ew13, h⟩ := zb h
    obtain ⟨q12, eq12, h⟩ := zb h
    refine z_callVi X [.int x1] rfl dd_Tokens_takeToken_56 (c_Tokens_signKind l eq12) (cwV 1 X.1.2.2.2.2 (zg_V km_989 km_991 km_9 km_131 km_992) rfl rfl rfl (by decide +kernel) ⟨Nat.le_of_ble_eq_true rfl, Nat.le_of_ble_eq_true rfl⟩) (zob_s ew13) kc_3 rfl (Nat.le_of_ble_eq_true rfl) ⟨Nat.le_of_ble_eq_true rfl, Nat.le_of_ble_eq_true rfl⟩ ?_
    exact t_Tokens_takeToken_59 X H h
  · rw [if_neg q11] at h
    refine z_aload_n X dd_Tokens_takeToken_45 rfl 0 rfl ?_
    refine z_iload_n X dd_Tokens_takeToken_46 rfl 1 rfl ?_
    refine z_iload_n X dd_Tokens_takeToken_47 rfl 2 rfl ?_
    obtain ⟨w27, ew27, h⟩ := zb h
    obtain ⟨q26, eq26, h⟩ := zb h
    refine z_callVi X [.int x1, .int x2] rfl dd_Tokens_takeToken_48 (c_Tokens_nameKind l eq26) (cwV 2 X.1.2.2.2.2 (zg_V km_857 km_859 km_3 km_131 km_860) rfl rfl rfl (by decide +kernel) ⟨Nat.le_of_ble_eq_true rfl, Nat.le_of_ble_eq_true rfl⟩) (zob_s ew27) kc_3 rfl (Nat.le_of_ble_eq_true rfl) ⟨Nat.le_of_ble_eq_true rfl, Nat.le_of_ble_eq_true rfl⟩ ?_
    refine z_goto (tgt := 59) X dd_Tokens_takeToken_51 (by decide) ?_
    exact t_Tokens_takeToken_59 X H h
set_option maxRecDepth 100000 in
set_option maxHeartbeats 4000000 in
theorem t_Tokens_takeToken_2  (X : zX p s m args cd D cid B bb_Tokens_takeToken 4 rr_Tokens zT) (H : zH s meth B n0 (some (.int)) "takeToken") {nf : Nat} {x0 : Nat} {x1 : Int32} {x2 : Int32} {c : Zc} {res : Int32 × Zc} (h : f_Tokens_takeToken_2 nf x0 x1 x2 c = some res) : Zz p l e (zRm 7 156 0 0) s m args below meth cd (MQ below (zQi D cid B res.1 res.2 n0 0) args s 0 0 (fun q => B ≤ q)) D cid B 4 0 0 c 2 [(0, .ref x0), (1, .int x1), (2, .int x2)] [] := by
  unfold f_Tokens_takeToken_2 at h
  obtain ⟨b, eb, h⟩ := zb h
  refine zlp_ok (P := fun a : Nat × Int32 × Int32 × Zc => Zz p l e (zRm 7 156 0 0) s m args below meth cd _ D cid B 4 0 0 a.2.2.2 2 [(0, .ref a.1), (1, .int a.2.1), (2, .int a.2.2.1)] []) (G := fun b : Nat × Int32 × Int32 × Zc => Zz p l e (zRm 7 156 0 0) s m args below meth cd _ D cid B 4 0 0 b.2.2.2 40 [(0, .ref b.1), (1, .int b.2.1), (2, .int b.2.2.1)] []) (fun a r ha k0 k1 => u_Tokens_takeToken_2 X H ha k0 k1) nf _ b eb ?_
  exact t_Tokens_takeToken_40 X H h
set_option maxRecDepth 100000 in
set_option maxHeartbeats 4000000 in
theorem c_Tokens_takeToken (l : Launch) {nf : Nat} {a0 : Nat} {a1 : Int32} {c : Zc} {res : Int32 × Zc} (h : f_Tokens_takeToken nf a0 a1 c = some res) : zM l yy_Tokens_takeToken ww_Tokens_takeToken 7 156 0 0 [.ref a0, .int a1] c (fun D cid B => zQi D cid B res.1 res.2 c.length 0) := by
  refine z_met (cc := bb_Tokens_takeToken) (maxL := 4) (ret := (some (.int))) (by decide +kernel) rfl (Nat.le_of_ble_eq_true rfl) ?_
  intro p e s m args below meth cd D cid B X h1 h2 h3 h4
  have X : zX p s m args cd D cid B bb_Tokens_takeToken 4 rr_Tokens zT := X
  have H : zH s meth B c.length (some (.int)) "takeToken" := ⟨h1, h2, h4, h3⟩
  unfold f_Tokens_takeToken at h
  show Zz p l e (zRm 7 156 0 0) s m args below meth cd _ D cid B 4 0 0 c 0 [(0, .ref a0), (1, .int a1)] []
  refine z_iload_n X dd_Tokens_takeToken_0 rfl 1 rfl ?_
  refine z_istore_n (lv' := [(2, .int a1), (0, .ref a0), (1, .int a1)]) X dd_Tokens_takeToken_1 rfl (by decide) rfl ?_
  refine z_sub [1, 2, 0] rfl ?_
  exact t_Tokens_takeToken_2 X H h
theorem dd_Tokens_split_0 : decode bb_Tokens_split 0 = .ok (.aload_n 0, 1) := by decide +kernel
theorem dd_Tokens_split_1 : decode bb_Tokens_split 1 = .ok (.aload_n 1, 1) := by decide +kernel
theorem dd_Tokens_split_2 : decode bb_Tokens_split 2 = .ok (.putfield 25, 3) := by decide +kernel
theorem dd_Tokens_split_5 : decode bb_Tokens_split 5 = .ok (.aload_n 0, 1) := by decide +kernel
theorem dd_Tokens_split_6 : decode bb_Tokens_split 6 = .ok (.iload_n 2, 1) := by decide +kernel
theorem dd_Tokens_split_7 : decode bb_Tokens_split 7 = .ok (.aload_n 1, 1) := by decide +kernel
theorem dd_Tokens_split_8 : decode bb_Tokens_split 8 = .ok (.arraylength, 1) := by decide +kernel
theorem dd_Tokens_split_9 : decode bb_Tokens_split 9 = .ok (.invokestatic 32, 3) := by decide +kernel
theorem dd_Tokens_split_12 : decode bb_Tokens_split 12 = .ok (.putfield 29, 3) := by decide +kernel
theorem dd_Tokens_split_15 : decode bb_Tokens_split 15 = .ok (.aload_n 0, 1) := by decide +kernel
theorem dd_Tokens_split_16 : decode bb_Tokens_split 16 = .ok (.iconst 0, 1) := by decide +kernel
theorem dd_Tokens_split_17 : decode bb_Tokens_split 17 = .ok (.putfield 21, 3) := by decide +kernel
theorem dd_Tokens_split_20 : decode bb_Tokens_split 20 = .ok (.iconst 0, 1) := by decide +kernel
theorem dd_Tokens_split_21 : decode bb_Tokens_split 21 = .ok (.istore_n 3, 1) := by decide +kernel
theorem dd_Tokens_split_22 : decode bb_Tokens_split 22 = .ok (.iconst 0, 1) := by decide +kernel
theorem dd_Tokens_split_23 : decode bb_Tokens_split 23 = .ok (.istore 4, 2) := by decide +kernel
theorem dd_Tokens_split_25 : decode bb_Tokens_split 25 = .ok (.iload 4, 2) := by decide +kernel
theorem dd_Tokens_split_27 : decode bb_Tokens_split 27 = .ok (.sipush 1500, 3) := by decide +kernel
theorem dd_Tokens_split_30 : decode bb_Tokens_split 30 = .ok (.if_icmp .ge 51, 3) := by decide +kernel
theorem dd_Tokens_split_33 : decode bb_Tokens_split 33 = .ok (.iload_n 3, 1) := by decide +kernel
theorem dd_Tokens_split_34 : decode bb_Tokens_split 34 = .ok (.aload_n 0, 1) := by decide +kernel
theorem dd_Tokens_split_35 : decode bb_Tokens_split 35 = .ok (.getfield 29, 3) := by decide +kernel
theorem dd_Tokens_split_38 : decode bb_Tokens_split 38 = .ok (.if_icmp .ge 43, 3) := by decide +kernel
theorem dd_Tokens_split_41 : decode bb_Tokens_split 41 = .ok (.aload_n 0, 1) := by decide +kernel
theorem dd_Tokens_split_42 : decode bb_Tokens_split 42 = .ok (.getfield 21, 3) := by decide +kernel
theorem dd_Tokens_split_45 : decode bb_Tokens_split 45 = .ok (.sipush 200, 3) := by decide +kernel
theorem dd_Tokens_split_48 : decode bb_Tokens_split 48 = .ok (.if_icmp .gt 33, 3) := by decide +kernel
theorem dd_Tokens_split_51 : decode bb_Tokens_split 51 = .ok (.aload_n 0, 1) := by decide +kernel
theorem dd_Tokens_split_52 : decode bb_Tokens_split 52 = .ok (.getfield 25, 3) := by decide +kernel
theorem dd_Tokens_split_55 : decode bb_Tokens_split 55 = .ok (.iload_n 3, 1) := by decide +kernel
theorem dd_Tokens_split_56 : decode bb_Tokens_split 56 = .ok (.baload, 1) := by decide +kernel
theorem dd_Tokens_split_57 : decode bb_Tokens_split 57 = .ok (.invokestatic 38, 3) := by decide +kernel
theorem dd_Tokens_split_60 : decode bb_Tokens_split 60 = .ok (.ifCond .eq 9, 3) := by decide +kernel
theorem dd_Tokens_split_63 : decode bb_Tokens_split 63 = .ok (.iinc 3 1, 3) := by decide +kernel
theorem dd_Tokens_split_66 : decode bb_Tokens_split 66 = .ok (.goto 9, 3) := by decide +kernel
theorem dd_Tokens_split_69 : decode bb_Tokens_split 69 = .ok (.aload_n 0, 1) := by decide +kernel
theorem dd_Tokens_split_70 : decode bb_Tokens_split 70 = .ok (.iload_n 3, 1) := by decide +kernel
theorem dd_Tokens_split_71 : decode bb_Tokens_split 71 = .ok (.invokevirtual 42, 3) := by decide +kernel
theorem dd_Tokens_split_74 : decode bb_Tokens_split 74 = .ok (.istore_n 3, 1) := by decide +kernel
theorem dd_Tokens_split_75 : decode bb_Tokens_split 75 = .ok (.iinc 4 1, 3) := by decide +kernel
theorem dd_Tokens_split_78 : decode bb_Tokens_split 78 = .ok (.goto (-53), 3) := by decide +kernel
theorem dd_Tokens_split_81 : decode bb_Tokens_split 81 = .ok (.aload_n 0, 1) := by decide +kernel
theorem dd_Tokens_split_82 : decode bb_Tokens_split 82 = .ok (.getfield 9, 3) := by decide +kernel
theorem dd_Tokens_split_85 : decode bb_Tokens_split 85 = .ok (.aload_n 0, 1) := by decide +kernel
theorem dd_Tokens_split_86 : decode bb_Tokens_split 86 = .ok (.getfield 21, 3) := by decide +kernel
theorem dd_Tokens_split_89 : decode bb_Tokens_split 89 = .ok (.iconst 1, 1) := by decide +kernel
theorem dd_Tokens_split_90 : decode bb_Tokens_split 90 = .ok (.iastore, 1) := by decide +kernel
theorem dd_Tokens_split_91 : decode bb_Tokens_split 91 = .ok (.aload_n 0, 1) := by decide +kernel
theorem dd_Tokens_split_92 : decode bb_Tokens_split 92 = .ok (.getfield 15, 3) := by decide +kernel
theorem dd_Tokens_split_95 : decode bb_Tokens_split 95 = .ok (.aload_n 0, 1) := by decide +kernel
theorem dd_Tokens_split_96 : decode bb_Tokens_split 96 = .ok (.getfield 21, 3) := by decide +kernel
theorem dd_Tokens_split_99 : decode bb_Tokens_split 99 = .ok (.iconst 0, 1) := by decide +kernel
theorem dd_Tokens_split_100 : decode bb_Tokens_split 100 = .ok (.iastore, 1) := by decide +kernel
theorem dd_Tokens_split_101 : decode bb_Tokens_split 101 = .ok (.aload_n 0, 1) := by decide +kernel
theorem dd_Tokens_split_102 : decode bb_Tokens_split 102 = .ok (.getfield 18, 3) := by decide +kernel
theorem dd_Tokens_split_105 : decode bb_Tokens_split 105 = .ok (.aload_n 0, 1) := by decide +kernel
theorem dd_Tokens_split_106 : decode bb_Tokens_split 106 = .ok (.getfield 21, 3) := by decide +kernel
theorem dd_Tokens_split_109 : decode bb_Tokens_split 109 = .ok (.aload_n 0, 1) := by decide +kernel
theorem dd_Tokens_split_110 : decode bb_Tokens_split 110 = .ok (.getfield 29, 3) := by decide +kernel
theorem dd_Tokens_split_113 : decode bb_Tokens_split 113 = .ok (.iastore, 1) := by decide +kernel
theorem dd_Tokens_split_114 : decode bb_Tokens_split 114 = .ok (.return_, 1) := by decide +kernel
set_option maxRecDepth 100000 in
set_option maxHeartbeats 4000000 in
theorem t_Tokens_split_75  (X : zX p s m args cd D cid B bb_Tokens_split 5 rr_Tokens zT) (H : zH s meth B n0 none "split") {nf : Nat} {x0 : Nat} {x3 : Int32} {x4 : Int32} {c : Zc} {r : (Nat × Int32 × Int32 × Zc) ⊕ (Nat × Zc)} (h : f_Tokens_split_75 nf x0 x3 x4 c = some r) (k0 : ∀ a, r = .inl a → (fun a : Nat × Int32 × Int32 × Zc => Zz p l e (zRm 8 179 0 0) s m args below meth cd Q D cid B 5 0 0 a.2.2.2 25 [(0, .ref a.1), (3, .int a.2.1), (4, .int a.2.2.1)] []) a) (k1 : ∀ b, r = .inr b → (fun b : Nat × Zc => Zz p l e (zRm 8 179 0 0) s m args below meth cd Q D cid B 5 0 0 b.2 81 [(0, .ref b.1)] []) b) : Zz p l e (zRm 8 179 0 0) s m args below meth cd Q D cid B 5 0 0 c 75 [(0, .ref x0), (3, .int x3), (4, .int x4)] [] := by
  unfold f_Tokens_split_75 at h
  refine z_iinc (v := (x4 + 1)) (lv' := [(4, .int (x4 + 1)), (0, .ref x0), (3, .int x3)]) X dd_Tokens_split_75 2 rfl rfl (by decide) rfl ?_
  refine z_goto (tgt := 25) X dd_Tokens_split_78 (by decide) ?_
  refine z_sub [1, 2, 0] rfl ?_
  obtain rfl := Option.some.inj h
  exact k0 _ rfl
set_option maxRecDepth 100000 in
set_option maxHeartbeats 4000000 in
theorem u_Tokens_split_25  (X : zX p s m args cd D cid B bb_Tokens_split 5 rr_Tokens zT) (H : zH s meth B n0 none "split") {nf : Nat} {x0 : Nat} {x3 : Int32} {x4 : Int32} {c : Zc} {r : (Nat × Int32 × Int32 × Zc) ⊕ (Nat × Zc)} (h : g_Tokens_split_25 nf x0 x3 x4 c = some r) (k0 : ∀ a, r = .inl a → (fun a : Nat × Int32 × Int32 × Zc => Zz p l e (zRm 8 179 0 0) s m args below meth cd Q D cid B 5 0 0 a.2.2.2 25 [(0, .ref a.1), (3, .int a.2.1), (4, .int a.2.2.1)] []) a) (k1 : ∀ b, r = .inr b → (fun b : Nat × Zc => Zz p l e (zRm 8 179 0 0) s m args below meth cd Q D cid B 5 0 0 b.2 81 [(0, .ref b.1)] []) b) : Zz p l e (zRm 8 179 0 0) s m args below meth cd Q D cid B 5 0 0 c 25 [(0, .ref x0), (3, .int x3), (4, .int x4)] [] := by
  unfold g_Tokens_split_25 at h
  refine z_iload X dd_Tokens_split_25 2 rfl ?_
  refine z_sipush (v := 1500) X dd_Tokens_split_27 (by decide) ?_
  refine z_icmp_ge (tgt := 81) X dd_Tokens_split_30 (by decide) (fun q6 => ?_) (fun q6 => ?_)
  · rw [if_pos q6] at h
    refine z_sub [0] rfl ?_
    obtain rfl := Option.some.inj h
    exact k1 _ rfl
  · rw [if_neg q6] at h
    refine z_iload_n X dd_Tokens_split_33 rfl 1 rfl ?_
    refine z_aload_n X dd_Tokens_split_34 rfl 0 rfl ?_
    obtain ⟨v7, ev7, h⟩ := zb h
    refine z_get (j := 5) X dd_Tokens_split_35 kc_3 ki_3 (by decide) km_425 (zgi_v ev7) ?_
    refine z_icmp_ge (tgt := 81) X dd_Tokens_split_38 (by decide) (fun q8 => ?_) (fun q8 => ?_)
    · rw [if_pos q8] at h
      refine z_sub [0] rfl ?_
      obtain rfl := Option.some.inj h
      exact k1 _ rfl
    · rw [if_neg q8] at h
      refine z_aload_n X dd_Tokens_split_41 rfl 0 rfl ?_
      obtain ⟨v9, ev9, h⟩ := zb h
      refine z_get (j := 3) X dd_Tokens_split_42 kc_3 ki_3 (by decide) km_422 (zgi_v ev9) ?_
      refine z_sipush (v := 200) X dd_Tokens_split_45 (by decide) ?_
      refine z_icmp_gt (tgt := 81) X dd_Tokens_split_48 (by decide) (fun q10 => ?_) (fun q10 => ?_)
      · rw [if_pos q10] at h
        refine z_sub [0] rfl ?_
        obtain rfl := Option.some.inj h
        exact k1 _ rfl
      · rw [if_neg q10] at h
        refine z_aload_n X dd_Tokens_split_51 rfl 0 rfl ?_
        obtain ⟨v11, ev11, h⟩ := zb h
        refine z_get (j := 4) X dd_Tokens_split_52 kc_3 ki_3 (by decide) km_424 (zgr_v ev11) ?_
        refine z_iload_n X dd_Tokens_split_55 rfl 1 rfl ?_
        obtain ⟨v12, ev12, h⟩ := zb h
        refine z_baload X dd_Tokens_split_56 rfl ev12 ?_
        obtain ⟨q13, eq13, h⟩ := zb h
        refine z_callSi X [.int v12] rfl dd_Tokens_split_57 (c_Tokens_isBlank l eq13) (va_cwS 1 X.1.2.2.2.2 (zg_S km_844 km_845 km_131 km_846) rfl rfl rfl (by decide +kernel) ⟨Nat.le_of_ble_eq_true rfl, Nat.le_of_ble_eq_true rfl⟩) rfl (Nat.le_of_ble_eq_true rfl) ⟨Nat.le_of_ble_eq_true rfl, Nat.le_of_ble_eq_true rfl⟩ ?_
        refine z_if_eq (tgt := 69) X dd_Tokens_split_60 (by decide) (fun q14 => ?_) (fun q14 => ?_)
        · rw [if_pos q14] at h
          refine z_aload_n X dd_Tokens_split_69 rfl 0 rfl ?_
          refine z_iload_n X dd_Tokens_split_70 rfl 1 rfl ?_
          obtain ⟨w16, ew16, h⟩ := zb h
          obtain ⟨q15, eq15, h⟩ := zb h
          refine z_callVi X [.int x3] rfl dd_Tokens_split_71 (c_Tokens_takeToken l eq15) (cwV 1 X.1.2.2.2.2 (zg_V km_847 km_849 km_2 km_131 km_850) rfl rfl rfl (by decide +kernel) ⟨Nat.le_of_ble_eq_true rfl, Nat.le_of_ble_eq_true rfl⟩) (zob_s ew16) kc_3 rfl (Nat.le_of_ble_eq_true rfl) ⟨Nat.le_of_ble_eq_true rfl, Nat.le_of_ble_eq_true rfl⟩ ?_
          refine z_istore_n (lv' := [(3, .int q15.1), (0, .ref x0), (4, .int x4)]) X dd_Tokens_split_74 rfl (by decide) rfl ?_
          refine z_sub [1, 0, 2] rfl ?_
          exact t_Tokens_split_75 X H h k0 k1
        · rw [if_neg q14] at h
          refine z_iinc (v := (x3 + 1)) (lv' := [(3, .int (x3 + 1)), (0, .ref x0), (4, .int x4)]) X dd_Tokens_split_63 1 rfl rfl (by decide) rfl ?_
          refine z_goto (tgt := 75) X dd_Tokens_split_66 (by decide) ?_
          refine z_sub [1, 0, 2] rfl ?_
          exact t_Tokens_split_75 X H h k0 k1
set_option maxRecDepth 100000 in
set_option maxHeartbeats 4000000 in
theorem t_Tokens_split_81  (X : zX p s m args cd D cid B bb_Tokens_split 5 rr_Tokens zT) (H : zH s meth B n0 none "split") {nf : Nat} {x0 : Nat} {c : Zc} {res : Zc} (h : f_Tokens_split_81 nf x0 c = some res) : Zz p l e (zRm 8 179 0 0) s m args below meth cd (MQ below (zQv D cid B res n0 0) args s 0 0 (fun q => B ≤ q)) D cid B 5 0 0 c 81 [(0, .ref x0)] [] := by
  unfold f_Tokens_split_81 at h
  refine z_aload_n X dd_Tokens_split_81 rfl 0 rfl ?_
  obtain ⟨v17, ev17, h⟩ := zb h
  refine z_get (j := 0) X dd_Tokens_split_82 kc_3 ki_3 (by decide) km_416 (zgr_v ev17) ?_
  refine z_aload_n X dd_Tokens_split_85 rfl 0 rfl ?_
  obtain ⟨v18, ev18, h⟩ := zb h
  refine z_get (j := 3) X dd_Tokens_split_86 kc_3 ki_3 (by decide) km_422 (zgi_v ev18) ?_
  refine z_iconst (v := 1) X dd_Tokens_split_89 (by decide) ?_
  obtain ⟨c19, ec19, h⟩ := zb h
  refine z_iastore X dd_Tokens_split_90 rfl ec19 ?_
  refine z_aload_n X dd_Tokens_split_91 rfl 0 rfl ?_
  obtain ⟨v20, ev20, h⟩ := zb h
  refine z_get (j := 1) X dd_Tokens_split_92 kc_3 ki_3 (by decide) km_418 (zgr_v ev20) ?_
  refine z_aload_n X dd_Tokens_split_95 rfl 0 rfl ?_
  obtain ⟨v21, ev21, h⟩ := zb h
  refine z_get (j := 3) X dd_Tokens_split_96 kc_3 ki_3 (by decide) km_422 (zgi_v ev21) ?_
  refine z_iconst (v := 0) X dd_Tokens_split_99 (by decide) ?_
  obtain ⟨c22, ec22, h⟩ := zb h
  refine z_iastore X dd_Tokens_split_100 rfl ec22 ?_
  refine z_aload_n X dd_Tokens_split_101 rfl 0 rfl ?_
  obtain ⟨v23, ev23, h⟩ := zb h
  refine z_get (j := 2) X dd_Tokens_split_102 kc_3 ki_3 (by decide) km_420 (zgr_v ev23) ?_
  refine z_aload_n X dd_Tokens_split_105 rfl 0 rfl ?_
  obtain ⟨v24, ev24, h⟩ := zb h
  refine z_get (j := 3) X dd_Tokens_split_106 kc_3 ki_3 (by decide) km_422 (zgi_v ev24) ?_
  refine z_aload_n X dd_Tokens_split_109 rfl 0 rfl ?_
  obtain ⟨v25, ev25, h⟩ := zb h
  refine z_get (j := 5) X dd_Tokens_split_110 kc_3 ki_3 (by decide) km_425 (zgi_v ev25) ?_
  obtain ⟨c26, ec26, h⟩ := zb h
  refine z_iastore X dd_Tokens_split_113 rfl ec26 ?_
  obtain rfl := Option.some.inj h
  exact z_vret X H.1 H.2.1 H.2.2.1 dd_Tokens_split_114
set_option maxRecDepth 100000 in
set_option maxHeartbeats 4000000 in
theorem t_Tokens_split_25  (X : zX p s m args cd D cid B bb_Tokens_split 5 rr_Tokens zT) (H : zH s meth B n0 none "split") {nf : Nat} {x0 : Nat} {x3 : Int32} {x4 : Int32} {c : Zc} {res : Zc} (h : f_Tokens_split_25 nf x0 x3 x4 c = some res) : Zz p l e (zRm 8 179 0 0) s m args below meth cd (MQ below (zQv D cid B res n0 0) args s 0 0 (fun q => B ≤ q)) D cid B 5 0 0 c 25 [(0, .ref x0), (3, .int x3), (4, .int x4)] [] := by
  unfold f_Tokens_split_25 at h
  obtain ⟨b, eb, h⟩ := zb h
  refine zlp_ok (P := fun a : Nat × Int32 × Int32 × Zc => Zz p l e (zRm 8 179 0 0) s m args below meth cd _ D cid B 5 0 0 a.2.2.2 25 [(0, .ref a.1), (3, .int a.2.1), (4, .int a.2.2.1)] []) (G := fun b : Nat × Zc => Zz p l e (zRm 8 179 0 0) s m args below meth cd _ D cid B 5 0 0 b.2 81 [(0, .ref b.1)] []) (fun a r ha k0 k1 => u_Tokens_split_25 X H ha k0 k1) nf _ b eb ?_
  exact t_Tokens_split_81 X H h
set_option maxRecDepth 100000 in
set_option maxHeartbeats 4000000 in
theorem c_Tokens_split (l : Launch) {nf : Nat} {a0 : Nat} {a1 : Nat} {a2 : Int32} {c : Zc} {res : Zc} (h : f_Tokens_split nf a0 a1 a2 c = some res) : zM l yy_Tokens_split ww_Tokens_split 8 179 0 0 [.ref a0, .ref a1, .int a2] c (fun D cid B => zQv D cid B res c.length 0) := by
  refine z_met (cc := bb_Tokens_split) (maxL := 5) (ret := none) (by decide +kernel) rfl (Nat.le_of_ble_eq_true rfl) ?_
  intro p e s m args below meth cd D cid B X h1 h2 h3 h4
  have X : zX p s m args cd D cid B bb_Tokens_split 5 rr_Tokens zT := X
  have H : zH s meth B c.length none "split" := ⟨h1, h2, h4, h3⟩
  unfold f_Tokens_split at h
  show Zz p l e (zRm 8 179 0 0) s m args below meth cd _ D cid B 5 0 0 c 0 [(0, .ref a0), (1, .ref a1), (2, .int a2)] []
  refine z_aload_n X dd_Tokens_split_0 rfl 0 rfl ?_
  refine z_aload_n X dd_Tokens_split_1 rfl 1 rfl ?_
  obtain ⟨c1, ec1, h⟩ := zb h
  refine z_put (j := 4) X dd_Tokens_split_2 kc_3 ki_3 tt_Tokens tk_Tokens nn_Tokens (by decide) km_424 rfl (tk_Tokens 4 (by decide)) rfl rfl ec1 ?_
  refine z_aload_n X dd_Tokens_split_5 rfl 0 rfl ?_
  refine z_iload_n X dd_Tokens_split_6 rfl 2 rfl ?_
  refine z_aload_n X dd_Tokens_split_7 rfl 1 rfl ?_
  obtain ⟨v2, ev2, h⟩ := zb h
  refine z_alen X dd_Tokens_split_8 rfl ev2 ?_
  obtain ⟨q3, eq3, h⟩ := zb h
  refine z_callSi X [.int a2, .int v2] rfl dd_Tokens_split_9 (c_Math_min_0 l eq3) (va_cwS 2 X.1.2.2.2.2 (zg_S km_841 km_842 km_139 km_843) rfl rfl rfl (by decide +kernel) ⟨Nat.le_of_ble_eq_true rfl, Nat.le_of_ble_eq_true rfl⟩) rfl (Nat.le_of_ble_eq_true rfl) ⟨Nat.le_of_ble_eq_true rfl, Nat.le_of_ble_eq_true rfl⟩ ?_
  obtain ⟨c4, ec4, h⟩ := zb h
  refine z_put (j := 5) X dd_Tokens_split_12 kc_3 ki_3 tt_Tokens tk_Tokens nn_Tokens (by decide) km_425 rfl (tk_Tokens 5 (by decide)) rfl rfl ec4 ?_
  refine z_aload_n X dd_Tokens_split_15 rfl 0 rfl ?_
  refine z_iconst (v := 0) X dd_Tokens_split_16 (by decide) ?_
  obtain ⟨c5, ec5, h⟩ := zb h
  refine z_put (j := 3) X dd_Tokens_split_17 kc_3 ki_3 tt_Tokens tk_Tokens nn_Tokens (by decide) km_422 rfl (tk_Tokens 3 (by decide)) rfl rfl ec5 ?_
  refine z_iconst (v := 0) X dd_Tokens_split_20 (by decide) ?_
  refine z_istore_n (lv' := [(3, .int 0), (0, .ref a0), (1, .ref a1), (2, .int a2)]) X dd_Tokens_split_21 rfl (by decide) rfl ?_
  refine z_iconst (v := 0) X dd_Tokens_split_22 (by decide) ?_
  refine z_istore (lv' := [(4, .int 0), (3, .int 0), (0, .ref a0), (1, .ref a1), (2, .int a2)]) X dd_Tokens_split_23 (by decide) rfl ?_
  refine z_sub [2, 1, 0] rfl ?_
  exact t_Tokens_split_25 X H h
theorem dd_Operators_init_0 : decode bb_Operators_init 0 = .ok (.aload_n 0, 1) := by decide +kernel
theorem dd_Operators_init_1 : decode bb_Operators_init 1 = .ok (.invokespecial 3, 3) := by decide +kernel
theorem dd_Operators_init_4 : decode bb_Operators_init 4 = .ok (.aload_n 0, 1) := by decide +kernel
theorem dd_Operators_init_5 : decode bb_Operators_init 5 = .ok (.iconst 0, 1) := by decide +kernel
theorem dd_Operators_init_6 : decode bb_Operators_init 6 = .ok (.putfield 9, 3) := by decide +kernel
theorem dd_Operators_init_9 : decode bb_Operators_init 9 = .ok (.aload_n 0, 1) := by decide +kernel
theorem dd_Operators_init_10 : decode bb_Operators_init 10 = .ok (.iconst 0, 1) := by decide +kernel
theorem dd_Operators_init_11 : decode bb_Operators_init 11 = .ok (.putfield 15, 3) := by decide +kernel
theorem dd_Operators_init_14 : decode bb_Operators_init 14 = .ok (.aload_n 0, 1) := by decide +kernel
theorem dd_Operators_init_15 : decode bb_Operators_init 15 = .ok (.iconst 0, 1) := by decide +kernel
theorem dd_Operators_init_16 : decode bb_Operators_init 16 = .ok (.putfield 18, 3) := by decide +kernel
theorem dd_Operators_init_19 : decode bb_Operators_init 19 = .ok (.aload_n 0, 1) := by decide +kernel
theorem dd_Operators_init_20 : decode bb_Operators_init 20 = .ok (.iconst 0, 1) := by decide +kernel
theorem dd_Operators_init_21 : decode bb_Operators_init 21 = .ok (.putfield 21, 3) := by decide +kernel
theorem dd_Operators_init_24 : decode bb_Operators_init 24 = .ok (.aload_n 0, 1) := by decide +kernel
theorem dd_Operators_init_25 : decode bb_Operators_init 25 = .ok (.bipush 80, 2) := by decide +kernel
theorem dd_Operators_init_27 : decode bb_Operators_init 27 = .ok (.newarray .int, 2) := by decide +kernel
theorem dd_Operators_init_29 : decode bb_Operators_init 29 = .ok (.putfield 24, 3) := by decide +kernel
theorem dd_Operators_init_32 : decode bb_Operators_init 32 = .ok (.aload_n 0, 1) := by decide +kernel
theorem dd_Operators_init_33 : decode bb_Operators_init 33 = .ok (.bipush 80, 2) := by decide +kernel
theorem dd_Operators_init_35 : decode bb_Operators_init 35 = .ok (.newarray .int, 2) := by decide +kernel
theorem dd_Operators_init_37 : decode bb_Operators_init 37 = .ok (.putfield 28, 3) := by decide +kernel
theorem dd_Operators_init_40 : decode bb_Operators_init 40 = .ok (.aload_n 0, 1) := by decide +kernel
theorem dd_Operators_init_41 : decode bb_Operators_init 41 = .ok (.bipush 80, 2) := by decide +kernel
theorem dd_Operators_init_43 : decode bb_Operators_init 43 = .ok (.newarray .int, 2) := by decide +kernel
theorem dd_Operators_init_45 : decode bb_Operators_init 45 = .ok (.putfield 31, 3) := by decide +kernel
theorem dd_Operators_init_48 : decode bb_Operators_init 48 = .ok (.aload_n 0, 1) := by decide +kernel
theorem dd_Operators_init_49 : decode bb_Operators_init 49 = .ok (.aload_n 1, 1) := by decide +kernel
theorem dd_Operators_init_50 : decode bb_Operators_init 50 = .ok (.putfield 34, 3) := by decide +kernel
theorem dd_Operators_init_53 : decode bb_Operators_init 53 = .ok (.return_, 1) := by decide +kernel
set_option maxRecDepth 100000 in
set_option maxHeartbeats 4000000 in
theorem c_Operators_init (l : Launch) {nf mc ms : Nat} {a0 : Nat} {a1 : Nat} {c : Zc} {res : Zc} (h : f_Operators_init nf mc ms a0 a1 c = some res) : zM l yy_Operators_init ww_Operators_init 1 20 mc ms [.ref a0, .ref a1] c (fun D cid B => zQv D cid B res c.length mc) := by
  refine z_met (cc := bb_Operators_init) (maxL := 2) (ret := none) (by decide +kernel) rfl (Nat.le_of_ble_eq_true rfl) ?_
  intro p e s m args below meth cd D cid B X h1 h2 h3 h4
  have X : zX p s m args cd D cid B bb_Operators_init 2 rr_Operators zT := X
  have H : zH s meth B c.length none "<init>" := ⟨h1, h2, h4, h3⟩
  unfold f_Operators_init at h
  show Zz p l e (zRm 1 20 mc ms) s m args below meth cd _ D cid B 2 0 0 c 0 [(0, .ref a0), (1, .ref a1)] []
  refine z_aload_n X dd_Operators_init_0 rfl 0 rfl ?_
  refine z_objInit X dd_Operators_init_1 km_444 km_153 km_154 (Nat.le_of_ble_eq_true rfl) (Nat.le_of_ble_eq_true rfl) ?_
  refine z_aload_n X dd_Operators_init_4 rfl 0 rfl ?_
  refine z_iconst (v := 0) X dd_Operators_init_5 (by decide) ?_
  obtain ⟨c1, ec1, h⟩ := zb h
  refine z_put (j := 0) X dd_Operators_init_6 kc_4 ki_4 tt_Operators tk_Operators nn_Operators (by decide) km_445 rfl (tk_Operators 0 (by decide)) rfl rfl ec1 ?_
  refine z_aload_n X dd_Operators_init_9 rfl 0 rfl ?_
  refine z_iconst (v := 0) X dd_Operators_init_10 (by decide) ?_
  obtain ⟨c2, ec2, h⟩ := zb h
  refine z_put (j := 1) X dd_Operators_init_11 kc_4 ki_4 tt_Operators tk_Operators nn_Operators (by decide) km_447 rfl (tk_Operators 1 (by decide)) rfl rfl ec2 ?_
  refine z_aload_n X dd_Operators_init_14 rfl 0 rfl ?_
  refine z_iconst (v := 0) X dd_Operators_init_15 (by decide) ?_
  obtain ⟨c3, ec3, h⟩ := zb h
  refine z_put (j := 2) X dd_Operators_init_16 kc_4 ki_4 tt_Operators tk_Operators nn_Operators (by decide) km_449 rfl (tk_Operators 2 (by decide)) rfl rfl ec3 ?_
  refine z_aload_n X dd_Operators_init_19 rfl 0 rfl ?_
  refine z_iconst (v := 0) X dd_Operators_init_20 (by decide) ?_
  obtain ⟨c4, ec4, h⟩ := zb h
  refine z_put (j := 4) X dd_Operators_init_21 kc_4 ki_4 tt_Operators tk_Operators nn_Operators (by decide) km_452 rfl (tk_Operators 4 (by decide)) rfl rfl ec4 ?_
  refine z_aload_n X dd_Operators_init_24 rfl 0 rfl ?_
  refine z_bipush (v := 80) X dd_Operators_init_25 (by decide) ?_
  obtain ⟨u6, eu6, h⟩ := zb h
  obtain ⟨c5, ec5, h⟩ := zb h
  refine z_newaC (ty := .int) X dd_Operators_init_27 rfl km_206 rfl (fun _ q => by cases q) (fun _ => rfl) (fun _ => rfl) (by decide) (by decide) (by decide) (zlim_s eu6).1 (zlim_s eu6).2 ec5 ?_
  obtain ⟨c7, ec7, h⟩ := zb h
  refine z_putF (j := 5) X dd_Operators_init_29 kc_4 ki_4 tt_Operators tk_Operators nn_Operators (by decide) km_453 rfl H.2.2.2 rfl (tk_Operators 5 (by decide)) rfl rfl ec7 ?_
  refine z_aload_n X dd_Operators_init_32 rfl 0 rfl ?_
  refine z_bipush (v := 80) X dd_Operators_init_33 (by decide) ?_
  obtain ⟨u9, eu9, h⟩ := zb h
  obtain ⟨c8, ec8, h⟩ := zb h
  refine z_newaC (ty := .int) X dd_Operators_init_35 rfl km_206 rfl (fun _ q => by cases q) (fun _ => rfl) (fun _ => rfl) (by decide) (by decide) (by decide) (zlim_s eu9).1 (zlim_s eu9).2 ec8 ?_
  obtain ⟨c10, ec10, h⟩ := zb h
  refine z_putF (j := 6) X dd_Operators_init_37 kc_4 ki_4 tt_Operators tk_Operators nn_Operators (by decide) km_454 rfl H.2.2.2 rfl (tk_Operators 6 (by decide)) rfl rfl ec10 ?_
  refine z_aload_n X dd_Operators_init_40 rfl 0 rfl ?_
  refine z_bipush (v := 80) X dd_Operators_init_41 (by decide) ?_
  obtain ⟨u12, eu12, h⟩ := zb h
  obtain ⟨c11, ec11, h⟩ := zb h
  refine z_newaC (ty := .int) X dd_Operators_init_43 rfl km_206 rfl (fun _ q => by cases q) (fun _ => rfl) (fun _ => rfl) (by decide) (by decide) (by decide) (zlim_s eu12).1 (zlim_s eu12).2 ec11 ?_
  obtain ⟨c13, ec13, h⟩ := zb h
  refine z_putF (j := 7) X dd_Operators_init_45 kc_4 ki_4 tt_Operators tk_Operators nn_Operators (by decide) km_455 rfl H.2.2.2 rfl (tk_Operators 7 (by decide)) rfl rfl ec13 ?_
  refine z_aload_n X dd_Operators_init_48 rfl 0 rfl ?_
  refine z_aload_n X dd_Operators_init_49 rfl 1 rfl ?_
  obtain ⟨c14, ec14, h⟩ := zb h
  refine z_put (j := 3) X dd_Operators_init_50 kc_4 ki_4 tt_Operators tk_Operators nn_Operators (by decide) km_451 rfl (tk_Operators 3 (by decide)) rfl rfl ec14 ?_
  obtain ⟨u15, eu15, h⟩ := zb h
  refine z_wid (zend_s eu15).1 (zend_s eu15).2 ?_
  obtain rfl := Option.some.inj h
  exact z_vret X H.1 H.2.1 H.2.2.1 dd_Operators_init_53
theorem dd_Operators_begin_0 : decode bb_Operators_begin 0 = .ok (.aload_n 0, 1) := by decide +kernel
theorem dd_Operators_begin_1 : decode bb_Operators_begin 1 = .ok (.aload_n 1, 1) := by decide +kernel
theorem dd_Operators_begin_2 : decode bb_Operators_begin 2 = .ok (.putfield 34, 3) := by decide +kernel
theorem dd_Operators_begin_5 : decode bb_Operators_begin 5 = .ok (.aload_n 0, 1) := by decide +kernel
theorem dd_Operators_begin_6 : decode bb_Operators_begin 6 = .ok (.iconst 0, 1) := by decide +kernel
theorem dd_Operators_begin_7 : decode bb_Operators_begin 7 = .ok (.putfield 9, 3) := by decide +kernel
theorem dd_Operators_begin_10 : decode bb_Operators_begin 10 = .ok (.aload_n 0, 1) := by decide +kernel
theorem dd_Operators_begin_11 : decode bb_Operators_begin 11 = .ok (.iconst 0, 1) := by decide +kernel
theorem dd_Operators_begin_12 : decode bb_Operators_begin 12 = .ok (.putfield 15, 3) := by decide +kernel
theorem dd_Operators_begin_15 : decode bb_Operators_begin 15 = .ok (.aload_n 0, 1) := by decide +kernel
theorem dd_Operators_begin_16 : decode bb_Operators_begin 16 = .ok (.iconst 0, 1) := by decide +kernel
theorem dd_Operators_begin_17 : decode bb_Operators_begin 17 = .ok (.putfield 18, 3) := by decide +kernel
theorem dd_Operators_begin_20 : decode bb_Operators_begin 20 = .ok (.aload_n 0, 1) := by decide +kernel
theorem dd_Operators_begin_21 : decode bb_Operators_begin 21 = .ok (.iconst 0, 1) := by decide +kernel
theorem dd_Operators_begin_22 : decode bb_Operators_begin 22 = .ok (.putfield 21, 3) := by decide +kernel
theorem dd_Operators_begin_25 : decode bb_Operators_begin 25 = .ok (.return_, 1) := by decide +kernel
set_option maxRecDepth 100000 in
set_option maxHeartbeats 4000000 in
theorem c_Operators_begin (l : Launch) {nf : Nat} {a0 : Nat} {a1 : Nat} {c : Zc} {res : Zc} (h : f_Operators_begin nf a0 a1 c = some res) : zM l yy_Operators_begin ww_Operators_begin 0 0 0 0 [.ref a0, .ref a1] c (fun D cid B => zQv D cid B res c.length 0) := by
  refine z_met (cc := bb_Operators_begin) (maxL := 2) (ret := none) (by decide +kernel) rfl (Nat.le_of_ble_eq_true rfl) ?_
  intro p e s m args below meth cd D cid B X h1 h2 h3 h4
  have X : zX p s m args cd D cid B bb_Operators_begin 2 rr_Operators zT := X
  have H : zH s meth B c.length none "begin" := ⟨h1, h2, h4, h3⟩
  unfold f_Operators_begin at h
  show Zz p l e (zRm 0 0 0 0) s m args below meth cd _ D cid B 2 0 0 c 0 [(0, .ref a0), (1, .ref a1)] []
  refine z_aload_n X dd_Operators_begin_0 rfl 0 rfl ?_
  refine z_aload_n X dd_Operators_begin_1 rfl 1 rfl ?_
  obtain ⟨c1, ec1, h⟩ := zb h
  refine z_put (j := 3) X dd_Operators_begin_2 kc_4 ki_4 tt_Operators tk_Operators nn_Operators (by decide) km_451 rfl (tk_Operators 3 (by decide)) rfl rfl ec1 ?_
  refine z_aload_n X dd_Operators_begin_5 rfl 0 rfl ?_
  refine z_iconst (v := 0) X dd_Operators_begin_6 (by decide) ?_
  obtain ⟨c2, ec2, h⟩ := zb h
  refine z_put (j := 0) X dd_Operators_begin_7 kc_4 ki_4 tt_Operators tk_Operators nn_Operators (by decide) km_445 rfl (tk_Operators 0 (by decide)) rfl rfl ec2 ?_
  refine z_aload_n X dd_Operators_begin_10 rfl 0 rfl ?_
  refine z_iconst (v := 0) X dd_Operators_begin_11 (by decide) ?_
  obtain ⟨c3, ec3, h⟩ := zb h
  refine z_put (j := 1) X dd_Operators_begin_12 kc_4 ki_4 tt_Operators tk_Operators nn_Operators (by decide) km_447 rfl (tk_Operators 1 (by decide)) rfl rfl ec3 ?_
  refine z_aload_n X dd_Operators_begin_15 rfl 0 rfl ?_
  refine z_iconst (v := 0) X dd_Operators_begin_16 (by decide) ?_
  obtain ⟨c4, ec4, h⟩ := zb h
  refine z_put (j := 2) X dd_Operators_begin_17 kc_4 ki_4 tt_Operators tk_Operators nn_Operators (by decide) km_449 rfl (tk_Operators 2 (by decide)) rfl rfl ec4 ?_
  refine z_aload_n X dd_Operators_begin_20 rfl 0 rfl ?_
  refine z_iconst (v := 0) X dd_Operators_begin_21 (by decide) ?_
  obtain ⟨c5, ec5, h⟩ := zb h
  refine z_put (j := 4) X dd_Operators_begin_22 kc_4 ki_4 tt_Operators tk_Operators nn_Operators (by decide) km_452 rfl (tk_Operators 4 (by decide)) rfl rfl ec5 ?_
  obtain rfl := Option.some.inj h
  exact z_vret X H.1 H.2.1 H.2.2.1 dd_Operators_begin_25
theorem dd_Operators_unwind_0 : decode bb_Operators_unwind 0 = .ok (.iconst 0, 1) := by decide +kernel
theorem dd_Operators_unwind_1 : decode bb_Operators_unwind 1 = .ok (.istore_n 2, 1) := by decide +kernel
theorem dd_Operators_unwind_2 : decode bb_Operators_unwind 2 = .ok (.iload_n 2, 1) := by decide +kernel
theorem dd_Operators_unwind_3 : decode bb_Operators_unwind 3 = .ok (.bipush 80, 2) := by decide +kernel
theorem dd_Operators_unwind_5 : decode bb_Operators_unwind 5 = .ok (.if_icmp .ge 144, 3) := by decide +kernel
theorem dd_Operators_unwind_8 : decode bb_Operators_unwind 8 = .ok (.aload_n 0, 1) := by decide +kernel
theorem dd_Operators_unwind_9 : decode bb_Operators_unwind 9 = .ok (.getfield 21, 3) := by decide +kernel
theorem dd_Operators_unwind_12 : decode bb_Operators_unwind 12 = .ok (.ifCond .le 137, 3) := by decide +kernel
theorem dd_Operators_unwind_15 : decode bb_Operators_unwind 15 = .ok (.aload_n 0, 1) := by decide +kernel
theorem dd_Operators_unwind_16 : decode bb_Operators_unwind 16 = .ok (.getfield 24, 3) := by decide +kernel
theorem dd_Operators_unwind_19 : decode bb_Operators_unwind 19 = .ok (.aload_n 0, 1) := by decide +kernel
theorem dd_Operators_unwind_20 : decode bb_Operators_unwind 20 = .ok (.getfield 21, 3) := by decide +kernel
theorem dd_Operators_unwind_23 : decode bb_Operators_unwind 23 = .ok (.iconst 1, 1) := by decide +kernel
theorem dd_Operators_unwind_24 : decode bb_Operators_unwind 24 = .ok (.isub, 1) := by decide +kernel
theorem dd_Operators_unwind_25 : decode bb_Operators_unwind 25 = .ok (.iaload, 1) := by decide +kernel
theorem dd_Operators_unwind_26 : decode bb_Operators_unwind 26 = .ok (.iload_n 1, 1) := by decide +kernel
theorem dd_Operators_unwind_27 : decode bb_Operators_unwind 27 = .ok (.if_icmp .lt 122, 3) := by decide +kernel
theorem dd_Operators_unwind_30 : decode bb_Operators_unwind 30 = .ok (.aload_n 0, 1) := by decide +kernel
theorem dd_Operators_unwind_31 : decode bb_Operators_unwind 31 = .ok (.dup, 1) := by decide +kernel
theorem dd_Operators_unwind_32 : decode bb_Operators_unwind 32 = .ok (.getfield 21, 3) := by decide +kernel
theorem dd_Operators_unwind_35 : decode bb_Operators_unwind 35 = .ok (.iconst 1, 1) := by decide +kernel
theorem dd_Operators_unwind_36 : decode bb_Operators_unwind 36 = .ok (.isub, 1) := by decide +kernel
theorem dd_Operators_unwind_37 : decode bb_Operators_unwind 37 = .ok (.putfield 21, 3) := by decide +kernel
theorem dd_Operators_unwind_40 : decode bb_Operators_unwind 40 = .ok (.aload_n 0, 1) := by decide +kernel
theorem dd_Operators_unwind_41 : decode bb_Operators_unwind 41 = .ok (.getfield 31, 3) := by decide +kernel
theorem dd_Operators_unwind_44 : decode bb_Operators_unwind 44 = .ok (.aload_n 0, 1) := by decide +kernel
theorem dd_Operators_unwind_45 : decode bb_Operators_unwind 45 = .ok (.getfield 21, 3) := by decide +kernel
theorem dd_Operators_unwind_48 : decode bb_Operators_unwind 48 = .ok (.iaload, 1) := by decide +kernel
theorem dd_Operators_unwind_49 : decode bb_Operators_unwind 49 = .ok (.iconst (-1), 1) := by decide +kernel
theorem dd_Operators_unwind_50 : decode bb_Operators_unwind 50 = .ok (.if_icmp .eq 38, 3) := by decide +kernel
theorem dd_Operators_unwind_53 : decode bb_Operators_unwind 53 = .ok (.aload_n 0, 1) := by decide +kernel
theorem dd_Operators_unwind_54 : decode bb_Operators_unwind 54 = .ok (.getfield 34, 3) := by decide +kernel
theorem dd_Operators_unwind_57 : decode bb_Operators_unwind 57 = .ok (.aload_n 0, 1) := by decide +kernel
theorem dd_Operators_unwind_58 : decode bb_Operators_unwind 58 = .ok (.getfield 31, 3) := by decide +kernel
theorem dd_Operators_unwind_61 : decode bb_Operators_unwind 61 = .ok (.aload_n 0, 1) := by decide +kernel
theorem dd_Operators_unwind_62 : decode bb_Operators_unwind 62 = .ok (.getfield 21, 3) := by decide +kernel
theorem dd_Operators_unwind_65 : decode bb_Operators_unwind 65 = .ok (.iaload, 1) := by decide +kernel
theorem dd_Operators_unwind_66 : decode bb_Operators_unwind 66 = .ok (.aload_n 0, 1) := by decide +kernel
theorem dd_Operators_unwind_67 : decode bb_Operators_unwind 67 = .ok (.getfield 28, 3) := by decide +kernel
theorem dd_Operators_unwind_70 : decode bb_Operators_unwind 70 = .ok (.aload_n 0, 1) := by decide +kernel
theorem dd_Operators_unwind_71 : decode bb_Operators_unwind 71 = .ok (.getfield 21, 3) := by decide +kernel
theorem dd_Operators_unwind_74 : decode bb_Operators_unwind 74 = .ok (.iaload, 1) := by decide +kernel
theorem dd_Operators_unwind_75 : decode bb_Operators_unwind 75 = .ok (.aload_n 0, 1) := by decide +kernel
theorem dd_Operators_unwind_76 : decode bb_Operators_unwind 76 = .ok (.getfield 34, 3) := by decide +kernel
theorem dd_Operators_unwind_79 : decode bb_Operators_unwind 79 = .ok (.getfield 58, 3) := by decide +kernel
theorem dd_Operators_unwind_82 : decode bb_Operators_unwind 82 = .ok (.invokevirtual 61, 3) := by decide +kernel
theorem dd_Operators_unwind_85 : decode bb_Operators_unwind 85 = .ok (.goto 21, 3) := by decide +kernel
theorem dd_Operators_unwind_88 : decode bb_Operators_unwind 88 = .ok (.aload_n 0, 1) := by decide +kernel
theorem dd_Operators_unwind_89 : decode bb_Operators_unwind 89 = .ok (.getfield 34, 3) := by decide +kernel
theorem dd_Operators_unwind_92 : decode bb_Operators_unwind 92 = .ok (.aload_n 0, 1) := by decide +kernel
theorem dd_Operators_unwind_93 : decode bb_Operators_unwind 93 = .ok (.getfield 28, 3) := by decide +kernel
theorem dd_Operators_unwind_96 : decode bb_Operators_unwind 96 = .ok (.aload_n 0, 1) := by decide +kernel
theorem dd_Operators_unwind_97 : decode bb_Operators_unwind 97 = .ok (.getfield 21, 3) := by decide +kernel
theorem dd_Operators_unwind_100 : decode bb_Operators_unwind 100 = .ok (.iaload, 1) := by decide +kernel
theorem dd_Operators_unwind_101 : decode bb_Operators_unwind 101 = .ok (.iconst 0, 1) := by decide +kernel
theorem dd_Operators_unwind_102 : decode bb_Operators_unwind 102 = .ok (.invokevirtual 46, 3) := by decide +kernel
theorem dd_Operators_unwind_105 : decode bb_Operators_unwind 105 = .ok (.pop, 1) := by decide +kernel
theorem dd_Operators_unwind_106 : decode bb_Operators_unwind 106 = .ok (.aload_n 0, 1) := by decide +kernel
theorem dd_Operators_unwind_107 : decode bb_Operators_unwind 107 = .ok (.getfield 24, 3) := by decide +kernel
theorem dd_Operators_unwind_110 : decode bb_Operators_unwind 110 = .ok (.aload_n 0, 1) := by decide +kernel
theorem dd_Operators_unwind_111 : decode bb_Operators_unwind 111 = .ok (.getfield 21, 3) := by decide +kernel
theorem dd_Operators_unwind_114 : decode bb_Operators_unwind 114 = .ok (.iaload, 1) := by decide +kernel
theorem dd_Operators_unwind_115 : decode bb_Operators_unwind 115 = .ok (.iconst 3, 1) := by decide +kernel
theorem dd_Operators_unwind_116 : decode bb_Operators_unwind 116 = .ok (.if_icmp .eq 17, 3) := by decide +kernel
theorem dd_Operators_unwind_119 : decode bb_Operators_unwind 119 = .ok (.aload_n 0, 1) := by decide +kernel
theorem dd_Operators_unwind_120 : decode bb_Operators_unwind 120 = .ok (.getfield 24, 3) := by decide +kernel
theorem dd_Operators_unwind_123 : decode bb_Operators_unwind 123 = .ok (.aload_n 0, 1) := by decide +kernel
theorem dd_Operators_unwind_124 : decode bb_Operators_unwind 124 = .ok (.getfield 21, 3) := by decide +kernel
theorem dd_Operators_unwind_127 : decode bb_Operators_unwind 127 = .ok (.iaload, 1) := by decide +kernel
theorem dd_Operators_unwind_128 : decode bb_Operators_unwind 128 = .ok (.bipush 7, 2) := by decide +kernel
theorem dd_Operators_unwind_130 : decode bb_Operators_unwind 130 = .ok (.if_icmp .ne 13, 3) := by decide +kernel
theorem dd_Operators_unwind_133 : decode bb_Operators_unwind 133 = .ok (.aload_n 0, 1) := by decide +kernel
theorem dd_Operators_unwind_134 : decode bb_Operators_unwind 134 = .ok (.dup, 1) := by decide +kernel
theorem dd_Operators_unwind_135 : decode bb_Operators_unwind 135 = .ok (.getfield 9, 3) := by decide +kernel
theorem dd_Operators_unwind_138 : decode bb_Operators_unwind 138 = .ok (.iconst 1, 1) := by decide +kernel
theorem dd_Operators_unwind_139 : decode bb_Operators_unwind 139 = .ok (.isub, 1) := by decide +kernel
theorem dd_Operators_unwind_140 : decode bb_Operators_unwind 140 = .ok (.putfield 9, 3) := by decide +kernel
theorem dd_Operators_unwind_143 : decode bb_Operators_unwind 143 = .ok (.iinc 2 1, 3) := by decide +kernel
theorem dd_Operators_unwind_146 : decode bb_Operators_unwind 146 = .ok (.goto (-144), 3) := by decide +kernel
theorem dd_Operators_unwind_149 : decode bb_Operators_unwind 149 = .ok (.return_, 1) := by decide +kernel
set_option maxRecDepth 100000 in
set_option maxHeartbeats 4000000 in
theorem t_Operators_unwind_143  (X : zX p s m args cd D cid B bb_Operators_unwind 3 rr_Operators zT) (H : zH s meth B n0 none "unwind") {nf : Nat} {x0 : Nat} {x1 : Int32} {x2 : Int32} {c : Zc} {r : (Nat × Int32 × Int32 × Zc) ⊕ (Zc)} (h : f_Operators_unwind_143 nf x0 x1 x2 c = some r) (k0 : ∀ a, r = .inl a → (fun a : Nat × Int32 × Int32 × Zc => Zz p l e (zRm 1 23 0 0) s m args below meth cd Q D cid B 3 0 0 a.2.2.2 2 [(0, .ref a.1), (1, .int a.2.1), (2, .int a.2.2.1)] []) a) (k1 : ∀ b, r = .inr b → (fun b : Zc => Zz p l e (zRm 1 23 0 0) s m args below meth cd Q D cid B 3 0 0 b 149 [] []) b) : Zz p l e (zRm 1 23 0 0) s m args below meth cd Q D cid B 3 0 0 c 143 [(0, .ref x0), (1, .int x1), (2, .int x2)] [] := by
  unfold f_Operators_unwind_143 at h
  refine z_iinc (v := (x2 + 1)) (lv' := [(2, .int (x2 + 1)), (0, .ref x0), (1, .int x1)]) X dd_Operators_unwind_143 2 rfl rfl (by decide) rfl ?_
  refine z_goto (tgt := 2) X dd_Operators_unwind_146 (by decide) ?_
  refine z_sub [1, 2, 0] rfl ?_
  obtain rfl := Option.some.inj h
  exact k0 _ rfl
set_option maxRecDepth 100000 in
set_option maxHeartbeats 4000000 in
theorem t_Operators_unwind_133  (X : zX p s m args cd D cid B bb_Operators_unwind 3 rr_Operators zT) (H : zH s meth B n0 none "unwind") {nf : Nat} {x0 : Nat} {x1 : Int32} {x2 : Int32} {c : Zc} {r : (Nat × Int32 × Int32 × Zc) ⊕ (Zc)} (h : f_Operators_unwind_133 nf x0 x1 x2 c = some r) (k0 : ∀ a, r = .inl a → (fun a : Nat × Int32 × Int32 × Zc => Zz p l e (zRm 1 23 0 0) s m args below meth cd Q D cid B 3 0 0 a.2.2.2 2 [(0, .ref a.1), (1, .int a.2.1), (2, .int a.2.2.1)] []) a) (k1 : ∀ b, r = .inr b → (fun b : Zc => Zz p l e (zRm 1 23 0 0) s m args below meth cd Q D cid B 3 0 0 b 149 [] []) b) : Zz p l e (zRm 1 23 0 0) s m args below meth cd Q D cid B 3 0 0 c 133 [(0, .ref x0), (1, .int x1), (2, .int x2)] [] := by
  unfold f_Operators_unwind_133 at h
  refine z_aload_n X dd_Operators_unwind_133 rfl 0 rfl ?_
  refine z_dup X dd_Operators_unwind_134 rfl ?_
  obtain ⟨v24, ev24, h⟩ := zb h
  refine z_get (j := 0) X dd_Operators_unwind_135 kc_4 ki_4 (by decide) km_445 (zgi_v ev24) ?_
  refine z_iconst (v := 1) X dd_Operators_unwind_138 (by decide) ?_
  refine z_isub X dd_Operators_unwind_139 ?_
  obtain ⟨c25, ec25, h⟩ := zb h
  refine z_put (j := 0) X dd_Operators_unwind_140 kc_4 ki_4 tt_Operators tk_Operators nn_Operators (by decide) km_445 rfl (tk_Operators 0 (by decide)) rfl rfl ec25 ?_
  exact t_Operators_unwind_143 X H h k0 k1
set_option maxRecDepth 100000 in
set_option maxHeartbeats 4000000 in
theorem t_Operators_unwind_106  (X : zX p s m args cd D cid B bb_Operators_unwind 3 rr_Operators zT) (H : zH s meth B n0 none "unwind") {nf : Nat} {x0 : Nat} {x1 : Int32} {x2 : Int32} {c : Zc} {r : (Nat × Int32 × Int32 × Zc) ⊕ (Zc)} (h : f_Operators_unwind_106 nf x0 x1 x2 c = some r) (k0 : ∀ a, r = .inl a → (fun a : Nat × Int32 × Int32 × Zc => Zz p l e (zRm 1 23 0 0) s m args below meth cd Q D cid B 3 0 0 a.2.2.2 2 [(0, .ref a.1), (1, .int a.2.1), (2, .int a.2.2.1)] []) a) (k1 : ∀ b, r = .inr b → (fun b : Zc => Zz p l e (zRm 1 23 0 0) s m args below meth cd Q D cid B 3 0 0 b 149 [] []) b) : Zz p l e (zRm 1 23 0 0) s m args below meth cd Q D cid B 3 0 0 c 106 [(0, .ref x0), (1, .int x1), (2, .int x2)] [] := by
  unfold f_Operators_unwind_106 at h
  refine z_aload_n X dd_Operators_unwind_106 rfl 0 rfl ?_
  obtain ⟨v20, ev20, h⟩ := zb h
  refine z_get (j := 5) X dd_Operators_unwind_107 kc_4 ki_4 (by decide) km_453 (zgr_v ev20) ?_
  refine z_aload_n X dd_Operators_unwind_110 rfl 0 rfl ?_
  obtain ⟨v21, ev21, h⟩ := zb h
  refine z_get (j := 4) X dd_Operators_unwind_111 kc_4 ki_4 (by decide) km_452 (zgi_v ev21) ?_
  obtain ⟨v22, ev22, h⟩ := zb h
  refine z_iaload X dd_Operators_unwind_114 rfl ev22 ?_
  refine z_iconst (v := 3) X dd_Operators_unwind_115 (by decide) ?_
  refine z_icmp_eq (tgt := 133) X dd_Operators_unwind_116 (by decide) (fun q23 => ?_) (fun q23 => ?_)
  · rw [if_pos q23] at h
    exact t_Operators_unwind_133 X H h k0 k1
  · rw [if_neg q23] at h
    refine z_aload_n X dd_Operators_unwind_119 rfl 0 rfl ?_
    obtain ⟨v26, ev26, h⟩ := zb h
    refine z_get (j := 5) X dd_Operators_unwind_120 kc_4 ki_4 (by decide) km_453 (zgr_v ev26) ?_
    refine z_aload_n X dd_Operators_unwind_123 rfl 0 rfl ?_
    obtain ⟨v27, ev27, h⟩ := zb h
    refine z_get (j := 4) X dd_Operators_unwind_124 kc_4 ki_4 (by decide) km_452 (zgi_v ev27) ?_
    obtain ⟨v28, ev28, h⟩ := zb h
    refine z_iaload X dd_Operators_unwind_127 rfl ev28 ?_
    refine z_bipush (v := 7) X dd_Operators_unwind_128 (by decide) ?_
    refine z_icmp_ne (tgt := 143) X dd_Operators_unwind_130 (by decide) (fun q29 => ?_) (fun q29 => ?_)
    · rw [if_neg q29] at h
      exact t_Operators_unwind_143 X H h k0 k1
    · rw [if_pos q29] at h
      exact t_Operators_unwind_133 X H h k0 k1
set_option maxRecDepth 100000 in
set_option maxHeartbeats 4000000 in
theorem u_Operators_unwind_2  (X : zX p s m args cd D cid B bb_Operators_unwind 3 rr_Operators zT) (H : zH s meth B n0 none "unwind") {nf : Nat} {x0 : Nat} {x1 : Int32} {x2 : Int32} {c : Zc} {r : (Nat × Int32 × Int32 × Zc) ⊕ (Zc)} (h : g_Operators_unwind_2 nf x0 x1 x2 c = some r) (k0 : ∀ a, r = .inl a → (fun a : Nat × Int32 × Int32 × Zc => Zz p l e (zRm 1 23 0 0) s m args below meth cd Q D cid B 3 0 0 a.2.2.2 2 [(0, .ref a.1), (1, .int a.2.1), (2, .int a.2.2.1)] []) a) (k1 : ∀ b, r = .inr b → (fun b : Zc => Zz p l e (zRm 1 23 0 0) s m args below meth cd Q D cid B 3 0 0 b 149 [] []) b) : Zz p l e (zRm 1 23 0 0) s m args below meth cd Q D cid B 3 0 0 c 2 [(0, .ref x0), (1, .int x1), (2, .int x2)] [] := by
  unfold g_Operators_unwind_2 at h
  refine z_iload_n X dd_Operators_unwind_2 rfl 2 rfl ?_
  refine z_bipush (v := 80) X dd_Operators_unwind_3 (by decide) ?_
  refine z_icmp_ge (tgt := 149) X dd_Operators_unwind_5 (by decide) (fun q1 => ?_) (fun q1 => ?_)
  · rw [if_pos q1] at h
    refine z_sub [] rfl ?_
    obtain rfl := Option.some.inj h
    exact k1 _ rfl
  · rw [if_neg q1] at h
    refine z_aload_n X dd_Operators_unwind_8 rfl 0 rfl ?_
    obtain ⟨v2, ev2, h⟩ := zb h
    refine z_get (j := 4) X dd_Operators_unwind_9 kc_4 ki_4 (by decide) km_452 (zgi_v ev2) ?_
    refine z_if_le (tgt := 149) X dd_Operators_unwind_12 (by decide) (fun q3 => ?_) (fun q3 => ?_)
    · rw [if_pos q3] at h
      refine z_sub [] rfl ?_
      obtain rfl := Option.some.inj h
      exact k1 _ rfl
    · rw [if_neg q3] at h
      refine z_aload_n X dd_Operators_unwind_15 rfl 0 rfl ?_
      obtain ⟨v4, ev4, h⟩ := zb h
      refine z_get (j := 5) X dd_Operators_unwind_16 kc_4 ki_4 (by decide) km_453 (zgr_v ev4) ?_
      refine z_aload_n X dd_Operators_unwind_19 rfl 0 rfl ?_
      obtain ⟨v5, ev5, h⟩ := zb h
      refine z_get (j := 4) X dd_Operators_unwind_20 kc_4 ki_4 (by decide) km_452 (zgi_v ev5) ?_
      refine z_iconst (v := 1) X dd_Operators_unwind_23 (by decide) ?_
      refine z_isub X dd_Operators_unwind_24 ?_
      obtain ⟨v6, ev6, h⟩ := zb h
      refine z_iaload X dd_Operators_unwind_25 rfl ev6 ?_
      refine z_iload_n X dd_Operators_unwind_26 rfl 1 rfl ?_
      refine z_icmp_lt (tgt := 149) X dd_Operators_unwind_27 (by decide) (fun q7 => ?_) (fun q7 => ?_)
      · rw [if_pos q7] at h
        refine z_sub [] rfl ?_
        obtain rfl := Option.some.inj h
        exact k1 _ rfl
      · rw [if_neg q7] at h
        refine z_aload_n X dd_Operators_unwind_30 rfl 0 rfl ?_
        refine z_dup X dd_Operators_unwind_31 rfl ?_
        obtain ⟨v8, ev8, h⟩ := zb h
        refine z_get (j := 4) X dd_Operators_unwind_32 kc_4 ki_4 (by decide) km_452 (zgi_v ev8) ?_
        refine z_iconst (v := 1) X dd_Operators_unwind_35 (by decide) ?_
        refine z_isub X dd_Operators_unwind_36 ?_
        obtain ⟨c9, ec9, h⟩ := zb h
        refine z_put (j := 4) X dd_Operators_unwind_37 kc_4 ki_4 tt_Operators tk_Operators nn_Operators (by decide) km_452 rfl (tk_Operators 4 (by decide)) rfl rfl ec9 ?_
        refine z_aload_n X dd_Operators_unwind_40 rfl 0 rfl ?_
        obtain ⟨v10, ev10, h⟩ := zb h
        refine z_get (j := 7) X dd_Operators_unwind_41 kc_4 ki_4 (by decide) km_455 (zgr_v ev10) ?_
        refine z_aload_n X dd_Operators_unwind_44 rfl 0 rfl ?_
        obtain ⟨v11, ev11, h⟩ := zb h
        refine z_get (j := 4) X dd_Operators_unwind_45 kc_4 ki_4 (by decide) km_452 (zgi_v ev11) ?_
        obtain ⟨v12, ev12, h⟩ := zb h
        refine z_iaload X dd_Operators_unwind_48 rfl ev12 ?_
        refine z_iconst (v := (-1)) X dd_Operators_unwind_49 (by decide) ?_
        refine z_icmp_eq (tgt := 88) X dd_Operators_unwind_50 (by decide) (fun q13 => ?_) (fun q13 => ?_)
        · rw [if_pos q13] at h
          refine z_aload_n X dd_Operators_unwind_88 rfl 0 rfl ?_
          obtain ⟨v14, ev14, h⟩ := zb h
          refine z_get (j := 3) X dd_Operators_unwind_89 kc_4 ki_4 (by decide) km_451 (zgr_v ev14) ?_
          refine z_aload_n X dd_Operators_unwind_92 rfl 0 rfl ?_
          obtain ⟨v15, ev15, h⟩ := zb h
          refine z_get (j := 6) X dd_Operators_unwind_93 kc_4 ki_4 (by decide) km_454 (zgr_v ev15) ?_
          refine z_aload_n X dd_Operators_unwind_96 rfl 0 rfl ?_
          obtain ⟨v16, ev16, h⟩ := zb h
          refine z_get (j := 4) X dd_Operators_unwind_97 kc_4 ki_4 (by decide) km_452 (zgi_v ev16) ?_
          obtain ⟨v17, ev17, h⟩ := zb h
          refine z_iaload X dd_Operators_unwind_100 rfl ev17 ?_
          refine z_iconst (v := 0) X dd_Operators_unwind_101 (by decide) ?_
          obtain ⟨w19, ew19, h⟩ := zb h
          obtain ⟨q18, eq18, h⟩ := zb h
          refine z_callVi X [.int v17, .int 0] rfl dd_Operators_unwind_102 (c_Text_emit l eq18) (cwV 2 X.1.2.2.2.2 (zg_V km_1067 km_1056 km_1057 km_128 km_1058) rfl rfl rfl (by decide +kernel) ⟨Nat.le_of_ble_eq_true rfl, Nat.le_of_ble_eq_true rfl⟩) (zob_s ew19) kc_2 rfl (Nat.le_of_ble_eq_true rfl) ⟨Nat.le_of_ble_eq_true rfl, Nat.le_of_ble_eq_true rfl⟩ ?_
          refine z_pop X dd_Operators_unwind_105 rfl ?_
          exact t_Operators_unwind_106 X H h k0 k1
        · rw [if_neg q13] at h
          refine z_aload_n X dd_Operators_unwind_53 rfl 0 rfl ?_
          obtain ⟨v30, ev30, h⟩ := zb h
          refine z_get (j := 3) X dd_Operators_unwind_54 kc_4 ki_4 (by decide) km_451 (zgr_v ev30) ?_
          refine z_aload_n X dd_Operators_unwind_57 rfl 0 rfl ?_
          obtain ⟨v31, ev31, h⟩ := zb h
          refine z_get (j := 7) X dd_Operators_unwind_58 kc_4 ki_4 (by decide) km_455 (zgr_v ev31) ?_
          refine z_aload_n X dd_Operators_unwind_61 rfl 0 rfl ?_
          obtain ⟨v32, ev32, h⟩ := zb h
          refine z_get (j := 4) X dd_Operators_unwind_62 kc_4 ki_4 (by decide) km_452 (zgi_v ev32) ?_
          obtain ⟨v33, ev33, h⟩ := zb h
          refine z_iaload X dd_Operators_unwind_65 rfl ev33 ?_
          refine z_aload_n X dd_Operators_unwind_66 rfl 0 rfl ?_
          obtain ⟨v34, ev34, h⟩ := zb h
          refine z_get (j := 6) X dd_Operators_unwind_67 kc_4 ki_4 (by decide) km_454 (zgr_v ev34) ?_
          refine z_aload_n X dd_Operators_unwind_70 rfl 0 rfl ?_
          obtain ⟨v35, ev35, h⟩ := zb h
          refine z_get (j := 4) X dd_Operators_unwind_71 kc_4 ki_4 (by decide) km_452 (zgi_v ev35) ?_
          obtain ⟨v36, ev36, h⟩ := zb h
          refine z_iaload X dd_Operators_unwind_74 rfl ev36 ?_
          refine z_aload_n X dd_Operators_unwind_75 rfl 0 rfl ?_
          obtain ⟨v37, ev37, h⟩ := zb h
          refine z_get (j := 3) X dd_Operators_unwind_76 kc_4 ki_4 (by decide) km_451 (zgr_v ev37) ?_
          obtain ⟨v38, ev38, h⟩ := zb h
          refine z_get (j := 12) X dd_Operators_unwind_79 kc_2 ki_2 (by decide) km_337 (zgi_v ev38) ?_
          obtain ⟨w40, ew40, h⟩ := zb h
          obtain ⟨q39, eq39, h⟩ := zb h
          refine z_callVv X [.int v33, .int v36, .int v38] rfl dd_Operators_unwind_82 (c_Text_change l eq39) (cwV 3 X.1.2.2.2.2 (zg_V km_1063 km_1064 km_1065 km_128 km_1066) rfl rfl rfl (by decide +kernel) ⟨Nat.le_of_ble_eq_true rfl, Nat.le_of_ble_eq_true rfl⟩) (zob_s ew40) kc_2 rfl (Nat.le_of_ble_eq_true rfl) ⟨Nat.le_of_ble_eq_true rfl, Nat.le_of_ble_eq_true rfl⟩ ?_
          refine z_goto (tgt := 106) X dd_Operators_unwind_85 (by decide) ?_
          exact t_Operators_unwind_106 X H h k0 k1
set_option maxRecDepth 100000 in
set_option maxHeartbeats 4000000 in
theorem t_Operators_unwind_149  (X : zX p s m args cd D cid B bb_Operators_unwind 3 rr_Operators zT) (H : zH s meth B n0 none "unwind") {nf : Nat}  {c : Zc} {res : Zc} (h : f_Operators_unwind_149 nf  c = some res) : Zz p l e (zRm 1 23 0 0) s m args below meth cd (MQ below (zQv D cid B res n0 0) args s 0 0 (fun q => B ≤ q)) D cid B 3 0 0 c 149 [] [] := by
  unfold f_Operators_unwind_149 at h
  obtain rfl := Option.some.inj h
  exact z_vret X H.1 H.2.1 H.2.2.1 dd_Operators_unwind_149
set_option maxRecDepth 100000 in
set_option maxHeartbeats 4000000 in
theorem t_Operators_unwind_2  (X : zX p s m args cd D cid B bb_Operators_unwind 3 rr_Operators zT) (H : zH s meth B n0 none "unwind") {nf : Nat} {x0 : Nat} {x1 : Int32} {x2 : Int32} {c : Zc} {res : Zc} (h : f_Operators_unwind_2 nf x0 x1 x2 c = some res) : Zz p l e (zRm 1 23 0 0) s m args below meth cd (MQ below (zQv D cid B res n0 0) args s 0 0 (fun q => B ≤ q)) D cid B 3 0 0 c 2 [(0, .ref x0), (1, .int x1), (2, .int x2)] [] := by
  unfold f_Operators_unwind_2 at h
  obtain ⟨b, eb, h⟩ := zb h
  refine zlp_ok (P := fun a : Nat × Int32 × Int32 × Zc => Zz p l e (zRm 1 23 0 0) s m args below meth cd _ D cid B 3 0 0 a.2.2.2 2 [(0, .ref a.1), (1, .int a.2.1), (2, .int a.2.2.1)] []) (G := fun b : Zc => Zz p l e (zRm 1 23 0 0) s m args below meth cd _ D cid B 3 0 0 b 149 [] []) (fun a r ha k0 k1 => u_Operators_unwind_2 X H ha k0 k1) nf _ b eb ?_
  exact t_Operators_unwind_149 X H h
set_option maxRecDepth 100000 in
set_option maxHeartbeats 4000000 in
theorem c_Operators_unwind (l : Launch) {nf : Nat} {a0 : Nat} {a1 : Int32} {c : Zc} {res : Zc} (h : f_Operators_unwind nf a0 a1 c = some res) : zM l yy_Operators_unwind ww_Operators_unwind 1 23 0 0 [.ref a0, .int a1] c (fun D cid B => zQv D cid B res c.length 0) := by
  refine z_met (cc := bb_Operators_unwind) (maxL := 3) (ret := none) (by decide +kernel) rfl (Nat.le_of_ble_eq_true rfl) ?_
  intro p e s m args below meth cd D cid B X h1 h2 h3 h4
  have X : zX p s m args cd D cid B bb_Operators_unwind 3 rr_Operators zT := X
  have H : zH s meth B c.length none "unwind" := ⟨h1, h2, h4, h3⟩
  unfold f_Operators_unwind at h
  show Zz p l e (zRm 1 23 0 0) s m args below meth cd _ D cid B 3 0 0 c 0 [(0, .ref a0), (1, .int a1)] []
  refine z_iconst (v := 0) X dd_Operators_unwind_0 (by decide) ?_
  refine z_istore_n (lv' := [(2, .int 0), (0, .ref a0), (1, .int a1)]) X dd_Operators_unwind_1 rfl (by decide) rfl ?_
  refine z_sub [1, 2, 0] rfl ?_
  exact t_Operators_unwind_2 X H h
theorem dd_Operators_push_0 : decode bb_Operators_push 0 = .ok (.aload_n 0, 1) := by decide +kernel
theorem dd_Operators_push_1 : decode bb_Operators_push 1 = .ok (.getfield 21, 3) := by decide +kernel
theorem dd_Operators_push_4 : decode bb_Operators_push 4 = .ok (.bipush 80, 2) := by decide +kernel
theorem dd_Operators_push_6 : decode bb_Operators_push 6 = .ok (.if_icmp .ge 43, 3) := by decide +kernel
theorem dd_Operators_push_9 : decode bb_Operators_push 9 = .ok (.aload_n 0, 1) := by decide +kernel
theorem dd_Operators_push_10 : decode bb_Operators_push 10 = .ok (.getfield 24, 3) := by decide +kernel
theorem dd_Operators_push_13 : decode bb_Operators_push 13 = .ok (.aload_n 0, 1) := by decide +kernel
theorem dd_Operators_push_14 : decode bb_Operators_push 14 = .ok (.getfield 21, 3) := by decide +kernel
theorem dd_Operators_push_17 : decode bb_Operators_push 17 = .ok (.iload_n 1, 1) := by decide +kernel
theorem dd_Operators_push_18 : decode bb_Operators_push 18 = .ok (.iastore, 1) := by decide +kernel
theorem dd_Operators_push_19 : decode bb_Operators_push 19 = .ok (.aload_n 0, 1) := by decide +kernel
theorem dd_Operators_push_20 : decode bb_Operators_push 20 = .ok (.getfield 28, 3) := by decide +kernel
theorem dd_Operators_push_23 : decode bb_Operators_push 23 = .ok (.aload_n 0, 1) := by decide +kernel
theorem dd_Operators_push_24 : decode bb_Operators_push 24 = .ok (.getfield 21, 3) := by decide +kernel
theorem dd_Operators_push_27 : decode bb_Operators_push 27 = .ok (.iload_n 2, 1) := by decide +kernel
theorem dd_Operators_push_28 : decode bb_Operators_push 28 = .ok (.iastore, 1) := by decide +kernel
theorem dd_Operators_push_29 : decode bb_Operators_push 29 = .ok (.aload_n 0, 1) := by decide +kernel
theorem dd_Operators_push_30 : decode bb_Operators_push 30 = .ok (.getfield 31, 3) := by decide +kernel
theorem dd_Operators_push_33 : decode bb_Operators_push 33 = .ok (.aload_n 0, 1) := by decide +kernel
theorem dd_Operators_push_34 : decode bb_Operators_push 34 = .ok (.getfield 21, 3) := by decide +kernel
theorem dd_Operators_push_37 : decode bb_Operators_push 37 = .ok (.iconst (-1), 1) := by decide +kernel
theorem dd_Operators_push_38 : decode bb_Operators_push 38 = .ok (.iastore, 1) := by decide +kernel
theorem dd_Operators_push_39 : decode bb_Operators_push 39 = .ok (.aload_n 0, 1) := by decide +kernel
theorem dd_Operators_push_40 : decode bb_Operators_push 40 = .ok (.dup, 1) := by decide +kernel
theorem dd_Operators_push_41 : decode bb_Operators_push 41 = .ok (.getfield 21, 3) := by decide +kernel
theorem dd_Operators_push_44 : decode bb_Operators_push 44 = .ok (.iconst 1, 1) := by decide +kernel
theorem dd_Operators_push_45 : decode bb_Operators_push 45 = .ok (.iadd, 1) := by decide +kernel
theorem dd_Operators_push_46 : decode bb_Operators_push 46 = .ok (.putfield 21, 3) := by decide +kernel
theorem dd_Operators_push_49 : decode bb_Operators_push 49 = .ok (.return_, 1) := by decide +kernel
set_option maxRecDepth 100000 in
set_option maxHeartbeats 4000000 in
theorem t_Operators_push_49  (X : zX p s m args cd D cid B bb_Operators_push 3 rr_Operators zT) (H : zH s meth B n0 none "push") {nf : Nat}  {c : Zc} {res : Zc} (h : f_Operators_push_49 nf  c = some res) : Zz p l e (zRm 0 0 0 0) s m args below meth cd (MQ below (zQv D cid B res n0 0) args s 0 0 (fun q => B ≤ q)) D cid B 3 0 0 c 49 [] [] := by
  unfold f_Operators_push_49 at h
  obtain rfl := Option.some.inj h
  exact z_vret X H.1 H.2.1 H.2.2.1 dd_Operators_push_49
set_option maxRecDepth 100000 in
set_option maxHeartbeats 4000000 in
theorem c_Operators_push (l : Launch) {nf : Nat} {a0 : Nat} {a1 : Int32} {a2 : Int32} {c : Zc} {res : Zc} (h : f_Operators_push nf a0 a1 a2 c = some res) : zM l yy_Operators_push ww_Operators_push 0 0 0 0 [.ref a0, .int a1, .int a2] c (fun D cid B => zQv D cid B res c.length 0) := by
  refine z_met (cc := bb_Operators_push) (maxL := 3) (ret := none) (by decide +kernel) rfl (Nat.le_of_ble_eq_true rfl) ?_
  intro p e s m args below meth cd D cid B X h1 h2 h3 h4
  have X : zX p s m args cd D cid B bb_Operators_push 3 rr_Operators zT := X
  have H : zH s meth B c.length none "push" := ⟨h1, h2, h4, h3⟩
  unfold f_Operators_push at h
  show Zz p l e (zRm 0 0 0 0) s m args below meth cd _ D cid B 3 0 0 c 0 [(0, .ref a0), (1, .int a1), (2, .int a2)] []
  refine z_aload_n X dd_Operators_push_0 rfl 0 rfl ?_
  obtain ⟨v1, ev1, h⟩ := zb h
  refine z_get (j := 4) X dd_Operators_push_1 kc_4 ki_4 (by decide) km_452 (zgi_v ev1) ?_
  refine z_bipush (v := 80) X dd_Operators_push_4 (by decide) ?_
  refine z_icmp_ge (tgt := 49) X dd_Operators_push_6 (by decide) (fun q2 => ?_) (fun q2 => ?_)
  · rw [if_pos q2] at h
    refine z_sub [] rfl ?_
    exact t_Operators_push_49 X H h
  · rw [if_neg q2] at h
    refine z_aload_n X dd_Operators_push_9 rfl 0 rfl ?_
    obtain ⟨v3, ev3, h⟩ := zb h
    refine z_get (j := 5) X dd_Operators_push_10 kc_4 ki_4 (by decide) km_453 (zgr_v ev3) ?_
    refine z_aload_n X dd_Operators_push_13 rfl 0 rfl ?_
    obtain ⟨v4, ev4, h⟩ := zb h
    refine z_get (j := 4) X dd_Operators_push_14 kc_4 ki_4 (by decide) km_452 (zgi_v ev4) ?_
    refine z_iload_n X dd_Operators_push_17 rfl 1 rfl ?_
    obtain ⟨c5, ec5, h⟩ := zb h
    refine z_iastore X dd_Operators_push_18 rfl ec5 ?_
    refine z_aload_n X dd_Operators_push_19 rfl 0 rfl ?_
    obtain ⟨v6, ev6, h⟩ := zb h
    refine z_get (j := 6) X dd_Operators_push_20 kc_4 ki_4 (by decide) km_454 (zgr_v ev6) ?_
    refine z_aload_n X dd_Operators_push_23 rfl 0 rfl ?_
    obtain ⟨v7, ev7, h⟩ := zb h
    refine z_get (j := 4) X dd_Operators_push_24 kc_4 ki_4 (by decide) km_452 (zgi_v ev7) ?_
    refine z_iload_n X dd_Operators_push_27 rfl 2 rfl ?_
    obtain ⟨c8, ec8, h⟩ := zb h
    refine z_iastore X dd_Operators_push_28 rfl ec8 ?_
    refine z_aload_n X dd_Operators_push_29 rfl 0 rfl ?_
    obtain ⟨v9, ev9, h⟩ := zb h
    refine z_get (j := 7) X dd_Operators_push_30 kc_4 ki_4 (by decide) km_455 (zgr_v ev9) ?_
    refine z_aload_n X dd_Operators_push_33 rfl 0 rfl ?_
    obtain ⟨v10, ev10, h⟩ := zb h
    refine z_get (j := 4) X dd_Operators_push_34 kc_4 ki_4 (by decide) km_452 (zgi_v ev10) ?_
    refine z_iconst (v := (-1)) X dd_Operators_push_37 (by decide) ?_
    obtain ⟨c11, ec11, h⟩ := zb h
    refine z_iastore X dd_Operators_push_38 rfl ec11 ?_
    refine z_aload_n X dd_Operators_push_39 rfl 0 rfl ?_
    refine z_dup X dd_Operators_push_40 rfl ?_
    obtain ⟨v12, ev12, h⟩ := zb h
    refine z_get (j := 4) X dd_Operators_push_41 kc_4 ki_4 (by decide) km_452 (zgi_v ev12) ?_
    refine z_iconst (v := 1) X dd_Operators_push_44 (by decide) ?_
    refine z_iadd X dd_Operators_push_45 ?_
    obtain ⟨c13, ec13, h⟩ := zb h
    refine z_put (j := 4) X dd_Operators_push_46 kc_4 ki_4 tt_Operators tk_Operators nn_Operators (by decide) km_452 rfl (tk_Operators 4 (by decide)) rfl rfl ec13 ?_
    refine z_sub [] rfl ?_
    exact t_Operators_push_49 X H h
theorem dd_Operators_between_0 : decode bb_Operators_between 0 = .ok (.aload_n 0, 1) := by decide +kernel
theorem dd_Operators_between_1 : decode bb_Operators_between 1 = .ok (.iload_n 1, 1) := by decide +kernel
theorem dd_Operators_between_2 : decode bb_Operators_between 2 = .ok (.invokevirtual 38, 3) := by decide +kernel
theorem dd_Operators_between_5 : decode bb_Operators_between 5 = .ok (.aload_n 0, 1) := by decide +kernel
theorem dd_Operators_between_6 : decode bb_Operators_between 6 = .ok (.iload_n 1, 1) := by decide +kernel
theorem dd_Operators_between_7 : decode bb_Operators_between 7 = .ok (.iload_n 2, 1) := by decide +kernel
theorem dd_Operators_between_8 : decode bb_Operators_between 8 = .ok (.invokevirtual 42, 3) := by decide +kernel
theorem dd_Operators_between_11 : decode bb_Operators_between 11 = .ok (.iload_n 1, 1) := by decide +kernel
theorem dd_Operators_between_12 : decode bb_Operators_between 12 = .ok (.iconst 2, 1) := by decide +kernel
theorem dd_Operators_between_13 : decode bb_Operators_between 13 = .ok (.if_icmp .eq 8, 3) := by decide +kernel
theorem dd_Operators_between_16 : decode bb_Operators_between 16 = .ok (.iload_n 1, 1) := by decide +kernel
theorem dd_Operators_between_17 : decode bb_Operators_between 17 = .ok (.iconst 1, 1) := by decide +kernel
theorem dd_Operators_between_18 : decode bb_Operators_between 18 = .ok (.if_icmp .ne 23, 3) := by decide +kernel
theorem dd_Operators_between_21 : decode bb_Operators_between 21 = .ok (.aload_n 0, 1) := by decide +kernel
theorem dd_Operators_between_22 : decode bb_Operators_between 22 = .ok (.getfield 31, 3) := by decide +kernel
theorem dd_Operators_between_25 : decode bb_Operators_between 25 = .ok (.aload_n 0, 1) := by decide +kernel
theorem dd_Operators_between_26 : decode bb_Operators_between 26 = .ok (.getfield 21, 3) := by decide +kernel
theorem dd_Operators_between_29 : decode bb_Operators_between 29 = .ok (.iconst 1, 1) := by decide +kernel
theorem dd_Operators_between_30 : decode bb_Operators_between 30 = .ok (.isub, 1) := by decide +kernel
theorem dd_Operators_between_31 : decode bb_Operators_between 31 = .ok (.aload_n 0, 1) := by decide +kernel
theorem dd_Operators_between_32 : decode bb_Operators_between 32 = .ok (.getfield 34, 3) := by decide +kernel
theorem dd_Operators_between_35 : decode bb_Operators_between 35 = .ok (.iload_n 2, 1) := by decide +kernel
theorem dd_Operators_between_36 : decode bb_Operators_between 36 = .ok (.iconst 0, 1) := by decide +kernel
theorem dd_Operators_between_37 : decode bb_Operators_between 37 = .ok (.invokevirtual 46, 3) := by decide +kernel
theorem dd_Operators_between_40 : decode bb_Operators_between 40 = .ok (.iastore, 1) := by decide +kernel
theorem dd_Operators_between_41 : decode bb_Operators_between 41 = .ok (.return_, 1) := by decide +kernel
set_option maxRecDepth 100000 in
set_option maxHeartbeats 4000000 in
theorem t_Operators_between_41  (X : zX p s m args cd D cid B bb_Operators_between 3 rr_Operators zT) (H : zH s meth B n0 none "between") {nf : Nat}  {c : Zc} {res : Zc} (h : f_Operators_between_41 nf  c = some res) : Zz p l e (zRm 2 45 0 0) s m args below meth cd (MQ below (zQv D cid B res n0 0) args s 0 0 (fun q => B ≤ q)) D cid B 3 0 0 c 41 [] [] := by
  unfold f_Operators_between_41 at h
  obtain rfl := Option.some.inj h
  exact z_vret X H.1 H.2.1 H.2.2.1 dd_Operators_between_41
set_option maxRecDepth 100000 in
set_option maxHeartbeats 4000000 in
theorem t_Operators_between_21  (X : zX p s m args cd D cid B bb_Operators_between 3 rr_Operators zT) (H : zH s meth B n0 none "between") {nf : Nat} {x0 : Nat} {x2 : Int32} {c : Zc} {res : Zc} (h : f_Operators_between_21 nf x0 x2 c = some res) : Zz p l e (zRm 2 45 0 0) s m args below meth cd (MQ below (zQv D cid B res n0 0) args s 0 0 (fun q => B ≤ q)) D cid B 3 0 0 c 21 [(0, .ref x0), (2, .int x2)] [] := by
  unfold f_Operators_between_21 at h
  refine z_aload_n X dd_Operators_between_21 rfl 0 rfl ?_
  obtain ⟨v6, ev6, h⟩ := zb h
  refine z_get (j := 7) X dd_Operators_between_22 kc_4 ki_4 (by decide) km_455 (zgr_v ev6) ?_
  refine z_aload_n X dd_Operators_between_25 rfl 0 rfl ?_
  obtain ⟨v7, ev7, h⟩ := zb h
  refine z_get (j := 4) X dd_Operators_between_26 kc_4 ki_4 (by decide) km_452 (zgi_v ev7) ?_
  refine z_iconst (v := 1) X dd_Operators_between_29 (by decide) ?_
  refine z_isub X dd_Operators_between_30 ?_
  refine z_aload_n X dd_Operators_between_31 rfl 0 rfl ?_
  obtain ⟨v8, ev8, h⟩ := zb h
  refine z_get (j := 3) X dd_Operators_between_32 kc_4 ki_4 (by decide) km_451 (zgr_v ev8) ?_
  refine z_iload_n X dd_Operators_between_35 rfl 1 rfl ?_
  refine z_iconst (v := 0) X dd_Operators_between_36 (by decide) ?_
  obtain ⟨w10, ew10, h⟩ := zb h
  obtain ⟨q9, eq9, h⟩ := zb h
  refine z_callVi X [.int x2, .int 0] rfl dd_Operators_between_37 (c_Text_emit l eq9) (cwV 2 X.1.2.2.2.2 (zg_V km_1067 km_1056 km_1057 km_128 km_1058) rfl rfl rfl (by decide +kernel) ⟨Nat.le_of_ble_eq_true rfl, Nat.le_of_ble_eq_true rfl⟩) (zob_s ew10) kc_2 rfl (Nat.le_of_ble_eq_true rfl) ⟨Nat.le_of_ble_eq_true rfl, Nat.le_of_ble_eq_true rfl⟩ ?_
  obtain ⟨c11, ec11, h⟩ := zb h
  refine z_iastore X dd_Operators_between_40 rfl ec11 ?_
  refine z_sub [] rfl ?_
  exact t_Operators_between_41 X H h
set_option maxRecDepth 100000 in
set_option maxHeartbeats 4000000 in
theorem c_Operators_between (l : Launch) {nf : Nat} {a0 : Nat} {a1 : Int32} {a2 : Int32} {c : Zc} {res : Zc} (h : f_Operators_between nf a0 a1 a2 c = some res) : zM l yy_Operators_between ww_Operators_between 2 45 0 0 [.ref a0, .int a1, .int a2] c (fun D cid B => zQv D cid B res c.length 0) := by
  refine z_met (cc := bb_Operators_between) (maxL := 3) (ret := none) (by decide +kernel) rfl (Nat.le_of_ble_eq_true rfl) ?_
  intro p e s m args below meth cd D cid B X h1 h2 h3 h4
  have X : zX p s m args cd D cid B bb_Operators_between 3 rr_Operators zT := X
  have H : zH s meth B c.length none "between" := ⟨h1, h2, h4, h3⟩
  unfold f_Operators_between at h
  show Zz p l e (zRm 2 45 0 0) s m args below meth cd _ D cid B 3 0 0 c 0 [(0, .ref a0), (1, .int a1), (2, .int a2)] []
  refine z_aload_n X dd_Operators_between_0 rfl 0 rfl ?_
  refine z_iload_n X dd_Operators_between_1 rfl 1 rfl ?_
  obtain ⟨w2, ew2, h⟩ := zb h
  obtain ⟨q1, eq1, h⟩ := zb h
  refine z_callVv X [.int a1] rfl dd_Operators_between_2 (c_Operators_unwind l eq1) (cwV 1 X.1.2.2.2.2 (zg_V km_1157 km_1060 km_1061 km_132 km_1062) rfl rfl rfl (by decide +kernel) ⟨Nat.le_of_ble_eq_true rfl, Nat.le_of_ble_eq_true rfl⟩) (zob_s ew2) kc_4 rfl (Nat.le_of_ble_eq_true rfl) ⟨Nat.le_of_ble_eq_true rfl, Nat.le_of_ble_eq_true rfl⟩ ?_
  refine z_aload_n X dd_Operators_between_5 rfl 0 rfl ?_
  refine z_iload_n X dd_Operators_between_6 rfl 1 rfl ?_
  refine z_iload_n X dd_Operators_between_7 rfl 2 rfl ?_
  obtain ⟨w4, ew4, h⟩ := zb h
  obtain ⟨q3, eq3, h⟩ := zb h
  refine z_callVv X [.int a1, .int a2] rfl dd_Operators_between_8 (c_Operators_push l eq3) (cwV 2 X.1.2.2.2.2 (zg_V km_1139 km_1140 km_1141 km_132 km_1142) rfl rfl rfl (by decide +kernel) ⟨Nat.le_of_ble_eq_true rfl, Nat.le_of_ble_eq_true rfl⟩) (zob_s ew4) kc_4 rfl (Nat.le_of_ble_eq_true rfl) ⟨Nat.le_of_ble_eq_true rfl, Nat.le_of_ble_eq_true rfl⟩ ?_
  refine z_iload_n X dd_Operators_between_11 rfl 1 rfl ?_
  refine z_iconst (v := 2) X dd_Operators_between_12 (by decide) ?_
  refine z_icmp_eq (tgt := 21) X dd_Operators_between_13 (by decide) (fun q5 => ?_) (fun q5 => ?_)
  · rw [if_pos q5] at h
    refine z_sub [0, 2] rfl ?_
    exact t_Operators_between_21 X H h
  · rw [if_neg q5] at h
    refine z_iload_n X dd_Operators_between_16 rfl 1 rfl ?_
    refine z_iconst (v := 1) X dd_Operators_between_17 (by decide) ?_
    refine z_icmp_ne (tgt := 41) X dd_Operators_between_18 (by decide) (fun q12 => ?_) (fun q12 => ?_)
    · rw [if_neg q12] at h
      refine z_sub [] rfl ?_
      exact t_Operators_between_41 X H h
    · rw [if_pos q12] at h
      refine z_sub [0, 2] rfl ?_
      exact t_Operators_between_21 X H h
theorem dd_Operators_openPrefix_0 : decode bb_Operators_openPrefix 0 = .ok (.aload_n 0, 1) := by decide +kernel
theorem dd_Operators_openPrefix_1 : decode bb_Operators_openPrefix 1 = .ok (.iload_n 1, 1) := by decide +kernel
theorem dd_Operators_openPrefix_2 : decode bb_Operators_openPrefix 2 = .ok (.iload_n 2, 1) := by decide +kernel
theorem dd_Operators_openPrefix_3 : decode bb_Operators_openPrefix 3 = .ok (.invokevirtual 42, 3) := by decide +kernel
theorem dd_Operators_openPrefix_6 : decode bb_Operators_openPrefix 6 = .ok (.aload_n 0, 1) := by decide +kernel
theorem dd_Operators_openPrefix_7 : decode bb_Operators_openPrefix 7 = .ok (.dup, 1) := by decide +kernel
theorem dd_Operators_openPrefix_8 : decode bb_Operators_openPrefix 8 = .ok (.getfield 9, 3) := by decide +kernel
theorem dd_Operators_openPrefix_11 : decode bb_Operators_openPrefix 11 = .ok (.iconst 1, 1) := by decide +kernel
theorem dd_Operators_openPrefix_12 : decode bb_Operators_openPrefix 12 = .ok (.iadd, 1) := by decide +kernel
theorem dd_Operators_openPrefix_13 : decode bb_Operators_openPrefix 13 = .ok (.putfield 9, 3) := by decide +kernel
theorem dd_Operators_openPrefix_16 : decode bb_Operators_openPrefix 16 = .ok (.return_, 1) := by decide +kernel
set_option maxRecDepth 100000 in
set_option maxHeartbeats 4000000 in
theorem c_Operators_openPrefix (l : Launch) {nf : Nat} {a0 : Nat} {a1 : Int32} {a2 : Int32} {c : Zc} {res : Zc} (h : f_Operators_openPrefix nf a0 a1 a2 c = some res) : zM l yy_Operators_openPrefix ww_Operators_openPrefix 1 22 0 0 [.ref a0, .int a1, .int a2] c (fun D cid B => zQv D cid B res c.length 0) := by
  refine z_met (cc := bb_Operators_openPrefix) (maxL := 3) (ret := none) (by decide +kernel) rfl (Nat.le_of_ble_eq_true rfl) ?_
  intro p e s m args below meth cd D cid B X h1 h2 h3 h4
  have X : zX p s m args cd D cid B bb_Operators_openPrefix 3 rr_Operators zT := X
  have H : zH s meth B c.length none "openPrefix" := ⟨h1, h2, h4, h3⟩
  unfold f_Operators_openPrefix at h
  show Zz p l e (zRm 1 22 0 0) s m args below meth cd _ D cid B 3 0 0 c 0 [(0, .ref a0), (1, .int a1), (2, .int a2)] []
  refine z_aload_n X dd_Operators_openPrefix_0 rfl 0 rfl ?_
  refine z_iload_n X dd_Operators_openPrefix_1 rfl 1 rfl ?_
  refine z_iload_n X dd_Operators_openPrefix_2 rfl 2 rfl ?_
  obtain ⟨w2, ew2, h⟩ := zb h
  obtain ⟨q1, eq1, h⟩ := zb h
  refine z_callVv X [.int a1, .int a2] rfl dd_Operators_openPrefix_3 (c_Operators_push l eq1) (cwV 2 X.1.2.2.2.2 (zg_V km_1139 km_1140 km_1141 km_132 km_1142) rfl rfl rfl (by decide +kernel) ⟨Nat.le_of_ble_eq_true rfl, Nat.le_of_ble_eq_true rfl⟩) (zob_s ew2) kc_4 rfl (Nat.le_of_ble_eq_true rfl) ⟨Nat.le_of_ble_eq_true rfl, Nat.le_of_ble_eq_true rfl⟩ ?_
  refine z_aload_n X dd_Operators_openPrefix_6 rfl 0 rfl ?_
  refine z_dup X dd_Operators_openPrefix_7 rfl ?_
  obtain ⟨v3, ev3, h⟩ := zb h
  refine z_get (j := 0) X dd_Operators_openPrefix_8 kc_4 ki_4 (by decide) km_445 (zgi_v ev3) ?_
  refine z_iconst (v := 1) X dd_Operators_openPrefix_11 (by decide) ?_
  refine z_iadd X dd_Operators_openPrefix_12 ?_
  obtain ⟨c4, ec4, h⟩ := zb h
  refine z_put (j := 0) X dd_Operators_openPrefix_13 kc_4 ki_4 tt_Operators tk_Operators nn_Operators (by decide) km_445 rfl (tk_Operators 0 (by decide)) rfl rfl ec4 ?_
  obtain rfl := Option.some.inj h
  exact z_vret X H.1 H.2.1 H.2.2.1 dd_Operators_openPrefix_16
theorem dd_Operators_openParen_0 : decode bb_Operators_openParen 0 = .ok (.aload_n 0, 1) := by decide +kernel
theorem dd_Operators_openParen_1 : decode bb_Operators_openParen 1 = .ok (.iconst 0, 1) := by decide +kernel
theorem dd_Operators_openParen_2 : decode bb_Operators_openParen 2 = .ok (.iconst 0, 1) := by decide +kernel
theorem dd_Operators_openParen_3 : decode bb_Operators_openParen 3 = .ok (.invokevirtual 52, 3) := by decide +kernel
theorem dd_Operators_openParen_6 : decode bb_Operators_openParen 6 = .ok (.aload_n 0, 1) := by decide +kernel
theorem dd_Operators_openParen_7 : decode bb_Operators_openParen 7 = .ok (.dup, 1) := by decide +kernel
theorem dd_Operators_openParen_8 : decode bb_Operators_openParen 8 = .ok (.getfield 15, 3) := by decide +kernel
theorem dd_Operators_openParen_11 : decode bb_Operators_openParen 11 = .ok (.iconst 1, 1) := by decide +kernel
theorem dd_Operators_openParen_12 : decode bb_Operators_openParen 12 = .ok (.iadd, 1) := by decide +kernel
theorem dd_Operators_openParen_13 : decode bb_Operators_openParen 13 = .ok (.putfield 15, 3) := by decide +kernel
theorem dd_Operators_openParen_16 : decode bb_Operators_openParen 16 = .ok (.return_, 1) := by decide +kernel
set_option maxRecDepth 100000 in
set_option maxHeartbeats 4000000 in
theorem c_Operators_openParen (l : Launch) {nf : Nat} {a0 : Nat} {c : Zc} {res : Zc} (h : f_Operators_openParen nf a0 c = some res) : zM l yy_Operators_openParen ww_Operators_openParen 2 44 0 0 [.ref a0] c (fun D cid B => zQv D cid B res c.length 0) := by
  refine z_met (cc := bb_Operators_openParen) (maxL := 1) (ret := none) (by decide +kernel) rfl (Nat.le_of_ble_eq_true rfl) ?_
  intro p e s m args below meth cd D cid B X h1 h2 h3 h4
  have X : zX p s m args cd D cid B bb_Operators_openParen 1 rr_Operators zT := X
  have H : zH s meth B c.length none "openParen" := ⟨h1, h2, h4, h3⟩
  unfold f_Operators_openParen at h
  show Zz p l e (zRm 2 44 0 0) s m args below meth cd _ D cid B 1 0 0 c 0 [(0, .ref a0)] []
  refine z_aload_n X dd_Operators_openParen_0 rfl 0 rfl ?_
  refine z_iconst (v := 0) X dd_Operators_openParen_1 (by decide) ?_
  refine z_iconst (v := 0) X dd_Operators_openParen_2 (by decide) ?_
  obtain ⟨w2, ew2, h⟩ := zb h
  obtain ⟨q1, eq1, h⟩ := zb h
  refine z_callVv X [.int 0, .int 0] rfl dd_Operators_openParen_3 (c_Operators_openPrefix l eq1) (cwV 2 X.1.2.2.2.2 (zg_V km_1147 km_1136 km_1137 km_132 km_1138) rfl rfl rfl (by decide +kernel) ⟨Nat.le_of_ble_eq_true rfl, Nat.le_of_ble_eq_true rfl⟩) (zob_s ew2) kc_4 rfl (Nat.le_of_ble_eq_true rfl) ⟨Nat.le_of_ble_eq_true rfl, Nat.le_of_ble_eq_true rfl⟩ ?_
  refine z_aload_n X dd_Operators_openParen_6 rfl 0 rfl ?_
  refine z_dup X dd_Operators_openParen_7 rfl ?_
  obtain ⟨v3, ev3, h⟩ := zb h
  refine z_get (j := 1) X dd_Operators_openParen_8 kc_4 ki_4 (by decide) km_447 (zgi_v ev3) ?_
  refine z_iconst (v := 1) X dd_Operators_openParen_11 (by decide) ?_
  refine z_iadd X dd_Operators_openParen_12 ?_
  obtain ⟨c4, ec4, h⟩ := zb h
  refine z_put (j := 1) X dd_Operators_openParen_13 kc_4 ki_4 tt_Operators tk_Operators nn_Operators (by decide) km_447 rfl (tk_Operators 1 (by decide)) rfl rfl ec4 ?_
  obtain rfl := Option.some.inj h
  exact z_vret X H.1 H.2.1 H.2.2.1 dd_Operators_openParen_16
theorem dd_Operators_openBracket_0 : decode bb_Operators_openBracket 0 = .ok (.aload_n 0, 1) := by decide +kernel
theorem dd_Operators_openBracket_1 : decode bb_Operators_openBracket 1 = .ok (.iconst 0, 1) := by decide +kernel
theorem dd_Operators_openBracket_2 : decode bb_Operators_openBracket 2 = .ok (.iconst 0, 1) := by decide +kernel
theorem dd_Operators_openBracket_3 : decode bb_Operators_openBracket 3 = .ok (.invokevirtual 52, 3) := by decide +kernel
theorem dd_Operators_openBracket_6 : decode bb_Operators_openBracket 6 = .ok (.aload_n 0, 1) := by decide +kernel
theorem dd_Operators_openBracket_7 : decode bb_Operators_openBracket 7 = .ok (.dup, 1) := by decide +kernel
theorem dd_Operators_openBracket_8 : decode bb_Operators_openBracket 8 = .ok (.getfield 18, 3) := by decide +kernel
theorem dd_Operators_openBracket_11 : decode bb_Operators_openBracket 11 = .ok (.iconst 1, 1) := by decide +kernel
theorem dd_Operators_openBracket_12 : decode bb_Operators_openBracket 12 = .ok (.iadd, 1) := by decide +kernel
theorem dd_Operators_openBracket_13 : decode bb_Operators_openBracket 13 = .ok (.putfield 18, 3) := by decide +kernel
theorem dd_Operators_openBracket_16 : decode bb_Operators_openBracket 16 = .ok (.return_, 1) := by decide +kernel
set_option maxRecDepth 100000 in
set_option maxHeartbeats 4000000 in
theorem c_Operators_openBracket (l : Launch) {nf : Nat} {a0 : Nat} {c : Zc} {res : Zc} (h : f_Operators_openBracket nf a0 c = some res) : zM l yy_Operators_openBracket ww_Operators_openBracket 2 44 0 0 [.ref a0] c (fun D cid B => zQv D cid B res c.length 0) := by
  refine z_met (cc := bb_Operators_openBracket) (maxL := 1) (ret := none) (by decide +kernel) rfl (Nat.le_of_ble_eq_true rfl) ?_
  intro p e s m args below meth cd D cid B X h1 h2 h3 h4
  have X : zX p s m args cd D cid B bb_Operators_openBracket 1 rr_Operators zT := X
  have H : zH s meth B c.length none "openBracket" := ⟨h1, h2, h4, h3⟩
  unfold f_Operators_openBracket at h
  show Zz p l e (zRm 2 44 0 0) s m args below meth cd _ D cid B 1 0 0 c 0 [(0, .ref a0)] []
  refine z_aload_n X dd_Operators_openBracket_0 rfl 0 rfl ?_
  refine z_iconst (v := 0) X dd_Operators_openBracket_1 (by decide) ?_
  refine z_iconst (v := 0) X dd_Operators_openBracket_2 (by decide) ?_
  obtain ⟨w2, ew2, h⟩ := zb h
  obtain ⟨q1, eq1, h⟩ := zb h
  refine z_callVv X [.int 0, .int 0] rfl dd_Operators_openBracket_3 (c_Operators_openPrefix l eq1) (cwV 2 X.1.2.2.2.2 (zg_V km_1147 km_1136 km_1137 km_132 km_1138) rfl rfl rfl (by decide +kernel) ⟨Nat.le_of_ble_eq_true rfl, Nat.le_of_ble_eq_true rfl⟩) (zob_s ew2) kc_4 rfl (Nat.le_of_ble_eq_true rfl) ⟨Nat.le_of_ble_eq_true rfl, Nat.le_of_ble_eq_true rfl⟩ ?_
  refine z_aload_n X dd_Operators_openBracket_6 rfl 0 rfl ?_
  refine z_dup X dd_Operators_openBracket_7 rfl ?_
  obtain ⟨v3, ev3, h⟩ := zb h
  refine z_get (j := 2) X dd_Operators_openBracket_8 kc_4 ki_4 (by decide) km_449 (zgi_v ev3) ?_
  refine z_iconst (v := 1) X dd_Operators_openBracket_11 (by decide) ?_
  refine z_iadd X dd_Operators_openBracket_12 ?_
  obtain ⟨c4, ec4, h⟩ := zb h
  refine z_put (j := 2) X dd_Operators_openBracket_13 kc_4 ki_4 tt_Operators tk_Operators nn_Operators (by decide) km_449 rfl (tk_Operators 2 (by decide)) rfl rfl ec4 ?_
  obtain rfl := Option.some.inj h
  exact z_vret X H.1 H.2.1 H.2.2.1 dd_Operators_openBracket_16
theorem dd_Operators_popOpen_0 : decode bb_Operators_popOpen 0 = .ok (.aload_n 0, 1) := by decide +kernel
theorem dd_Operators_popOpen_1 : decode bb_Operators_popOpen 1 = .ok (.getfield 21, 3) := by decide +kernel
theorem dd_Operators_popOpen_4 : decode bb_Operators_popOpen 4 = .ok (.ifCond .le 13, 3) := by decide +kernel
theorem dd_Operators_popOpen_7 : decode bb_Operators_popOpen 7 = .ok (.aload_n 0, 1) := by decide +kernel
theorem dd_Operators_popOpen_8 : decode bb_Operators_popOpen 8 = .ok (.dup, 1) := by decide +kernel
theorem dd_Operators_popOpen_9 : decode bb_Operators_popOpen 9 = .ok (.getfield 21, 3) := by decide +kernel
theorem dd_Operators_popOpen_12 : decode bb_Operators_popOpen 12 = .ok (.iconst 1, 1) := by decide +kernel
theorem dd_Operators_popOpen_13 : decode bb_Operators_popOpen 13 = .ok (.isub, 1) := by decide +kernel
theorem dd_Operators_popOpen_14 : decode bb_Operators_popOpen 14 = .ok (.putfield 21, 3) := by decide +kernel
theorem dd_Operators_popOpen_17 : decode bb_Operators_popOpen 17 = .ok (.aload_n 0, 1) := by decide +kernel
theorem dd_Operators_popOpen_18 : decode bb_Operators_popOpen 18 = .ok (.dup, 1) := by decide +kernel
theorem dd_Operators_popOpen_19 : decode bb_Operators_popOpen 19 = .ok (.getfield 9, 3) := by decide +kernel
theorem dd_Operators_popOpen_22 : decode bb_Operators_popOpen 22 = .ok (.iconst 1, 1) := by decide +kernel
theorem dd_Operators_popOpen_23 : decode bb_Operators_popOpen 23 = .ok (.isub, 1) := by decide +kernel
theorem dd_Operators_popOpen_24 : decode bb_Operators_popOpen 24 = .ok (.putfield 9, 3) := by decide +kernel
theorem dd_Operators_popOpen_27 : decode bb_Operators_popOpen 27 = .ok (.return_, 1) := by decide +kernel
set_option maxRecDepth 100000 in
set_option maxHeartbeats 4000000 in
theorem t_Operators_popOpen_17  (X : zX p s m args cd D cid B bb_Operators_popOpen 1 rr_Operators zT) (H : zH s meth B n0 none "popOpen") {nf : Nat} {x0 : Nat} {c : Zc} {res : Zc} (h : f_Operators_popOpen_17 nf x0 c = some res) : Zz p l e (zRm 0 0 0 0) s m args below meth cd (MQ below (zQv D cid B res n0 0) args s 0 0 (fun q => B ≤ q)) D cid B 1 0 0 c 17 [(0, .ref x0)] [] := by
  unfold f_Operators_popOpen_17 at h
  refine z_aload_n X dd_Operators_popOpen_17 rfl 0 rfl ?_
  refine z_dup X dd_Operators_popOpen_18 rfl ?_
  obtain ⟨v3, ev3, h⟩ := zb h
  refine z_get (j := 0) X dd_Operators_popOpen_19 kc_4 ki_4 (by decide) km_445 (zgi_v ev3) ?_
  refine z_iconst (v := 1) X dd_Operators_popOpen_22 (by decide) ?_
  refine z_isub X dd_Operators_popOpen_23 ?_
  obtain ⟨c4, ec4, h⟩ := zb h
  refine z_put (j := 0) X dd_Operators_popOpen_24 kc_4 ki_4 tt_Operators tk_Operators nn_Operators (by decide) km_445 rfl (tk_Operators 0 (by decide)) rfl rfl ec4 ?_
  obtain rfl := Option.some.inj h
  exact z_vret X H.1 H.2.1 H.2.2.1 dd_Operators_popOpen_27
set_option maxRecDepth 100000 in
set_option maxHeartbeats 4000000 in
theorem c_Operators_popOpen (l : Launch) {nf : Nat} {a0 : Nat} {c : Zc} {res : Zc} (h : f_Operators_popOpen nf a0 c = some res) : zM l yy_Operators_popOpen ww_Operators_popOpen 0 0 0 0 [.ref a0] c (fun D cid B => zQv D cid B res c.length 0) := by
  refine z_met (cc := bb_Operators_popOpen) (maxL := 1) (ret := none) (by decide +kernel) rfl (Nat.le_of_ble_eq_true rfl) ?_
  intro p e s m args below meth cd D cid B X h1 h2 h3 h4
  have X : zX p s m args cd D cid B bb_Operators_popOpen 1 rr_Operators zT := X
  have H : zH s meth B c.length none "popOpen" := ⟨h1, h2, h4, h3⟩
  unfold f_Operators_popOpen at h
  show Zz p l e (zRm 0 0 0 0) s m args below meth cd _ D cid B 1 0 0 c 0 [(0, .ref a0)] []
  refine z_aload_n X dd_Operators_popOpen_0 rfl 0 rfl ?_
  obtain ⟨v1, ev1, h⟩ := zb h
  refine z_get (j := 4) X dd_Operators_popOpen_1 kc_4 ki_4 (by decide) km_452 (zgi_v ev1) ?_
  refine z_if_le (tgt := 17) X dd_Operators_popOpen_4 (by decide) (fun q2 => ?_) (fun q2 => ?_)
  · rw [if_pos q2] at h
    exact t_Operators_popOpen_17 X H h
  · rw [if_neg q2] at h
    refine z_aload_n X dd_Operators_popOpen_7 rfl 0 rfl ?_
    refine z_dup X dd_Operators_popOpen_8 rfl ?_
    obtain ⟨v5, ev5, h⟩ := zb h
    refine z_get (j := 4) X dd_Operators_popOpen_9 kc_4 ki_4 (by decide) km_452 (zgi_v ev5) ?_
    refine z_iconst (v := 1) X dd_Operators_popOpen_12 (by decide) ?_
    refine z_isub X dd_Operators_popOpen_13 ?_
    obtain ⟨c6, ec6, h⟩ := zb h
    refine z_put (j := 4) X dd_Operators_popOpen_14 kc_4 ki_4 tt_Operators tk_Operators nn_Operators (by decide) km_452 rfl (tk_Operators 4 (by decide)) rfl rfl ec6 ?_
    exact t_Operators_popOpen_17 X H h
theorem dd_Operators_closeParen_0 : decode bb_Operators_closeParen 0 = .ok (.aload_n 0, 1) := by decide +kernel
theorem dd_Operators_closeParen_1 : decode bb_Operators_closeParen 1 = .ok (.iconst 5, 1) := by decide +kernel
theorem dd_Operators_closeParen_2 : decode bb_Operators_closeParen 2 = .ok (.invokevirtual 38, 3) := by decide +kernel
theorem dd_Operators_closeParen_5 : decode bb_Operators_closeParen 5 = .ok (.aload_n 0, 1) := by decide +kernel
theorem dd_Operators_closeParen_6 : decode bb_Operators_closeParen 6 = .ok (.dup, 1) := by decide +kernel
theorem dd_Operators_closeParen_7 : decode bb_Operators_closeParen 7 = .ok (.getfield 15, 3) := by decide +kernel
theorem dd_Operators_closeParen_10 : decode bb_Operators_closeParen 10 = .ok (.iconst 1, 1) := by decide +kernel
theorem dd_Operators_closeParen_11 : decode bb_Operators_closeParen 11 = .ok (.isub, 1) := by decide +kernel
theorem dd_Operators_closeParen_12 : decode bb_Operators_closeParen 12 = .ok (.putfield 15, 3) := by decide +kernel
theorem dd_Operators_closeParen_15 : decode bb_Operators_closeParen 15 = .ok (.aload_n 0, 1) := by decide +kernel
theorem dd_Operators_closeParen_16 : decode bb_Operators_closeParen 16 = .ok (.invokevirtual 55, 3) := by decide +kernel
theorem dd_Operators_closeParen_19 : decode bb_Operators_closeParen 19 = .ok (.aload_n 0, 1) := by decide +kernel
theorem dd_Operators_closeParen_20 : decode bb_Operators_closeParen 20 = .ok (.bipush 7, 2) := by decide +kernel
theorem dd_Operators_closeParen_22 : decode bb_Operators_closeParen 22 = .ok (.invokevirtual 38, 3) := by decide +kernel
theorem dd_Operators_closeParen_25 : decode bb_Operators_closeParen 25 = .ok (.return_, 1) := by decide +kernel
set_option maxRecDepth 100000 in
set_option maxHeartbeats 4000000 in
theorem c_Operators_closeParen (l : Launch) {nf : Nat} {a0 : Nat} {c : Zc} {res : Zc} (h : f_Operators_closeParen nf a0 c = some res) : zM l yy_Operators_closeParen ww_Operators_closeParen 2 45 0 0 [.ref a0] c (fun D cid B => zQv D cid B res c.length 0) := by
  refine z_met (cc := bb_Operators_closeParen) (maxL := 1) (ret := none) (by decide +kernel) rfl (Nat.le_of_ble_eq_true rfl) ?_
  intro p e s m args below meth cd D cid B X h1 h2 h3 h4
  have X : zX p s m args cd D cid B bb_Operators_closeParen 1 rr_Operators zT := X
  have H : zH s meth B c.length none "closeParen" := ⟨h1, h2, h4, h3⟩
  unfold f_Operators_closeParen at h
  show Zz p l e (zRm 2 45 0 0) s m args below meth cd _ D cid B 1 0 0 c 0 [(0, .ref a0)] []
  refine z_aload_n X dd_Operators_closeParen_0 rfl 0 rfl ?_
  refine z_iconst (v := 5) X dd_Operators_closeParen_1 (by decide) ?_
  obtain ⟨w2, ew2, h⟩ := zb h
  obtain ⟨q1, eq1, h⟩ := zb h
  refine z_callVv X [.int 5] rfl dd_Operators_closeParen_2 (c_Operators_unwind l eq1) (cwV 1 X.1.2.2.2.2 (zg_V km_1157 km_1060 km_1061 km_132 km_1062) rfl rfl rfl (by decide +kernel) ⟨Nat.le_of_ble_eq_true rfl, Nat.le_of_ble_eq_true rfl⟩) (zob_s ew2) kc_4 rfl (Nat.le_of_ble_eq_true rfl) ⟨Nat.le_of_ble_eq_true rfl, Nat.le_of_ble_eq_true rfl⟩ ?_
  refine z_aload_n X dd_Operators_closeParen_5 rfl 0 rfl ?_
  refine z_dup X dd_Operators_closeParen_6 rfl ?_
  obtain ⟨v3, ev3, h⟩ := zb h
  refine z_get (j := 1) X dd_Operators_closeParen_7 kc_4 ki_4 (by decide) km_447 (zgi_v ev3) ?_
  refine z_iconst (v := 1) X dd_Operators_closeParen_10 (by decide) ?_
  refine z_isub X dd_Operators_closeParen_11 ?_
  obtain ⟨c4, ec4, h⟩ := zb h
  refine z_put (j := 1) X dd_Operators_closeParen_12 kc_4 ki_4 tt_Operators tk_Operators nn_Operators (by decide) km_447 rfl (tk_Operators 1 (by decide)) rfl rfl ec4 ?_
  refine z_aload_n X dd_Operators_closeParen_15 rfl 0 rfl ?_
  obtain ⟨w6, ew6, h⟩ := zb h
  obtain ⟨q5, eq5, h⟩ := zb h
  refine z_callVv X [] rfl dd_Operators_closeParen_16 (c_Operators_popOpen l eq5) (cwV 0 X.1.2.2.2.2 (zg_V km_1162 km_1164 km_33 km_132 km_1165) rfl rfl rfl (by decide +kernel) ⟨Nat.le_of_ble_eq_true rfl, Nat.le_of_ble_eq_true rfl⟩) (zob_s ew6) kc_4 rfl (Nat.le_of_ble_eq_true rfl) ⟨Nat.le_of_ble_eq_true rfl, Nat.le_of_ble_eq_true rfl⟩ ?_
  refine z_aload_n X dd_Operators_closeParen_19 rfl 0 rfl ?_
  refine z_bipush (v := 7) X dd_Operators_closeParen_20 (by decide) ?_
  obtain ⟨w8, ew8, h⟩ := zb h
  obtain ⟨q7, eq7, h⟩ := zb h
  refine z_callVv X [.int 7] rfl dd_Operators_closeParen_22 (c_Operators_unwind l eq7) (cwV 1 X.1.2.2.2.2 (zg_V km_1157 km_1060 km_1061 km_132 km_1062) rfl rfl rfl (by decide +kernel) ⟨Nat.le_of_ble_eq_true rfl, Nat.le_of_ble_eq_true rfl⟩) (zob_s ew8) kc_4 rfl (Nat.le_of_ble_eq_true rfl) ⟨Nat.le_of_ble_eq_true rfl, Nat.le_of_ble_eq_true rfl⟩ ?_
  obtain rfl := Option.some.inj h
  exact z_vret X H.1 H.2.1 H.2.2.1 dd_Operators_closeParen_25
theorem dd_Operators_closeBracket_0 : decode bb_Operators_closeBracket 0 = .ok (.aload_n 0, 1) := by decide +kernel
theorem dd_Operators_closeBracket_1 : decode bb_Operators_closeBracket 1 = .ok (.iconst 1, 1) := by decide +kernel
theorem dd_Operators_closeBracket_2 : decode bb_Operators_closeBracket 2 = .ok (.invokevirtual 38, 3) := by decide +kernel
theorem dd_Operators_closeBracket_5 : decode bb_Operators_closeBracket 5 = .ok (.aload_n 0, 1) := by decide +kernel
theorem dd_Operators_closeBracket_6 : decode bb_Operators_closeBracket 6 = .ok (.dup, 1) := by decide +kernel
theorem dd_Operators_closeBracket_7 : decode bb_Operators_closeBracket 7 = .ok (.getfield 18, 3) := by decide +kernel
theorem dd_Operators_closeBracket_10 : decode bb_Operators_closeBracket 10 = .ok (.iconst 1, 1) := by decide +kernel
theorem dd_Operators_closeBracket_11 : decode bb_Operators_closeBracket 11 = .ok (.isub, 1) := by decide +kernel
theorem dd_Operators_closeBracket_12 : decode bb_Operators_closeBracket 12 = .ok (.putfield 18, 3) := by decide +kernel
theorem dd_Operators_closeBracket_15 : decode bb_Operators_closeBracket 15 = .ok (.aload_n 0, 1) := by decide +kernel
theorem dd_Operators_closeBracket_16 : decode bb_Operators_closeBracket 16 = .ok (.invokevirtual 55, 3) := by decide +kernel
theorem dd_Operators_closeBracket_19 : decode bb_Operators_closeBracket 19 = .ok (.aload_n 0, 1) := by decide +kernel
theorem dd_Operators_closeBracket_20 : decode bb_Operators_closeBracket 20 = .ok (.iconst 3, 1) := by decide +kernel
theorem dd_Operators_closeBracket_21 : decode bb_Operators_closeBracket 21 = .ok (.invokevirtual 38, 3) := by decide +kernel
theorem dd_Operators_closeBracket_24 : decode bb_Operators_closeBracket 24 = .ok (.return_, 1) := by decide +kernel
set_option maxRecDepth 100000 in
set_option maxHeartbeats 4000000 in
theorem c_Operators_closeBracket (l : Launch) {nf : Nat} {a0 : Nat} {c : Zc} {res : Zc} (h : f_Operators_closeBracket nf a0 c = some res) : zM l yy_Operators_closeBracket ww_Operators_closeBracket 2 45 0 0 [.ref a0] c (fun D cid B => zQv D cid B res c.length 0) := by
  refine z_met (cc := bb_Operators_closeBracket) (maxL := 1) (ret := none) (by decide +kernel) rfl (Nat.le_of_ble_eq_true rfl) ?_
  intro p e s m args below meth cd D cid B X h1 h2 h3 h4
  have X : zX p s m args cd D cid B bb_Operators_closeBracket 1 rr_Operators zT := X
  have H : zH s meth B c.length none "closeBracket" := ⟨h1, h2, h4, h3⟩
  unfold f_Operators_closeBracket at h
  show Zz p l e (zRm 2 45 0 0) s m args below meth cd _ D cid B 1 0 0 c 0 [(0, .ref a0)] []
  refine z_aload_n X dd_Operators_closeBracket_0 rfl 0 rfl ?_
  refine z_iconst (v := 1) X dd_Operators_closeBracket_1 (by decide) ?_
  obtain ⟨w2, ew2, h⟩ := zb h
  obtain ⟨q1, eq1, h⟩ := zb h
  refine z_callVv X [.int 1] rfl dd_Operators_closeBracket_2 (c_Operators_unwind l eq1) (cwV 1 X.1.2.2.2.2 (zg_V km_1157 km_1060 km_1061 km_132 km_1062) rfl rfl rfl (by decide +kernel) ⟨Nat.le_of_ble_eq_true rfl, Nat.le_of_ble_eq_true rfl⟩) (zob_s ew2) kc_4 rfl (Nat.le_of_ble_eq_true rfl) ⟨Nat.le_of_ble_eq_true rfl, Nat.le_of_ble_eq_true rfl⟩ ?_
  refine z_aload_n X dd_Operators_closeBracket_5 rfl 0 rfl ?_
  refine z_dup X dd_Operators_closeBracket_6 rfl ?_
  obtain ⟨v3, ev3, h⟩ := zb h
  refine z_get (j := 2) X dd_Operators_closeBracket_7 kc_4 ki_4 (by decide) km_449 (zgi_v ev3) ?_
  refine z_iconst (v := 1) X dd_Operators_closeBracket_10 (by decide) ?_
  refine z_isub X dd_Operators_closeBracket_11 ?_
  obtain ⟨c4, ec4, h⟩ := zb h
  refine z_put (j := 2) X dd_Operators_closeBracket_12 kc_4 ki_4 tt_Operators tk_Operators nn_Operators (by decide) km_449 rfl (tk_Operators 2 (by decide)) rfl rfl ec4 ?_
  refine z_aload_n X dd_Operators_closeBracket_15 rfl 0 rfl ?_
  obtain ⟨w6, ew6, h⟩ := zb h
  obtain ⟨q5, eq5, h⟩ := zb h
  refine z_callVv X [] rfl dd_Operators_closeBracket_16 (c_Operators_popOpen l eq5) (cwV 0 X.1.2.2.2.2 (zg_V km_1162 km_1164 km_33 km_132 km_1165) rfl rfl rfl (by decide +kernel) ⟨Nat.le_of_ble_eq_true rfl, Nat.le_of_ble_eq_true rfl⟩) (zob_s ew6) kc_4 rfl (Nat.le_of_ble_eq_true rfl) ⟨Nat.le_of_ble_eq_true rfl, Nat.le_of_ble_eq_true rfl⟩ ?_
  refine z_aload_n X dd_Operators_closeBracket_19 rfl 0 rfl ?_
  refine z_iconst (v := 3) X dd_Operators_closeBracket_20 (by decide) ?_
  obtain ⟨w8, ew8, h⟩ := zb h
  obtain ⟨q7, eq7, h⟩ := zb h
  refine z_callVv X [.int 3] rfl dd_Operators_closeBracket_21 (c_Operators_unwind l eq7) (cwV 1 X.1.2.2.2.2 (zg_V km_1157 km_1060 km_1061 km_132 km_1062) rfl rfl rfl (by decide +kernel) ⟨Nat.le_of_ble_eq_true rfl, Nat.le_of_ble_eq_true rfl⟩) (zob_s ew8) kc_4 rfl (Nat.le_of_ble_eq_true rfl) ⟨Nat.le_of_ble_eq_true rfl, Nat.le_of_ble_eq_true rfl⟩ ?_
  obtain rfl := Option.some.inj h
  exact z_vret X H.1 H.2.1 H.2.2.1 dd_Operators_closeBracket_24
theorem dd_Reader_init_0 : decode bb_Reader_init 0 = .ok (.aload_n 0, 1) := by decide +kernel
theorem dd_Reader_init_1 : decode bb_Reader_init 1 = .ok (.invokespecial 3, 3) := by decide +kernel
theorem dd_Reader_init_4 : decode bb_Reader_init 4 = .ok (.aload_n 0, 1) := by decide +kernel
theorem dd_Reader_init_5 : decode bb_Reader_init 5 = .ok (.bipush (-2), 2) := by decide +kernel
theorem dd_Reader_init_7 : decode bb_Reader_init 7 = .ok (.putfield 9, 3) := by decide +kernel
theorem dd_Reader_init_10 : decode bb_Reader_init 10 = .ok (.aload_n 0, 1) := by decide +kernel
theorem dd_Reader_init_11 : decode bb_Reader_init 11 = .ok (.new 15, 3) := by decide +kernel
theorem dd_Reader_init_14 : decode bb_Reader_init 14 = .ok (.dup, 1) := by decide +kernel
theorem dd_Reader_init_15 : decode bb_Reader_init 15 = .ok (.invokespecial 17, 3) := by decide +kernel
theorem dd_Reader_init_18 : decode bb_Reader_init 18 = .ok (.putfield 18, 3) := by decide +kernel
theorem dd_Reader_init_21 : decode bb_Reader_init 21 = .ok (.aload_n 0, 1) := by decide +kernel
theorem dd_Reader_init_22 : decode bb_Reader_init 22 = .ok (.bipush 66, 2) := by decide +kernel
theorem dd_Reader_init_24 : decode bb_Reader_init 24 = .ok (.newarray .int, 2) := by decide +kernel
theorem dd_Reader_init_26 : decode bb_Reader_init 26 = .ok (.putfield 22, 3) := by decide +kernel
theorem dd_Reader_init_29 : decode bb_Reader_init 29 = .ok (.aload_n 0, 1) := by decide +kernel
theorem dd_Reader_init_30 : decode bb_Reader_init 30 = .ok (.iconst 0, 1) := by decide +kernel
theorem dd_Reader_init_31 : decode bb_Reader_init 31 = .ok (.putfield 26, 3) := by decide +kernel
theorem dd_Reader_init_34 : decode bb_Reader_init 34 = .ok (.aload_n 0, 1) := by decide +kernel
theorem dd_Reader_init_35 : decode bb_Reader_init 35 = .ok (.iconst 0, 1) := by decide +kernel
theorem dd_Reader_init_36 : decode bb_Reader_init 36 = .ok (.putfield 30, 3) := by decide +kernel
theorem dd_Reader_init_39 : decode bb_Reader_init 39 = .ok (.aload_n 0, 1) := by decide +kernel
theorem dd_Reader_init_40 : decode bb_Reader_init 40 = .ok (.iconst 0, 1) := by decide +kernel
theorem dd_Reader_init_41 : decode bb_Reader_init 41 = .ok (.putfield 33, 3) := by decide +kernel
theorem dd_Reader_init_44 : decode bb_Reader_init 44 = .ok (.aload_n 0, 1) := by decide +kernel
theorem dd_Reader_init_45 : decode bb_Reader_init 45 = .ok (.iconst 0, 1) := by decide +kernel
theorem dd_Reader_init_46 : decode bb_Reader_init 46 = .ok (.putfield 36, 3) := by decide +kernel
theorem dd_Reader_init_49 : decode bb_Reader_init 49 = .ok (.aload_n 0, 1) := by decide +kernel
theorem dd_Reader_init_50 : decode bb_Reader_init 50 = .ok (.iconst 0, 1) := by decide +kernel
theorem dd_Reader_init_51 : decode bb_Reader_init 51 = .ok (.putfield 39, 3) := by decide +kernel
theorem dd_Reader_init_54 : decode bb_Reader_init 54 = .ok (.aload_n 0, 1) := by decide +kernel
theorem dd_Reader_init_55 : decode bb_Reader_init 55 = .ok (.iconst 0, 1) := by decide +kernel
theorem dd_Reader_init_56 : decode bb_Reader_init 56 = .ok (.putfield 42, 3) := by decide +kernel
theorem dd_Reader_init_59 : decode bb_Reader_init 59 = .ok (.aload_n 0, 1) := by decide +kernel
theorem dd_Reader_init_60 : decode bb_Reader_init 60 = .ok (.iconst 0, 1) := by decide +kernel
theorem dd_Reader_init_61 : decode bb_Reader_init 61 = .ok (.putfield 45, 3) := by decide +kernel
theorem dd_Reader_init_64 : decode bb_Reader_init 64 = .ok (.aload_n 0, 1) := by decide +kernel
theorem dd_Reader_init_65 : decode bb_Reader_init 65 = .ok (.iconst (-1), 1) := by decide +kernel
theorem dd_Reader_init_66 : decode bb_Reader_init 66 = .ok (.putfield 48, 3) := by decide +kernel
theorem dd_Reader_init_69 : decode bb_Reader_init 69 = .ok (.aload_n 0, 1) := by decide +kernel
theorem dd_Reader_init_70 : decode bb_Reader_init 70 = .ok (.iconst 0, 1) := by decide +kernel
theorem dd_Reader_init_71 : decode bb_Reader_init 71 = .ok (.putfield 51, 3) := by decide +kernel
theorem dd_Reader_init_74 : decode bb_Reader_init 74 = .ok (.aload_n 0, 1) := by decide +kernel
theorem dd_Reader_init_75 : decode bb_Reader_init 75 = .ok (.iconst 0, 1) := by decide +kernel
theorem dd_Reader_init_76 : decode bb_Reader_init 76 = .ok (.putfield 54, 3) := by decide +kernel
theorem dd_Reader_init_79 : decode bb_Reader_init 79 = .ok (.aload_n 0, 1) := by decide +kernel
theorem dd_Reader_init_80 : decode bb_Reader_init 80 = .ok (.iconst 0, 1) := by decide +kernel
theorem dd_Reader_init_81 : decode bb_Reader_init 81 = .ok (.putfield 57, 3) := by decide +kernel
theorem dd_Reader_init_84 : decode bb_Reader_init 84 = .ok (.aload_n 0, 1) := by decide +kernel
theorem dd_Reader_init_85 : decode bb_Reader_init 85 = .ok (.iconst 0, 1) := by decide +kernel
theorem dd_Reader_init_86 : decode bb_Reader_init 86 = .ok (.putfield 60, 3) := by decide +kernel
theorem dd_Reader_init_89 : decode bb_Reader_init 89 = .ok (.aload_n 0, 1) := by decide +kernel
theorem dd_Reader_init_90 : decode bb_Reader_init 90 = .ok (.iconst 0, 1) := by decide +kernel
theorem dd_Reader_init_91 : decode bb_Reader_init 91 = .ok (.putfield 63, 3) := by decide +kernel
theorem dd_Reader_init_94 : decode bb_Reader_init 94 = .ok (.aload_n 0, 1) := by decide +kernel
theorem dd_Reader_init_95 : decode bb_Reader_init 95 = .ok (.iconst 0, 1) := by decide +kernel
theorem dd_Reader_init_96 : decode bb_Reader_init 96 = .ok (.putfield 66, 3) := by decide +kernel
theorem dd_Reader_init_99 : decode bb_Reader_init 99 = .ok (.aload_n 0, 1) := by decide +kernel
theorem dd_Reader_init_100 : decode bb_Reader_init 100 = .ok (.aload_n 1, 1) := by decide +kernel
theorem dd_Reader_init_101 : decode bb_Reader_init 101 = .ok (.putfield 69, 3) := by decide +kernel
theorem dd_Reader_init_104 : decode bb_Reader_init 104 = .ok (.aload_n 0, 1) := by decide +kernel
theorem dd_Reader_init_105 : decode bb_Reader_init 105 = .ok (.aload_n 1, 1) := by decide +kernel
theorem dd_Reader_init_106 : decode bb_Reader_init 106 = .ok (.getfield 73, 3) := by decide +kernel
theorem dd_Reader_init_109 : decode bb_Reader_init 109 = .ok (.iconst 0, 1) := by decide +kernel
theorem dd_Reader_init_110 : decode bb_Reader_init 110 = .ok (.aaload, 1) := by decide +kernel
theorem dd_Reader_init_111 : decode bb_Reader_init 111 = .ok (.putfield 79, 3) := by decide +kernel
theorem dd_Reader_init_114 : decode bb_Reader_init 114 = .ok (.aload_n 0, 1) := by decide +kernel
theorem dd_Reader_init_115 : decode bb_Reader_init 115 = .ok (.new 82, 3) := by decide +kernel
theorem dd_Reader_init_118 : decode bb_Reader_init 118 = .ok (.dup, 1) := by decide +kernel
theorem dd_Reader_init_119 : decode bb_Reader_init 119 = .ok (.aload_n 1, 1) := by decide +kernel
theorem dd_Reader_init_120 : decode bb_Reader_init 120 = .ok (.invokespecial 84, 3) := by decide +kernel
theorem dd_Reader_init_123 : decode bb_Reader_init 123 = .ok (.putfield 87, 3) := by decide +kernel
theorem dd_Reader_init_126 : decode bb_Reader_init 126 = .ok (.return_, 1) := by decide +kernel
set_option maxRecDepth 100000 in
set_option maxHeartbeats 4000000 in
theorem c_Reader_init (l : Launch) {nf mc ms : Nat} {a0 : Nat} {a1 : Nat} {c : Zc} {res : Zc} (h : f_Reader_init nf mc ms a0 a1 c = some res) : zM l yy_Reader_init ww_Reader_init 2 41 mc ms [.ref a0, .ref a1] c (fun D cid B => zQv D cid B res c.length mc) := by
  refine z_met (cc := bb_Reader_init) (maxL := 2) (ret := none) (by decide +kernel) rfl (Nat.le_of_ble_eq_true rfl) ?_
  intro p e s m args below meth cd D cid B X h1 h2 h3 h4
  have X : zX p s m args cd D cid B bb_Reader_init 2 rr_Reader zT := X
  have H : zH s meth B c.length none "<init>" := ⟨h1, h2, h4, h3⟩
  unfold f_Reader_init at h
  show Zz p l e (zRm 2 41 mc ms) s m args below meth cd _ D cid B 2 0 0 c 0 [(0, .ref a0), (1, .ref a1)] []
  refine z_aload_n X dd_Reader_init_0 rfl 0 rfl ?_
  refine z_objInit X dd_Reader_init_1 km_409 km_153 km_154 (Nat.le_of_ble_eq_true rfl) (Nat.le_of_ble_eq_true rfl) ?_
  refine z_aload_n X dd_Reader_init_4 rfl 0 rfl ?_
  refine z_bipush (v := (-2)) X dd_Reader_init_5 (by decide) ?_
  obtain ⟨c1, ec1, h⟩ := zb h
  refine z_put (j := 0) X dd_Reader_init_7 kc_5 ki_5 tt_Reader tk_Reader nn_Reader (by decide) km_473 rfl (tk_Reader 0 (by decide)) rfl rfl ec1 ?_
  refine z_aload_n X dd_Reader_init_10 rfl 0 rfl ?_
  obtain ⟨u3, eu3, h⟩ := zb h
  obtain ⟨c2, ec2, h⟩ := zb h
  refine z_newC X dd_Reader_init_11 kc_3 ki_3 tt_Tokens tk_Tokens km_410 km_411 km_131 (by decide +kernel) (fun _ _ => rfl) (zlim_s eu3).1 (zlim_s eu3).2 ec2 ?_
  refine z_dup X dd_Reader_init_14 rfl ?_
  obtain ⟨u5, eu5, h⟩ := zb h
  obtain ⟨q4, eq4, h⟩ := zb h
  refine z_callIv (ret := none) X [] rfl dd_Reader_init_15 (c_Tokens_init l eq4) (cwI 0 X.1.2.2.2.2 (zg_I km_414) rfl rfl rfl (X.1.2.2.2.2 _ km_131) (X.1.2.2.2.2 _ km_412) (X.1.2.2.2.2 _ km_413) rfl (by decide +kernel) ⟨Nat.le_of_ble_eq_true rfl, Nat.le_of_ble_eq_true rfl⟩) rfl (Nat.le_of_ble_eq_true rfl) (zlim_s eu5) ?_
  obtain ⟨c6, ec6, h⟩ := zb h
  refine z_putF (j := 1) X dd_Reader_init_18 kc_5 ki_5 tt_Reader tk_Reader nn_Reader (by decide) km_475 rfl H.2.2.2 rfl (tk_Reader 1 (by decide)) rfl rfl ec6 ?_
  refine z_aload_n X dd_Reader_init_21 rfl 0 rfl ?_
  refine z_bipush (v := 66) X dd_Reader_init_22 (by decide) ?_
  obtain ⟨u8, eu8, h⟩ := zb h
  obtain ⟨c7, ec7, h⟩ := zb h
  refine z_newaC (ty := .int) X dd_Reader_init_24 rfl km_206 rfl (fun _ q => by cases q) (fun _ => rfl) (fun _ => rfl) (by decide) (by decide) (by decide) (zlim_s eu8).1 (zlim_s eu8).2 ec7 ?_
  obtain ⟨c9, ec9, h⟩ := zb h
  refine z_putF (j := 3) X dd_Reader_init_26 kc_5 ki_5 tt_Reader tk_Reader nn_Reader (by decide) km_477 rfl H.2.2.2 rfl (tk_Reader 3 (by decide)) rfl rfl ec9 ?_
  refine z_aload_n X dd_Reader_init_29 rfl 0 rfl ?_
  refine z_iconst (v := 0) X dd_Reader_init_30 (by decide) ?_
  obtain ⟨c10, ec10, h⟩ := zb h
  refine z_put (j := 6) X dd_Reader_init_31 kc_5 ki_5 tt_Reader tk_Reader nn_Reader (by decide) km_480 rfl (tk_Reader 6 (by decide)) rfl rfl ec10 ?_
  refine z_aload_n X dd_Reader_init_34 rfl 0 rfl ?_
  refine z_iconst (v := 0) X dd_Reader_init_35 (by decide) ?_
  obtain ⟨c11, ec11, h⟩ := zb h
  refine z_put (j := 7) X dd_Reader_init_36 kc_5 ki_5 tt_Reader tk_Reader nn_Reader (by decide) km_481 rfl (tk_Reader 7 (by decide)) rfl rfl ec11 ?_
  refine z_aload_n X dd_Reader_init_39 rfl 0 rfl ?_
  refine z_iconst (v := 0) X dd_Reader_init_40 (by decide) ?_
  obtain ⟨c12, ec12, h⟩ := zb h
  refine z_put (j := 8) X dd_Reader_init_41 kc_5 ki_5 tt_Reader tk_Reader nn_Reader (by decide) km_482 rfl (tk_Reader 8 (by decide)) rfl rfl ec12 ?_
  refine z_aload_n X dd_Reader_init_44 rfl 0 rfl ?_
  refine z_iconst (v := 0) X dd_Reader_init_45 (by decide) ?_
  obtain ⟨c13, ec13, h⟩ := zb h
  refine z_put (j := 9) X dd_Reader_init_46 kc_5 ki_5 tt_Reader tk_Reader nn_Reader (by decide) km_483 rfl (tk_Reader 9 (by decide)) rfl rfl ec13 ?_
  refine z_aload_n X dd_Reader_init_49 rfl 0 rfl ?_
  refine z_iconst (v := 0) X dd_Reader_init_50 (by decide) ?_
  obtain ⟨c14, ec14, h⟩ := zb h
  refine z_put (j := 10) X dd_Reader_init_51 kc_5 ki_5 tt_Reader tk_Reader nn_Reader (by decide) km_484 rfl (tk_Reader 10 (by decide)) rfl rfl ec14 ?_
  refine z_aload_n X dd_Reader_init_54 rfl 0 rfl ?_
  refine z_iconst (v := 0) X dd_Reader_init_55 (by decide) ?_
  obtain ⟨c15, ec15, h⟩ := zb h
  refine z_put (j := 11) X dd_Reader_init_56 kc_5 ki_5 tt_Reader tk_Reader nn_Reader (by decide) km_485 rfl (tk_Reader 11 (by decide)) rfl rfl ec15 ?_
  refine z_aload_n X dd_Reader_init_59 rfl 0 rfl ?_
  refine z_iconst (v := 0) X dd_Reader_init_60 (by decide) ?_
  obtain ⟨c16, ec16, h⟩ := zb h
  refine z_put (j := 12) X dd_Reader_init_61 kc_5 ki_5 tt_Reader tk_Reader nn_Reader (by decide) km_486 rfl (tk_Reader 12 (by decide)) rfl rfl ec16 ?_
  refine z_aload_n X dd_Reader_init_64 rfl 0 rfl ?_
  refine z_iconst (v := (-1)) X dd_Reader_init_65 (by decide) ?_
  obtain ⟨c17, ec17, h⟩ := zb h
  refine z_put (j := 13) X dd_Reader_init_66 kc_5 ki_5 tt_Reader tk_Reader nn_Reader (by decide) km_487 rfl (tk_Reader 13 (by decide)) rfl rfl ec17 ?_
  refine z_aload_n X dd_Reader_init_69 rfl 0 rfl ?_
  refine z_iconst (v := 0) X dd_Reader_init_70 (by decide) ?_
  obtain ⟨c18, ec18, h⟩ := zb h
  refine z_put (j := 14) X dd_Reader_init_71 kc_5 ki_5 tt_Reader tk_Reader nn_Reader (by decide) km_488 rfl (tk_Reader 14 (by decide)) rfl rfl ec18 ?_
  refine z_aload_n X dd_Reader_init_74 rfl 0 rfl ?_
  refine z_iconst (v := 0) X dd_Reader_init_75 (by decide) ?_
  obtain ⟨c19, ec19, h⟩ := zb h
  refine z_put (j := 15) X dd_Reader_init_76 kc_5 ki_5 tt_Reader tk_Reader nn_Reader (by decide) km_489 rfl (tk_Reader 15 (by decide)) rfl rfl ec19 ?_
  refine z_aload_n X dd_Reader_init_79 rfl 0 rfl ?_
  refine z_iconst (v := 0) X dd_Reader_init_80 (by decide) ?_
  obtain ⟨c20, ec20, h⟩ := zb h
  refine z_put (j := 16) X dd_Reader_init_81 kc_5 ki_5 tt_Reader tk_Reader nn_Reader (by decide) km_490 rfl (tk_Reader 16 (by decide)) rfl rfl ec20 ?_
  refine z_aload_n X dd_Reader_init_84 rfl 0 rfl ?_
  refine z_iconst (v := 0) X dd_Reader_init_85 (by decide) ?_
  obtain ⟨c21, ec21, h⟩ := zb h
  refine z_put (j := 17) X dd_Reader_init_86 kc_5 ki_5 tt_Reader tk_Reader nn_Reader (by decide) km_491 rfl (tk_Reader 17 (by decide)) rfl rfl ec21 ?_
  refine z_aload_n X dd_Reader_init_89 rfl 0 rfl ?_
  refine z_iconst (v := 0) X dd_Reader_init_90 (by decide) ?_
  obtain ⟨c22, ec22, h⟩ := zb h
  refine z_put (j := 18) X dd_Reader_init_91 kc_5 ki_5 tt_Reader tk_Reader nn_Reader (by decide) km_492 rfl (tk_Reader 18 (by decide)) rfl rfl ec22 ?_
  refine z_aload_n X dd_Reader_init_94 rfl 0 rfl ?_
  refine z_iconst (v := 0) X dd_Reader_init_95 (by decide) ?_
  obtain ⟨c23, ec23, h⟩ := zb h
  refine z_put (j := 19) X dd_Reader_init_96 kc_5 ki_5 tt_Reader tk_Reader nn_Reader (by decide) km_493 rfl (tk_Reader 19 (by decide)) rfl rfl ec23 ?_
  refine z_aload_n X dd_Reader_init_99 rfl 0 rfl ?_
  refine z_aload_n X dd_Reader_init_100 rfl 1 rfl ?_
  obtain ⟨c24, ec24, h⟩ := zb h
  refine z_put (j := 4) X dd_Reader_init_101 kc_5 ki_5 tt_Reader tk_Reader nn_Reader (by decide) km_478 rfl (tk_Reader 4 (by decide)) rfl rfl ec24 ?_
  refine z_aload_n X dd_Reader_init_104 rfl 0 rfl ?_
  refine z_aload_n X dd_Reader_init_105 rfl 1 rfl ?_
  obtain ⟨v25, ev25, h⟩ := zb h
  refine z_get (j := 4) X dd_Reader_init_106 kc_2 ki_2 (by decide) km_314 (zgr_v ev25) ?_
  refine z_iconst (v := 0) X dd_Reader_init_109 (by decide) ?_
  obtain ⟨v26, ev26, h⟩ := zb h
  refine z_aaload X dd_Reader_init_110 rfl ev26 ?_
  obtain ⟨c27, ec27, h⟩ := zb h
  refine z_put (j := 5) X dd_Reader_init_111 kc_5 ki_5 tt_Reader tk_Reader nn_Reader (by decide) km_479 rfl (tk_Reader 5 (by decide)) rfl rfl ec27 ?_
  refine z_aload_n X dd_Reader_init_114 rfl 0 rfl ?_
  obtain ⟨u29, eu29, h⟩ := zb h
  obtain ⟨c28, ec28, h⟩ := zb h
  refine z_newC X dd_Reader_init_115 kc_4 ki_4 tt_Operators tk_Operators km_439 km_440 km_132 (by decide +kernel) (fun _ _ => rfl) (zlim_s eu29).1 (zlim_s eu29).2 ec28 ?_
  refine z_dup X dd_Reader_init_118 rfl ?_
  refine z_aload_n X dd_Reader_init_119 rfl 1 rfl ?_
  obtain ⟨u31, eu31, h⟩ := zb h
  obtain ⟨q30, eq30, h⟩ := zb h
  refine z_callIv (ret := none) X [.ref a1] rfl dd_Reader_init_120 (c_Operators_init l eq30) (cwI 1 X.1.2.2.2.2 (zg_I km_443) rfl rfl rfl (X.1.2.2.2.2 _ km_132) (X.1.2.2.2.2 _ km_441) (X.1.2.2.2.2 _ km_442) rfl (by decide +kernel) ⟨Nat.le_of_ble_eq_true rfl, Nat.le_of_ble_eq_true rfl⟩) rfl (Nat.le_of_ble_eq_true rfl) (zlim_s eu31) ?_
  obtain ⟨c32, ec32, h⟩ := zb h
  refine z_putF (j := 2) X dd_Reader_init_123 kc_5 ki_5 tt_Reader tk_Reader nn_Reader (by decide) km_476 rfl H.2.2.2 rfl (tk_Reader 2 (by decide)) rfl rfl ec32 ?_
  obtain ⟨u33, eu33, h⟩ := zb h
  refine z_wid (zend_s eu33).1 (zend_s eu33).2 ?_
  obtain rfl := Option.some.inj h
  exact z_vret X H.1 H.2.1 H.2.2.1 dd_Reader_init_126
end ZzM
