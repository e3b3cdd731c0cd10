section ZzM
variable {p : Program} {l : Launch} {e : Env} {s : State} {m : MethodId} {args : Array Value} {below : List Frame} {meth : Method} {cd : Code} {Q : State → Prop} {D : va_G} {cid : Nat → ClassId} {B n0 : Nat}
theorem dd_Tokens_wordKind_0 : decode bb_Tokens_wordKind 0 = .ok (.bipush 10, 2) := by decide +kernel
theorem dd_Tokens_wordKind_2 : decode bb_Tokens_wordKind 2 = .ok (.istore_n 3, 1) := by decide +kernel
theorem dd_Tokens_wordKind_3 : decode bb_Tokens_wordKind 3 = .ok (.iconst 0, 1) := by decide +kernel
theorem dd_Tokens_wordKind_4 : decode bb_Tokens_wordKind 4 = .ok (.istore 4, 2) := by decide +kernel
theorem dd_Tokens_wordKind_6 : decode bb_Tokens_wordKind 6 = .ok (.iconst 0, 1) := by decide +kernel
theorem dd_Tokens_wordKind_7 : decode bb_Tokens_wordKind 7 = .ok (.istore 5, 2) := by decide +kernel
theorem dd_Tokens_wordKind_9 : decode bb_Tokens_wordKind 9 = .ok (.iload 5, 2) := by decide +kernel
theorem dd_Tokens_wordKind_11 : decode bb_Tokens_wordKind 11 = .ok (.ldc 83, 2) := by decide +kernel
theorem dd_Tokens_wordKind_13 : decode bb_Tokens_wordKind 13 = .ok (.invokevirtual 85, 3) := by decide +kernel
theorem dd_Tokens_wordKind_16 : decode bb_Tokens_wordKind 16 = .ok (.if_icmp .ge 54, 3) := by decide +kernel
theorem dd_Tokens_wordKind_19 : decode bb_Tokens_wordKind 19 = .ok (.ldc 83, 2) := by decide +kernel
theorem dd_Tokens_wordKind_21 : decode bb_Tokens_wordKind 21 = .ok (.iload 5, 2) := by decide +kernel
theorem dd_Tokens_wordKind_23 : decode bb_Tokens_wordKind 23 = .ok (.invokevirtual 88, 3) := by decide +kernel
theorem dd_Tokens_wordKind_26 : decode bb_Tokens_wordKind 26 = .ok (.bipush 32, 2) := by decide +kernel
theorem dd_Tokens_wordKind_28 : decode bb_Tokens_wordKind 28 = .ok (.if_icmp .ne 36, 3) := by decide +kernel
theorem dd_Tokens_wordKind_31 : decode bb_Tokens_wordKind 31 = .ok (.iload 5, 2) := by decide +kernel
theorem dd_Tokens_wordKind_33 : decode bb_Tokens_wordKind 33 = .ok (.iload 4, 2) := by decide +kernel
theorem dd_Tokens_wordKind_35 : decode bb_Tokens_wordKind 35 = .ok (.isub, 1) := by decide +kernel
theorem dd_Tokens_wordKind_36 : decode bb_Tokens_wordKind 36 = .ok (.iload_n 2, 1) := by decide +kernel
theorem dd_Tokens_wordKind_37 : decode bb_Tokens_wordKind 37 = .ok (.iload_n 1, 1) := by decide +kernel
theorem dd_Tokens_wordKind_38 : decode bb_Tokens_wordKind 38 = .ok (.isub, 1) := by decide +kernel
theorem dd_Tokens_wordKind_39 : decode bb_Tokens_wordKind 39 = .ok (.if_icmp .ne 16, 3) := by decide +kernel
theorem dd_Tokens_wordKind_42 : decode bb_Tokens_wordKind 42 = .ok (.aload_n 0, 1) := by decide +kernel
theorem dd_Tokens_wordKind_43 : decode bb_Tokens_wordKind 43 = .ok (.iload_n 1, 1) := by decide +kernel
theorem dd_Tokens_wordKind_44 : decode bb_Tokens_wordKind 44 = .ok (.iload_n 2, 1) := by decide +kernel
theorem dd_Tokens_wordKind_45 : decode bb_Tokens_wordKind 45 = .ok (.iload 4, 2) := by decide +kernel
theorem dd_Tokens_wordKind_47 : decode bb_Tokens_wordKind 47 = .ok (.invokevirtual 92, 3) := by decide +kernel
theorem dd_Tokens_wordKind_50 : decode bb_Tokens_wordKind 50 = .ok (.ifCond .eq 5, 3) := by decide +kernel
theorem dd_Tokens_wordKind_53 : decode bb_Tokens_wordKind 53 = .ok (.iload_n 3, 1) := by decide +kernel
theorem dd_Tokens_wordKind_54 : decode bb_Tokens_wordKind 54 = .ok (.ireturn, 1) := by decide +kernel
theorem dd_Tokens_wordKind_55 : decode bb_Tokens_wordKind 55 = .ok (.iinc 3 1, 3) := by decide +kernel
theorem dd_Tokens_wordKind_58 : decode bb_Tokens_wordKind 58 = .ok (.iload 5, 2) := by decide +kernel
theorem dd_Tokens_wordKind_60 : decode bb_Tokens_wordKind 60 = .ok (.iconst 1, 1) := by decide +kernel
theorem dd_Tokens_wordKind_61 : decode bb_Tokens_wordKind 61 = .ok (.iadd, 1) := by decide +kernel
theorem dd_Tokens_wordKind_62 : decode bb_Tokens_wordKind 62 = .ok (.istore 4, 2) := by decide +kernel
theorem dd_Tokens_wordKind_64 : decode bb_Tokens_wordKind 64 = .ok (.iinc 5 1, 3) := by decide +kernel
theorem dd_Tokens_wordKind_67 : decode bb_Tokens_wordKind 67 = .ok (.goto (-58), 3) := by decide +kernel
theorem dd_Tokens_wordKind_70 : decode bb_Tokens_wordKind 70 = .ok (.iconst 0, 1) := by decide +kernel
theorem dd_Tokens_wordKind_71 : decode bb_Tokens_wordKind 71 = .ok (.ireturn, 1) := by decide +kernel
def f_Tokens_wordKind_64 (nf : Nat) (x0 : Nat) (x1 : Int32) (x2 : Int32) (x3 : Int32) (x4 : Int32) (x5 : Int32) (c : Zc) : Option ((Nat × Int32 × Int32 × Int32 × Int32 × Int32 × Zc) ⊕ ((Int32 × Zc) ⊕ (Zc))) :=
  some (.inl (x0, x1, x2, x3, x4, (x5 + 1), c))
def f_Tokens_wordKind_55 (nf : Nat) (x0 : Nat) (x1 : Int32) (x2 : Int32) (x3 : Int32) (x5 : Int32) (c : Zc) : Option ((Nat × Int32 × Int32 × Int32 × Int32 × Int32 × Zc) ⊕ ((Int32 × Zc) ⊕ (Zc))) :=
  f_Tokens_wordKind_64 nf x0 x1 x2 (x3 + 1) (x5 + 1) x5 c
def g_Tokens_wordKind_9 (nf : Nat) (x0 : Nat) (x1 : Int32) (x2 : Int32) (x3 : Int32) (x4 : Int32) (x5 : Int32) (c : Zc) : Option ((Nat × Int32 × Int32 × Int32 × Int32 × Int32 × Zc) ⊕ ((Int32 × Zc) ⊕ (Zc))) :=
  (zst 2).bind fun w2 => (f_String_length nf 2 c).bind fun q1 => if q1.1 ≤ x5 then (some (.inr (.inr q1.2))) else ((zst 2).bind fun w5 => (f_String_charAt nf 2 x5 q1.2).bind fun q4 => if q4.1 = 32 then (if (x5 - x4) = (x2 - x1) then ((zob q4.2 x0 3).bind fun w9 => (f_Tokens_isSame nf x0 x1 x2 x4 q4.2).bind fun q8 => if q8.1 = 0 then (f_Tokens_wordKind_55 nf x0 x1 x2 x3 x5 q8.2) else (some (.inr (.inl (x3, q8.2))))) else (f_Tokens_wordKind_55 nf x0 x1 x2 x3 x5 q4.2)) else (f_Tokens_wordKind_64 nf x0 x1 x2 x3 x4 x5 q4.2))
def f_Tokens_wordKind_9 (nf : Nat) (x0 : Nat) (x1 : Int32) (x2 : Int32) (x3 : Int32) (x4 : Int32) (x5 : Int32) (c : Zc) : Option (Int32 × Zc) :=
  (zlp (fun a => g_Tokens_wordKind_9 nf a.1 a.2.1 a.2.2.1 a.2.2.2.1 a.2.2.2.2.1 a.2.2.2.2.2.1 a.2.2.2.2.2.2) nf (x0, x1, x2, x3, x4, x5, c)).bind fun b => Sum.elim (fun b => some (b.1, b.2)) (fun b => some (0, b)) b
def f_Tokens_wordKind (nf : Nat) (a0 : Nat) (a1 : Int32) (a2 : Int32) (c : Zc) : Option (Int32 × Zc) :=
  f_Tokens_wordKind_9 nf a0 a1 a2 10 0 0 c
set_option maxRecDepth 100000 in
set_option maxHeartbeats 4000000 in
theorem t_Tokens_wordKind_64  (X : zX p s m args cd D cid B bb_Tokens_wordKind 6 rr_Tokens zT) (H : zH s meth B n0 (some (.int)) "wordKind") {nf : Nat} {x0 : Nat} {x1 : Int32} {x2 : Int32} {x3 : Int32} {x4 : Int32} {x5 : Int32} {c : Zc} {r : (Nat × Int32 × Int32 × Int32 × Int32 × Int32 × Zc) ⊕ ((Int32 × Zc) ⊕ (Zc))} (h : f_Tokens_wordKind_64 nf x0 x1 x2 x3 x4 x5 c = some r) (k0 : ∀ a, r = .inl a → (fun a : Nat × Int32 × Int32 × Int32 × Int32 × Int32 × Zc => Zz p l e (zRm 5 109 0 0) s m args below meth cd Q D cid B 6 0 0 a.2.2.2.2.2.2 9 [(0, .ref a.1), (1, .int a.2.1), (2, .int a.2.2.1), (3, .int a.2.2.2.1), (4, .int a.2.2.2.2.1), (5, .int a.2.2.2.2.2.1)] []) a) (k1 : ∀ b, r = .inr b → (fun b : (Int32 × Zc) ⊕ (Zc) => Sum.elim (fun b => Zz p l e (zRm 5 109 0 0) s m args below meth cd Q D cid B 6 0 0 b.2 53 [(3, .int b.1)] []) (fun b => Zz p l e (zRm 5 109 0 0) s m args below meth cd Q D cid B 6 0 0 b 70 [] []) b) b) : Zz p l e (zRm 5 109 0 0) s m args below meth cd Q D cid B 6 0 0 c 64 [(0, .ref x0), (1, .int x1), (2, .int x2), (3, .int x3), (4, .int x4), (5, .int x5)] [] := by
  unfold f_Tokens_wordKind_64 at h
  refine z_iinc (v := (x5 + 1)) (lv' := [(5, .int (x5 + 1)), (0, .ref x0), (1, .int x1), (2, .int x2), (3, .int x3), (4, .int x4)]) X dd_Tokens_wordKind_64 5 rfl rfl (by decide) rfl ?_
  refine z_goto (tgt := 9) X dd_Tokens_wordKind_67 (by decide) ?_
  refine z_sub [1, 2, 3, 4, 5, 0] rfl ?_
  obtain rfl := Option.some.inj h
  exact k0 _ rfl
set_option maxRecDepth 100000 in
set_option maxHeartbeats 4000000 in
theorem t_Tokens_wordKind_55  (X : zX p s m args cd D cid B bb_Tokens_wordKind 6 rr_Tokens zT) (H : zH s meth B n0 (some (.int)) "wordKind") {nf : Nat} {x0 : Nat} {x1 : Int32} {x2 : Int32} {x3 : Int32} {x5 : Int32} {c : Zc} {r : (Nat × Int32 × Int32 × Int32 × Int32 × Int32 × Zc) ⊕ ((Int32 × Zc) ⊕ (Zc))} (h : f_Tokens_wordKind_55 nf x0 x1 x2 x3 x5 c = some r) (k0 : ∀ a, r = .inl a → (fun a : Nat × Int32 × Int32 × Int32 × Int32 × Int32 × Zc => Zz p l e (zRm 5 109 0 0) s m args below meth cd Q D cid B 6 0 0 a.2.2.2.2.2.2 9 [(0, .ref a.1), (1, .int a.2.1), (2, .int a.2.2.1), (3, .int a.2.2.2.1), (4, .int a.2.2.2.2.1), (5, .int a.2.2.2.2.2.1)] []) a) (k1 : ∀ b, r = .inr b → (fun b : (Int32 × Zc) ⊕ (Zc) => Sum.elim (fun b => Zz p l e (zRm 5 109 0 0) s m args below meth cd Q D cid B 6 0 0 b.2 53 [(3, .int b.1)] []) (fun b => Zz p l e (zRm 5 109 0 0) s m args below meth cd Q D cid B 6 0 0 b 70 [] []) b) b) : Zz p l e (zRm 5 109 0 0) s m args below meth cd Q D cid B 6 0 0 c 55 [(0, .ref x0), (1, .int x1), (2, .int x2), (3, .int x3), (5, .int x5)] [] := by
  unfold f_Tokens_wordKind_55 at h
  refine z_iinc (v := (x3 + 1)) (lv' := [(3, .int (x3 + 1)), (0, .ref x0), (1, .int x1), (2, .int x2), (5, .int x5)]) X dd_Tokens_wordKind_55 3 rfl rfl (by decide) rfl ?_
  refine z_iload X dd_Tokens_wordKind_58 4 rfl ?_
  refine z_iconst (v := 1) X dd_Tokens_wordKind_60 (by decide) ?_
  refine z_iadd X dd_Tokens_wordKind_61 ?_
  refine z_istore (lv' := [(4, .int (x5 + 1)), (3, .int (x3 + 1)), (0, .ref x0), (1, .int x1), (2, .int x2), (5, .int x5)]) X dd_Tokens_wordKind_62 (by decide) rfl ?_
  refine z_sub [2, 3, 4, 1, 0, 5] rfl ?_
  exact t_Tokens_wordKind_64 X H h k0 k1
set_option maxRecDepth 100000 in
set_option maxHeartbeats 4000000 in
theorem u_Tokens_wordKind_9  (X : zX p s m args cd D cid B bb_Tokens_wordKind 6 rr_Tokens zT) (H : zH s meth B n0 (some (.int)) "wordKind") {nf : Nat} {x0 : Nat} {x1 : Int32} {x2 : Int32} {x3 : Int32} {x4 : Int32} {x5 : Int32} {c : Zc} {r : (Nat × Int32 × Int32 × Int32 × Int32 × Int32 × Zc) ⊕ ((Int32 × Zc) ⊕ (Zc))} (h : g_Tokens_wordKind_9 nf x0 x1 x2 x3 x4 x5 c = some r) (k0 : ∀ a, r = .inl a → (fun a : Nat × Int32 × Int32 × Int32 × Int32 × Int32 × Zc => Zz p l e (zRm 5 109 0 0) s m args below meth cd Q D cid B 6 0 0 a.2.2.2.2.2.2 9 [(0, .ref a.1), (1, .int a.2.1), (2, .int a.2.2.1), (3, .int a.2.2.2.1), (4, .int a.2.2.2.2.1), (5, .int a.2.2.2.2.2.1)] []) a) (k1 : ∀ b, r = .inr b → (fun b : (Int32 × Zc) ⊕ (Zc) => Sum.elim (fun b => Zz p l e (zRm 5 109 0 0) s m args below meth cd Q D cid B 6 0 0 b.2 53 [(3, .int b.1)] []) (fun b => Zz p l e (zRm 5 109 0 0) s m args below meth cd Q D cid B 6 0 0 b 70 [] []) b) b) : Zz p l e (zRm 5 109 0 0) s m args below meth cd Q D cid B 6 0 0 c 9 [(0, .ref x0), (1, .int x1), (2, .int x2), (3, .int x3), (4, .int x4), (5, .int x5)] [] := by
  unfold g_Tokens_wordKind_9 at h
  refine z_iload X dd_Tokens_wordKind_9 5 rfl ?_
  refine z_ldcS (i := 2) X dd_Tokens_wordKind_11 (by decide) rfl rfl ?_
  obtain ⟨w2, ew2, h⟩ := zb h
  obtain ⟨q1, eq1, h⟩ := zb h
  refine z_callXi X [] rfl dd_Tokens_wordKind_13 (c_String_length l eq1) (cwV 0 X.1.2.2.2.2 (zg_V km_964 km_885 km_886 km_140 km_887) rfl rfl rfl (by decide +kernel) ⟨Nat.le_of_ble_eq_true rfl, Nat.le_of_ble_eq_true rfl⟩) (zst_s ew2) rfl (Nat.le_of_ble_eq_true rfl) ⟨Nat.le_of_ble_eq_true rfl, Nat.le_of_ble_eq_true rfl⟩ ?_
  refine z_icmp_ge (tgt := 70) X dd_Tokens_wordKind_16 (by decide) (fun q3 => ?_) (fun q3 => ?_)
  · rw [if_pos q3] at h
    refine z_sub [] rfl ?_
    obtain rfl := Option.some.inj h
    exact k1 _ rfl
  · rw [if_neg q3] at h
    refine z_ldcS (i := 2) X dd_Tokens_wordKind_19 (by decide) rfl rfl ?_
    refine z_iload X dd_Tokens_wordKind_21 5 rfl ?_
    obtain ⟨w5, ew5, h⟩ := zb h
    obtain ⟨q4, eq4, h⟩ := zb h
    refine z_callXi X [.int x5] rfl dd_Tokens_wordKind_23 (c_String_charAt l eq4) (cwV 1 X.1.2.2.2.2 (zg_V km_965 km_966 km_967 km_140 km_968) rfl rfl rfl (by decide +kernel) ⟨Nat.le_of_ble_eq_true rfl, Nat.le_of_ble_eq_true rfl⟩) (zst_s ew5) rfl (Nat.le_of_ble_eq_true rfl) ⟨Nat.le_of_ble_eq_true rfl, Nat.le_of_ble_eq_true rfl⟩ ?_
    refine z_bipush (v := 32) X dd_Tokens_wordKind_26 (by decide) ?_
    refine z_icmp_ne (tgt := 64) X dd_Tokens_wordKind_28 (by decide) (fun q6 => ?_) (fun q6 => ?_)
    · rw [if_neg q6] at h
      exact t_Tokens_wordKind_64 X H h k0 k1
    · rw [if_pos q6] at h
      refine z_iload X dd_Tokens_wordKind_31 5 rfl ?_
      refine z_iload X dd_Tokens_wordKind_33 4 rfl ?_
      refine z_isub X dd_Tokens_wordKind_35 ?_
      refine z_iload_n X dd_Tokens_wordKind_36 rfl 2 rfl ?_
      refine z_iload_n X dd_Tokens_wordKind_37 rfl 1 rfl ?_
      refine z_isub X dd_Tokens_wordKind_38 ?_
      refine z_icmp_ne (tgt := 55) X dd_Tokens_wordKind_39 (by decide) (fun q7 => ?_) (fun q7 => ?_)
      · rw [if_neg q7] at h
        refine z_sub [0, 1, 2, 3, 5] rfl ?_
        exact t_Tokens_wordKind_55 X H h k0 k1
      · rw [if_pos q7] at h
        refine z_aload_n X dd_Tokens_wordKind_42 rfl 0 rfl ?_
        refine z_iload_n X dd_Tokens_wordKind_43 rfl 1 rfl ?_
        refine z_iload_n X dd_Tokens_wordKind_44 rfl 2 rfl ?_
        refine z_iload X dd_Tokens_wordKind_45 4 rfl ?_
        obtain ⟨w9, ew9, h⟩ := zb h
        obtain ⟨q8, eq8, h⟩ := zb h
        refine z_callVi X [.int x1, .int x2, .int x4] rfl dd_Tokens_wordKind_47 (c_Tokens_isSame l eq8) (cwV 3 X.1.2.2.2.2 (zg_V km_985 km_987 km_8 km_131 km_988) rfl rfl rfl (by decide +kernel) ⟨Nat.le_of_ble_eq_true rfl, Nat.le_of_ble_eq_true rfl⟩) (zob_s ew9) kc_3 rfl (Nat.le_of_ble_eq_true rfl) ⟨Nat.le_of_ble_eq_true rfl, Nat.le_of_ble_eq_true rfl⟩ ?_
        refine z_if_eq (tgt := 55) X dd_Tokens_wordKind_50 (by decide) (fun q10 => ?_) (fun q10 => ?_)
        · rw [if_pos q10] at h
          refine z_sub [0, 1, 2, 3, 5] rfl ?_
          exact t_Tokens_wordKind_55 X H h k0 k1
        · rw [if_neg q10] at h
          refine z_sub [3] rfl ?_
          obtain rfl := Option.some.inj h
          exact k1 _ rfl
set_option maxRecDepth 100000 in
set_option maxHeartbeats 4000000 in
theorem t_Tokens_wordKind_9  (X : zX p s m args cd D cid B bb_Tokens_wordKind 6 rr_Tokens zT) (H : zH s meth B n0 (some (.int)) "wordKind") {nf : Nat} {x0 : Nat} {x1 : Int32} {x2 : Int32} {x3 : Int32} {x4 : Int32} {x5 : Int32} {c : Zc} {res : Int32 × Zc} (h : f_Tokens_wordKind_9 nf x0 x1 x2 x3 x4 x5 c = some res) : Zz p l e (zRm 5 109 0 0) s m args below meth cd (MQ below (zQi D cid B res.1 res.2 n0 0) args s 0 0 (fun q => B ≤ q)) D cid B 6 0 0 c 9 [(0, .ref x0), (1, .int x1), (2, .int x2), (3, .int x3), (4, .int x4), (5, .int x5)] [] := by
  unfold f_Tokens_wordKind_9 at h
  obtain ⟨b, eb, h⟩ := zb h
  refine zlp_ok (P := fun a : Nat × Int32 × Int32 × Int32 × Int32 × Int32 × Zc => Zz p l e (zRm 5 109 0 0) s m args below meth cd _ D cid B 6 0 0 a.2.2.2.2.2.2 9 [(0, .ref a.1), (1, .int a.2.1), (2, .int a.2.2.1), (3, .int a.2.2.2.1), (4, .int a.2.2.2.2.1), (5, .int a.2.2.2.2.2.1)] []) (G := fun b : (Int32 × Zc) ⊕ (Zc) => Sum.elim (fun b => Zz p l e (zRm 5 109 0 0) s m args below meth cd _ D cid B 6 0 0 b.2 53 [(3, .int b.1)] []) (fun b => Zz p l e (zRm 5 109 0 0) s m args below meth cd _ D cid B 6 0 0 b 70 [] []) b) (fun a r ha k0 k1 => u_Tokens_wordKind_9 X H ha k0 k1) nf _ b eb ?_
  rcases b with b | b
  · simp only [Sum.elim_inl] at h ⊢
    refine z_iload_n X dd_Tokens_wordKind_53 rfl 0 rfl ?_
    obtain rfl := Option.some.inj h
    exact z_iret X H.1 H.2.1 H.2.2.1 dd_Tokens_wordKind_54
  · simp only [Sum.elim_inr] at h ⊢
    refine z_iconst (v := 0) X dd_Tokens_wordKind_70 (by decide) ?_
    obtain rfl := Option.some.inj h
    exact z_iret X H.1 H.2.1 H.2.2.1 dd_Tokens_wordKind_71
set_option maxRecDepth 100000 in
set_option maxHeartbeats 4000000 in
theorem c_Tokens_wordKind (l : Launch) {nf : Nat} {a0 : Nat} {a1 : Int32} {a2 : Int32} {c : Zc} {res : Int32 × Zc} (h : f_Tokens_wordKind nf a0 a1 a2 c = some res) : zM l yy_Tokens_wordKind ww_Tokens_wordKind 5 109 0 0 [.ref a0, .int a1, .int a2] c (fun D cid B => zQi D cid B res.1 res.2 c.length 0) := by
  refine z_met (cc := bb_Tokens_wordKind) (maxL := 6) (ret := (some (.int))) (by decide +kernel) rfl (Nat.le_of_ble_eq_true rfl) ?_
  intro p e s m args below meth cd D cid B X h1 h2 h3 h4
  have X : zX p s m args cd D cid B bb_Tokens_wordKind 6 rr_Tokens zT := X
  have H : zH s meth B c.length (some (.int)) "wordKind" := ⟨h1, h2, h4, h3⟩
  unfold f_Tokens_wordKind at h
  show Zz p l e (zRm 5 109 0 0) s m args below meth cd _ D cid B 6 0 0 c 0 [(0, .ref a0), (1, .int a1), (2, .int a2)] []
  refine z_bipush (v := 10) X dd_Tokens_wordKind_0 (by decide) ?_
  refine z_istore_n (lv' := [(3, .int 10), (0, .ref a0), (1, .int a1), (2, .int a2)]) X dd_Tokens_wordKind_2 rfl (by decide) rfl ?_
  refine z_iconst (v := 0) X dd_Tokens_wordKind_3 (by decide) ?_
  refine z_istore (lv' := [(4, .int 0), (3, .int 10), (0, .ref a0), (1, .int a1), (2, .int a2)]) X dd_Tokens_wordKind_4 (by decide) rfl ?_
  refine z_iconst (v := 0) X dd_Tokens_wordKind_6 (by decide) ?_
  refine z_istore (lv' := [(5, .int 0), (4, .int 0), (3, .int 10), (0, .ref a0), (1, .int a1), (2, .int a2)]) X dd_Tokens_wordKind_7 (by decide) rfl ?_
  refine z_sub [3, 4, 5, 2, 1, 0] rfl ?_
  exact t_Tokens_wordKind_9 X H h
theorem dd_Tokens_nameKind_0 : decode bb_Tokens_nameKind 0 = .ok (.aload_n 0, 1) := by decide +kernel
theorem dd_Tokens_nameKind_1 : decode bb_Tokens_nameKind 1 = .ok (.getfield 15, 3) := by decide +kernel
theorem dd_Tokens_nameKind_4 : decode bb_Tokens_nameKind 4 = .ok (.aload_n 0, 1) := by decide +kernel
theorem dd_Tokens_nameKind_5 : decode bb_Tokens_nameKind 5 = .ok (.getfield 21, 3) := by decide +kernel
theorem dd_Tokens_nameKind_8 : decode bb_Tokens_nameKind 8 = .ok (.iconst 0, 1) := by decide +kernel
theorem dd_Tokens_nameKind_9 : decode bb_Tokens_nameKind 9 = .ok (.iastore, 1) := by decide +kernel
theorem dd_Tokens_nameKind_10 : decode bb_Tokens_nameKind 10 = .ok (.aload_n 0, 1) := by decide +kernel
theorem dd_Tokens_nameKind_11 : decode bb_Tokens_nameKind 11 = .ok (.getfield 25, 3) := by decide +kernel
theorem dd_Tokens_nameKind_14 : decode bb_Tokens_nameKind 14 = .ok (.iload_n 1, 1) := by decide +kernel
theorem dd_Tokens_nameKind_15 : decode bb_Tokens_nameKind 15 = .ok (.baload, 1) := by decide +kernel
theorem dd_Tokens_nameKind_16 : decode bb_Tokens_nameKind 16 = .ok (.invokestatic 49, 3) := by decide +kernel
theorem dd_Tokens_nameKind_19 : decode bb_Tokens_nameKind 19 = .ok (.ifCond .eq 10, 3) := by decide +kernel
theorem dd_Tokens_nameKind_22 : decode bb_Tokens_nameKind 22 = .ok (.aload_n 0, 1) := by decide +kernel
theorem dd_Tokens_nameKind_23 : decode bb_Tokens_nameKind 23 = .ok (.iload_n 1, 1) := by decide +kernel
theorem dd_Tokens_nameKind_24 : decode bb_Tokens_nameKind 24 = .ok (.iload_n 2, 1) := by decide +kernel
theorem dd_Tokens_nameKind_25 : decode bb_Tokens_nameKind 25 = .ok (.invokevirtual 65, 3) := by decide +kernel
theorem dd_Tokens_nameKind_28 : decode bb_Tokens_nameKind 28 = .ok (.ireturn, 1) := by decide +kernel
theorem dd_Tokens_nameKind_29 : decode bb_Tokens_nameKind 29 = .ok (.iload_n 2, 1) := by decide +kernel
theorem dd_Tokens_nameKind_30 : decode bb_Tokens_nameKind 30 = .ok (.iload_n 1, 1) := by decide +kernel
theorem dd_Tokens_nameKind_31 : decode bb_Tokens_nameKind 31 = .ok (.isub, 1) := by decide +kernel
theorem dd_Tokens_nameKind_32 : decode bb_Tokens_nameKind 32 = .ok (.iconst 1, 1) := by decide +kernel
theorem dd_Tokens_nameKind_33 : decode bb_Tokens_nameKind 33 = .ok (.if_icmp .ne 15, 3) := by decide +kernel
theorem dd_Tokens_nameKind_36 : decode bb_Tokens_nameKind 36 = .ok (.aload_n 0, 1) := by decide +kernel
theorem dd_Tokens_nameKind_37 : decode bb_Tokens_nameKind 37 = .ok (.aload_n 0, 1) := by decide +kernel
theorem dd_Tokens_nameKind_38 : decode bb_Tokens_nameKind 38 = .ok (.getfield 25, 3) := by decide +kernel
theorem dd_Tokens_nameKind_41 : decode bb_Tokens_nameKind 41 = .ok (.iload_n 1, 1) := by decide +kernel
theorem dd_Tokens_nameKind_42 : decode bb_Tokens_nameKind 42 = .ok (.baload, 1) := by decide +kernel
theorem dd_Tokens_nameKind_43 : decode bb_Tokens_nameKind 43 = .ok (.i2c, 1) := by decide +kernel
theorem dd_Tokens_nameKind_44 : decode bb_Tokens_nameKind 44 = .ok (.invokevirtual 68, 3) := by decide +kernel
theorem dd_Tokens_nameKind_47 : decode bb_Tokens_nameKind 47 = .ok (.ireturn, 1) := by decide +kernel
theorem dd_Tokens_nameKind_48 : decode bb_Tokens_nameKind 48 = .ok (.iload_n 2, 1) := by decide +kernel
theorem dd_Tokens_nameKind_49 : decode bb_Tokens_nameKind 49 = .ok (.iload_n 1, 1) := by decide +kernel
theorem dd_Tokens_nameKind_50 : decode bb_Tokens_nameKind 50 = .ok (.isub, 1) := by decide +kernel
theorem dd_Tokens_nameKind_51 : decode bb_Tokens_nameKind 51 = .ok (.iconst 2, 1) := by decide +kernel
theorem dd_Tokens_nameKind_52 : decode bb_Tokens_nameKind 52 = .ok (.if_icmp .ne 40, 3) := by decide +kernel
theorem dd_Tokens_nameKind_55 : decode bb_Tokens_nameKind 55 = .ok (.aload_n 0, 1) := by decide +kernel
theorem dd_Tokens_nameKind_56 : decode bb_Tokens_nameKind 56 = .ok (.getfield 25, 3) := by decide +kernel
theorem dd_Tokens_nameKind_59 : decode bb_Tokens_nameKind 59 = .ok (.iload_n 1, 1) := by decide +kernel
theorem dd_Tokens_nameKind_60 : decode bb_Tokens_nameKind 60 = .ok (.iconst 1, 1) := by decide +kernel
theorem dd_Tokens_nameKind_61 : decode bb_Tokens_nameKind 61 = .ok (.iadd, 1) := by decide +kernel
theorem dd_Tokens_nameKind_62 : decode bb_Tokens_nameKind 62 = .ok (.baload, 1) := by decide +kernel
theorem dd_Tokens_nameKind_63 : decode bb_Tokens_nameKind 63 = .ok (.invokestatic 49, 3) := by decide +kernel
theorem dd_Tokens_nameKind_66 : decode bb_Tokens_nameKind 66 = .ok (.ifCond .eq 26, 3) := by decide +kernel
theorem dd_Tokens_nameKind_69 : decode bb_Tokens_nameKind 69 = .ok (.aload_n 0, 1) := by decide +kernel
theorem dd_Tokens_nameKind_70 : decode bb_Tokens_nameKind 70 = .ok (.aload_n 0, 1) := by decide +kernel
theorem dd_Tokens_nameKind_71 : decode bb_Tokens_nameKind 71 = .ok (.getfield 25, 3) := by decide +kernel
theorem dd_Tokens_nameKind_74 : decode bb_Tokens_nameKind 74 = .ok (.iload_n 1, 1) := by decide +kernel
theorem dd_Tokens_nameKind_75 : decode bb_Tokens_nameKind 75 = .ok (.baload, 1) := by decide +kernel
theorem dd_Tokens_nameKind_76 : decode bb_Tokens_nameKind 76 = .ok (.i2c, 1) := by decide +kernel
theorem dd_Tokens_nameKind_77 : decode bb_Tokens_nameKind 77 = .ok (.aload_n 0, 1) := by decide +kernel
theorem dd_Tokens_nameKind_78 : decode bb_Tokens_nameKind 78 = .ok (.getfield 25, 3) := by decide +kernel
theorem dd_Tokens_nameKind_81 : decode bb_Tokens_nameKind 81 = .ok (.iload_n 1, 1) := by decide +kernel
theorem dd_Tokens_nameKind_82 : decode bb_Tokens_nameKind 82 = .ok (.iconst 1, 1) := by decide +kernel
theorem dd_Tokens_nameKind_83 : decode bb_Tokens_nameKind 83 = .ok (.iadd, 1) := by decide +kernel
theorem dd_Tokens_nameKind_84 : decode bb_Tokens_nameKind 84 = .ok (.baload, 1) := by decide +kernel
theorem dd_Tokens_nameKind_85 : decode bb_Tokens_nameKind 85 = .ok (.bipush 48, 2) := by decide +kernel
theorem dd_Tokens_nameKind_87 : decode bb_Tokens_nameKind 87 = .ok (.isub, 1) := by decide +kernel
theorem dd_Tokens_nameKind_88 : decode bb_Tokens_nameKind 88 = .ok (.invokevirtual 72, 3) := by decide +kernel
theorem dd_Tokens_nameKind_91 : decode bb_Tokens_nameKind 91 = .ok (.ireturn, 1) := by decide +kernel
theorem dd_Tokens_nameKind_92 : decode bb_Tokens_nameKind 92 = .ok (.aload_n 0, 1) := by decide +kernel
theorem dd_Tokens_nameKind_93 : decode bb_Tokens_nameKind 93 = .ok (.iload_n 1, 1) := by decide +kernel
theorem dd_Tokens_nameKind_94 : decode bb_Tokens_nameKind 94 = .ok (.iload_n 2, 1) := by decide +kernel
theorem dd_Tokens_nameKind_95 : decode bb_Tokens_nameKind 95 = .ok (.invokevirtual 76, 3) := by decide +kernel
theorem dd_Tokens_nameKind_98 : decode bb_Tokens_nameKind 98 = .ok (.ireturn, 1) := by decide +kernel
def f_Tokens_nameKind_92 (nf : Nat) (x0 : Nat) (x1 : Int32) (x2 : Int32) (c : Zc) : Option (Int32 × Zc) :=
  (zob c x0 3).bind fun w11 => (f_Tokens_wordKind nf x0 x1 x2 c).bind fun q10 => some (q10.1, q10.2)
def f_Tokens_nameKind (nf : Nat) (a0 : Nat) (a1 : Int32) (a2 : Int32) (c : Zc) : Option (Int32 × Zc) :=
  (zgr c a0 3 1).bind fun v1 => (zgi c a0 3 3).bind fun v2 => (zsi c v1 0 v2 0).bind fun c3 => (zgr c3 a0 3 4).bind fun v4 => (zai c3 v4 1 a1).bind fun v5 => (f_Tokens_isDigit nf v5 c3).bind fun q6 => if q6.1 = 0 then (if (a2 - a1) = 1 then ((zgr q6.2 a0 3 4).bind fun v22 => (zai q6.2 v22 1 a1).bind fun v23 => (zob q6.2 a0 3).bind fun w25 => (f_Tokens_letterKind nf a0 (UInt32.toInt32 (Int32.toUInt32 v23 % 65536)) q6.2).bind fun q24 => some (q24.1, q24.2)) else (if (a2 - a1) = 2 then ((zgr q6.2 a0 3 4).bind fun v12 => (zai q6.2 v12 1 (a1 + 1)).bind fun v13 => (f_Tokens_isDigit nf v13 q6.2).bind fun q14 => if q14.1 = 0 then (f_Tokens_nameKind_92 nf a0 a1 a2 q14.2) else ((zgr q14.2 a0 3 4).bind fun v16 => (zai q14.2 v16 1 a1).bind fun v17 => (zgr q14.2 a0 3 4).bind fun v18 => (zai q14.2 v18 1 (a1 + 1)).bind fun v19 => (zob q14.2 a0 3).bind fun w21 => (f_Tokens_numberedKind nf a0 (UInt32.toInt32 (Int32.toUInt32 v17 % 65536)) (v19 - 48) q14.2).bind fun q20 => some (q20.1, q20.2))) else (f_Tokens_nameKind_92 nf a0 a1 a2 q6.2))) else ((zob q6.2 a0 3).bind fun w27 => (f_Tokens_numberKind nf a0 a1 a2 q6.2).bind fun q26 => some (q26.1, q26.2))
set_option maxRecDepth 100000 in
set_option maxHeartbeats 4000000 in
theorem t_Tokens_nameKind_92  (X : zX p s m args cd D cid B bb_Tokens_nameKind 3 rr_Tokens zT) (H : zH s meth B n0 (some (.int)) "nameKind") {nf : Nat} {x0 : Nat} {x1 : Int32} {x2 : Int32} {c : Zc} {res : Int32 × Zc} (h : f_Tokens_nameKind_92 nf x0 x1 x2 c = some res) : Zz p l e (zRm 6 134 0 0) s m args below meth cd (MQ below (zQi D cid B res.1 res.2 n0 0) args s 0 0 (fun q => B ≤ q)) D cid B 3 0 0 c 92 [(0, .ref x0), (1, .int x1), (2, .int x2)] [] := by
  unfold f_Tokens_nameKind_92 at h
  refine z_aload_n X dd_Tokens_nameKind_92 rfl 0 rfl ?_
  refine z_iload_n X dd_Tokens_nameKind_93 rfl 1 rfl ?_
  refine z_iload_n X dd_Tokens_nameKind_94 rfl 2 rfl ?_
  obtain ⟨w11, ew11, h⟩ := zb h
  obtain ⟨q10, eq10, h⟩ := zb h
  refine z_callVi X [.int x1, .int x2] rfl dd_Tokens_nameKind_95 (c_Tokens_wordKind l eq10) (cwV 2 X.1.2.2.2.2 (zg_V km_959 km_961 km_7 km_131 km_962) rfl rfl rfl (by decide +kernel) ⟨Nat.le_of_ble_eq_true rfl, Nat.le_of_ble_eq_true rfl⟩) (zob_s ew11) kc_3 rfl (Nat.le_of_ble_eq_true rfl) ⟨Nat.le_of_ble_eq_true rfl, Nat.le_of_ble_eq_true rfl⟩ ?_
  obtain rfl := Option.some.inj h
  exact z_iret X H.1 H.2.1 H.2.2.1 dd_Tokens_nameKind_98
set_option maxRecDepth 100000 in
set_option maxHeartbeats 4000000 in
theorem c_Tokens_nameKind (l : Launch) {nf : Nat} {a0 : Nat} {a1 : Int32} {a2 : Int32} {c : Zc} {res : Int32 × Zc} (h : f_Tokens_nameKind nf a0 a1 a2 c = some res) : zM l yy_Tokens_nameKind ww_Tokens_nameKind 6 134 0 0 [.ref a0, .int a1, .int a2] c (fun D cid B => zQi D cid B res.1 res.2 c.length 0) := by
  refine z_met (cc := bb_Tokens_nameKind) (maxL := 3) (ret := (some (.int))) (by decide +kernel) rfl (Nat.le_of_ble_eq_true rfl) ?_
  intro p e s m args below meth cd D cid B X h1 h2 h3 h4
  have X : zX p s m args cd D cid B bb_Tokens_nameKind 3 rr_Tokens zT := X
  have H : zH s meth B c.length (some (.int)) "nameKind" := ⟨h1, h2, h4, h3⟩
  unfold f_Tokens_nameKind at h
  show Zz p l e (zRm 6 134 0 0) s m args below meth cd _ D cid B 3 0 0 c 0 [(0, .ref a0), (1, .int a1), (2, .int a2)] []
  refine z_aload_n X dd_Tokens_nameKind_0 rfl 0 rfl ?_
  obtain ⟨v1, ev1, h⟩ := zb h
  refine z_get (j := 1) X dd_Tokens_nameKind_1 kc_3 ki_3 (by decide) km_418 (zgr_v ev1) ?_
  refine z_aload_n X dd_Tokens_nameKind_4 rfl 0 rfl ?_
  obtain ⟨v2, ev2, h⟩ := zb h
  refine z_get (j := 3) X dd_Tokens_nameKind_5 kc_3 ki_3 (by decide) km_422 (zgi_v ev2) ?_
  refine z_iconst (v := 0) X dd_Tokens_nameKind_8 (by decide) ?_
  obtain ⟨c3, ec3, h⟩ := zb h
  refine z_iastore X dd_Tokens_nameKind_9 rfl ec3 ?_
  refine z_aload_n X dd_Tokens_nameKind_10 rfl 0 rfl ?_
  obtain ⟨v4, ev4, h⟩ := zb h
  refine z_get (j := 4) X dd_Tokens_nameKind_11 kc_3 ki_3 (by decide) km_424 (zgr_v ev4) ?_
  refine z_iload_n X dd_Tokens_nameKind_14 rfl 1 rfl ?_
  obtain ⟨v5, ev5, h⟩ := zb h
  refine z_baload X dd_Tokens_nameKind_15 rfl ev5 ?_
  obtain ⟨q6, eq6, h⟩ := zb h
  refine z_callSi X [.int v5] rfl dd_Tokens_nameKind_16 (c_Tokens_isDigit l eq6) (va_cwS 1 X.1.2.2.2.2 (zg_S km_854 km_855 km_131 km_856) rfl rfl rfl (by decide +kernel) ⟨Nat.le_of_ble_eq_true rfl, Nat.le_of_ble_eq_true rfl⟩) rfl (Nat.le_of_ble_eq_true rfl) ⟨Nat.le_of_ble_eq_true rfl, Nat.le_of_ble_eq_true rfl⟩ ?_
  refine z_if_eq (tgt := 29) X dd_Tokens_nameKind_19 (by decide) (fun q7 => ?_) (fun q7 => ?_)
  · rw [if_pos q7] at h
    refine z_iload_n X dd_Tokens_nameKind_29 rfl 2 rfl ?_
    refine z_iload_n X dd_Tokens_nameKind_30 rfl 1 rfl ?_
    refine z_isub X dd_Tokens_nameKind_31 ?_
    refine z_iconst (v := 1) X dd_Tokens_nameKind_32 (by decide) ?_
    refine z_icmp_ne (tgt := 48) X dd_Tokens_nameKind_33 (by decide) (fun q8 => ?_) (fun q8 => ?_)
    · rw [if_neg q8] at h
      refine z_iload_n X dd_Tokens_nameKind_48 rfl 2 rfl ?_
      refine z_iload_n X dd_Tokens_nameKind_49 rfl 1 rfl ?_
      refine z_isub X dd_Tokens_nameKind_50 ?_
      refine z_iconst (v := 2) X dd_Tokens_nameKind_51 (by decide) ?_
      refine z_icmp_ne (tgt := 92) X dd_Tokens_nameKind_52 (by decide) (fun q9 => ?_) (fun q9 => ?_)
      · rw [if_neg q9] at h
        exact t_Tokens_nameKind_92 X H h
      · rw [if_pos q9] at h
        refine z_aload_n X dd_Tokens_nameKind_55 rfl 0 rfl ?_
        obtain ⟨v12, ev12, h⟩ := zb h
        refine z_get (j := 4) X dd_Tokens_nameKind_56 kc_3 ki_3 (by decide) km_424 (zgr_v ev12) ?_
        refine z_iload_n X dd_Tokens_nameKind_59 rfl 1 rfl ?_
        refine z_iconst (v := 1) X dd_Tokens_nameKind_60 (by decide) ?_
        refine z_iadd X dd_Tokens_nameKind_61 ?_
        obtain ⟨v13, ev13, h⟩ := zb h
        refine z_baload X dd_Tokens_nameKind_62 rfl ev13 ?_
        obtain ⟨q14, eq14, h⟩ := zb h
        refine z_callSi X [.int v13] rfl dd_Tokens_nameKind_63 (c_Tokens_isDigit l eq14) (va_cwS 1 X.1.2.2.2.2 (zg_S km_854 km_855 km_131 km_856) rfl rfl rfl (by decide +kernel) ⟨Nat.le_of_ble_eq_true rfl, Nat.le_of_ble_eq_true rfl⟩) rfl (Nat.le_of_ble_eq_true rfl) ⟨Nat.le_of_ble_eq_true rfl, Nat.le_of_ble_eq_true rfl⟩ ?_
        refine z_if_eq (tgt := 92) X dd_Tokens_nameKind_66 (by decide) (fun q15 => ?_) (fun q15 => ?_)
        · rw [if_pos q15] at h
          exact t_Tokens_nameKind_92 X H h
        · rw [if_neg q15] at h
          refine z_aload_n X dd_Tokens_nameKind_69 rfl 0 rfl ?_
          refine z_aload_n X dd_Tokens_nameKind_70 rfl 0 rfl ?_
          obtain ⟨v16, ev16, h⟩ := zb h
          refine z_get (j := 4) X dd_Tokens_nameKind_71 kc_3 ki_3 (by decide) km_424 (zgr_v ev16) ?_
          refine z_iload_n X dd_Tokens_nameKind_74 rfl 1 rfl ?_
          obtain ⟨v17, ev17, h⟩ := zb h
          refine z_baload X dd_Tokens_nameKind_75 rfl ev17 ?_
          refine z_i2c X dd_Tokens_nameKind_76 ?_
          refine z_aload_n X dd_Tokens_nameKind_77 rfl 0 rfl ?_
          obtain ⟨v18, ev18, h⟩ := zb h
          refine z_get (j := 4) X dd_Tokens_nameKind_78 kc_3 ki_3 (by decide) km_424 (zgr_v ev18) ?_
          refine z_iload_n X dd_Tokens_nameKind_81 rfl 1 rfl ?_
          refine z_iconst (v := 1) X dd_Tokens_nameKind_82 (by decide) ?_
          refine z_iadd X dd_Tokens_nameKind_83 ?_
          obtain ⟨v19, ev19, h⟩ := zb h
          refine z_baload X dd_Tokens_nameKind_84 rfl ev19 ?_
          refine z_bipush (v := 48) X dd_Tokens_nameKind_85 (by decide) ?_
          refine z_isub X dd_Tokens_nameKind_87 ?_
          obtain ⟨w21, ew21, h⟩ := zb h
          obtain ⟨q20, eq20, h⟩ := zb h
          refine z_callVi X [.int (UInt32.toInt32 (Int32.toUInt32 v17 % 65536)), .int (v19 - 48)] rfl dd_Tokens_nameKind_88 (c_Tokens_numberedKind l eq20) (cwV 2 X.1.2.2.2.2 (zg_V km_955 km_957 km_6 km_131 km_958) rfl rfl rfl (by decide +kernel) ⟨Nat.le_of_ble_eq_true rfl, Nat.le_of_ble_eq_true rfl⟩) (zob_s ew21) kc_3 rfl (Nat.le_of_ble_eq_true rfl) ⟨Nat.le_of_ble_eq_true rfl, Nat.le_of_ble_eq_true rfl⟩ ?_
          obtain rfl := Option.some.inj h
          exact z_iret X H.1 H.2.1 H.2.2.1 dd_Tokens_nameKind_91
    · rw [if_pos q8] at h
      refine z_aload_n X dd_Tokens_nameKind_36 rfl 0 rfl ?_
      refine z_aload_n X dd_Tokens_nameKind_37 rfl 0 rfl ?_
      obtain ⟨v22, ev22, h⟩ := zb h
      refine z_get (j := 4) X dd_Tokens_nameKind_38 kc_3 ki_3 (by decide) km_424 (zgr_v ev22) ?_
      refine z_iload_n X dd_Tokens_nameKind_41 rfl 1 rfl ?_
      obtain ⟨v23, ev23, h⟩ := zb h
      refine z_baload X dd_Tokens_nameKind_42 rfl ev23 ?_
      refine z_i2c X dd_Tokens_nameKind_43 ?_
      obtain ⟨w25, ew25, h⟩ := zb h
      obtain ⟨q24, eq24, h⟩ := zb h
      refine z_callVi X [.int (UInt32.toInt32 (Int32.toUInt32 v23 % 65536))] rfl dd_Tokens_nameKind_44 (c_Tokens_letterKind l eq24) (cwV 1 X.1.2.2.2.2 (zg_V km_865 km_867 km_5 km_131 km_868) rfl rfl rfl (by decide +kernel) ⟨Nat.le_of_ble_eq_true rfl, Nat.le_of_ble_eq_true rfl⟩) (zob_s ew25) kc_3 rfl (Nat.le_of_ble_eq_true rfl) ⟨Nat.le_of_ble_eq_true rfl, Nat.le_of_ble_eq_true rfl⟩ ?_
      obtain rfl := Option.some.inj h
      exact z_iret X H.1 H.2.1 H.2.2.1 dd_Tokens_nameKind_47
  · rw [if_neg q7] at h
    refine z_aload_n X dd_Tokens_nameKind_22 rfl 0 rfl ?_
    refine z_iload_n X dd_Tokens_nameKind_23 rfl 1 rfl ?_
    refine z_iload_n X dd_Tokens_nameKind_24 rfl 2 rfl ?_
    obtain ⟨w27, ew27, h⟩ := zb h
    obtain ⟨q26, eq26, h⟩ := zb h
    refine z_callVi X [.int a1, .int a2] rfl dd_Tokens_nameKind_25 (c_Tokens_numberKind l eq26) (cwV 2 X.1.2.2.2.2 (zg_V km_861 km_863 km_4 km_131 km_864) rfl rfl rfl (by decide +kernel) ⟨Nat.le_of_ble_eq_true rfl, Nat.le_of_ble_eq_true rfl⟩) (zob_s ew27) kc_3 rfl (Nat.le_of_ble_eq_true rfl) ⟨Nat.le_of_ble_eq_true rfl, Nat.le_of_ble_eq_true rfl⟩ ?_
    obtain rfl := Option.some.inj h
    exact z_iret X H.1 H.2.1 H.2.2.1 dd_Tokens_nameKind_28
theorem dd_Tokens_signKind_0 : decode bb_Tokens_signKind 0 = .ok (.aload_n 0, 1) := by decide +kernel
theorem dd_Tokens_signKind_1 : decode bb_Tokens_signKind 1 = .ok (.getfield 25, 3) := by decide +kernel
theorem dd_Tokens_signKind_4 : decode bb_Tokens_signKind 4 = .ok (.iload_n 1, 1) := by decide +kernel
theorem dd_Tokens_signKind_5 : decode bb_Tokens_signKind 5 = .ok (.baload, 1) := by decide +kernel
theorem dd_Tokens_signKind_6 : decode bb_Tokens_signKind 6 = .ok (.istore_n 2, 1) := by decide +kernel
theorem dd_Tokens_signKind_7 : decode bb_Tokens_signKind 7 = .ok (.iload_n 1, 1) := by decide +kernel
theorem dd_Tokens_signKind_8 : decode bb_Tokens_signKind 8 = .ok (.iconst 1, 1) := by decide +kernel
theorem dd_Tokens_signKind_9 : decode bb_Tokens_signKind 9 = .ok (.iadd, 1) := by decide +kernel
theorem dd_Tokens_signKind_10 : decode bb_Tokens_signKind 10 = .ok (.aload_n 0, 1) := by decide +kernel
theorem dd_Tokens_signKind_11 : decode bb_Tokens_signKind 11 = .ok (.getfield 29, 3) := by decide +kernel
theorem dd_Tokens_signKind_14 : decode bb_Tokens_signKind 14 = .ok (.if_icmp .ge 14, 3) := by decide +kernel
theorem dd_Tokens_signKind_17 : decode bb_Tokens_signKind 17 = .ok (.aload_n 0, 1) := by decide +kernel
theorem dd_Tokens_signKind_18 : decode bb_Tokens_signKind 18 = .ok (.getfield 25, 3) := by decide +kernel
theorem dd_Tokens_signKind_21 : decode bb_Tokens_signKind 21 = .ok (.iload_n 1, 1) := by decide +kernel
theorem dd_Tokens_signKind_22 : decode bb_Tokens_signKind 22 = .ok (.iconst 1, 1) := by decide +kernel
theorem dd_Tokens_signKind_23 : decode bb_Tokens_signKind 23 = .ok (.iadd, 1) := by decide +kernel
theorem dd_Tokens_signKind_24 : decode bb_Tokens_signKind 24 = .ok (.baload, 1) := by decide +kernel
theorem dd_Tokens_signKind_25 : decode bb_Tokens_signKind 25 = .ok (.goto 4, 3) := by decide +kernel
theorem dd_Tokens_signKind_28 : decode bb_Tokens_signKind 28 = .ok (.iconst 0, 1) := by decide +kernel
theorem dd_Tokens_signKind_29 : decode bb_Tokens_signKind 29 = .ok (.istore_n 3, 1) := by decide +kernel
theorem dd_Tokens_signKind_30 : decode bb_Tokens_signKind 30 = .ok (.aload_n 0, 1) := by decide +kernel
theorem dd_Tokens_signKind_31 : decode bb_Tokens_signKind 31 = .ok (.getfield 15, 3) := by decide +kernel
theorem dd_Tokens_signKind_34 : decode bb_Tokens_signKind 34 = .ok (.aload_n 0, 1) := by decide +kernel
theorem dd_Tokens_signKind_35 : decode bb_Tokens_signKind 35 = .ok (.getfield 21, 3) := by decide +kernel
theorem dd_Tokens_signKind_38 : decode bb_Tokens_signKind 38 = .ok (.iconst 0, 1) := by decide +kernel
theorem dd_Tokens_signKind_39 : decode bb_Tokens_signKind 39 = .ok (.iastore, 1) := by decide +kernel
theorem dd_Tokens_signKind_40 : decode bb_Tokens_signKind 40 = .ok (.iload_n 2, 1) := by decide +kernel
theorem dd_Tokens_signKind_41 : decode bb_Tokens_signKind 41 = .ok (.bipush 45, 2) := by decide +kernel
theorem dd_Tokens_signKind_43 : decode bb_Tokens_signKind 43 = .ok (.if_icmp .ne 13, 3) := by decide +kernel
theorem dd_Tokens_signKind_46 : decode bb_Tokens_signKind 46 = .ok (.iload_n 3, 1) := by decide +kernel
theorem dd_Tokens_signKind_47 : decode bb_Tokens_signKind 47 = .ok (.bipush 62, 2) := by decide +kernel
theorem dd_Tokens_signKind_49 : decode bb_Tokens_signKind 49 = .ok (.if_icmp .ne 7, 3) := by decide +kernel
theorem dd_Tokens_signKind_52 : decode bb_Tokens_signKind 52 = .ok (.sipush 256, 3) := by decide +kernel
theorem dd_Tokens_signKind_55 : decode bb_Tokens_signKind 55 = .ok (.ireturn, 1) := by decide +kernel
theorem dd_Tokens_signKind_56 : decode bb_Tokens_signKind 56 = .ok (.iload_n 2, 1) := by decide +kernel
theorem dd_Tokens_signKind_57 : decode bb_Tokens_signKind 57 = .ok (.bipush 60, 2) := by decide +kernel
theorem dd_Tokens_signKind_59 : decode bb_Tokens_signKind 59 = .ok (.if_icmp .ne 13, 3) := by decide +kernel
theorem dd_Tokens_signKind_62 : decode bb_Tokens_signKind 62 = .ok (.iload_n 3, 1) := by decide +kernel
theorem dd_Tokens_signKind_63 : decode bb_Tokens_signKind 63 = .ok (.bipush 45, 2) := by decide +kernel
theorem dd_Tokens_signKind_65 : decode bb_Tokens_signKind 65 = .ok (.if_icmp .ne 7, 3) := by decide +kernel
theorem dd_Tokens_signKind_68 : decode bb_Tokens_signKind 68 = .ok (.sipush 257, 3) := by decide +kernel
theorem dd_Tokens_signKind_71 : decode bb_Tokens_signKind 71 = .ok (.ireturn, 1) := by decide +kernel
theorem dd_Tokens_signKind_72 : decode bb_Tokens_signKind 72 = .ok (.iload_n 3, 1) := by decide +kernel
theorem dd_Tokens_signKind_73 : decode bb_Tokens_signKind 73 = .ok (.bipush 61, 2) := by decide +kernel
theorem dd_Tokens_signKind_75 : decode bb_Tokens_signKind 75 = .ok (.if_icmp .ne 49, 3) := by decide +kernel
theorem dd_Tokens_signKind_78 : decode bb_Tokens_signKind 78 = .ok (.iload_n 2, 1) := by decide +kernel
theorem dd_Tokens_signKind_79 : decode bb_Tokens_signKind 79 = .ok (.bipush 33, 2) := by decide +kernel
theorem dd_Tokens_signKind_81 : decode bb_Tokens_signKind 81 = .ok (.if_icmp .eq 15, 3) := by decide +kernel
theorem dd_Tokens_signKind_84 : decode bb_Tokens_signKind 84 = .ok (.iload_n 2, 1) := by decide +kernel
theorem dd_Tokens_signKind_85 : decode bb_Tokens_signKind 85 = .ok (.bipush 60, 2) := by decide +kernel
theorem dd_Tokens_signKind_87 : decode bb_Tokens_signKind 87 = .ok (.if_icmp .eq 9, 3) := by decide +kernel
theorem dd_Tokens_signKind_90 : decode bb_Tokens_signKind 90 = .ok (.iload_n 2, 1) := by decide +kernel
theorem dd_Tokens_signKind_91 : decode bb_Tokens_signKind 91 = .ok (.bipush 62, 2) := by decide +kernel
theorem dd_Tokens_signKind_93 : decode bb_Tokens_signKind 93 = .ok (.if_icmp .ne 31, 3) := by decide +kernel
theorem dd_Tokens_signKind_96 : decode bb_Tokens_signKind 96 = .ok (.iload_n 2, 1) := by decide +kernel
theorem dd_Tokens_signKind_97 : decode bb_Tokens_signKind 97 = .ok (.bipush 33, 2) := by decide +kernel
theorem dd_Tokens_signKind_99 : decode bb_Tokens_signKind 99 = .ok (.if_icmp .ne 9, 3) := by decide +kernel
theorem dd_Tokens_signKind_102 : decode bb_Tokens_signKind 102 = .ok (.sipush 258, 3) := by decide +kernel
theorem dd_Tokens_signKind_105 : decode bb_Tokens_signKind 105 = .ok (.goto 18, 3) := by decide +kernel
theorem dd_Tokens_signKind_108 : decode bb_Tokens_signKind 108 = .ok (.iload_n 2, 1) := by decide +kernel
theorem dd_Tokens_signKind_109 : decode bb_Tokens_signKind 109 = .ok (.bipush 60, 2) := by decide +kernel
theorem dd_Tokens_signKind_111 : decode bb_Tokens_signKind 111 = .ok (.if_icmp .ne 9, 3) := by decide +kernel
theorem dd_Tokens_signKind_114 : decode bb_Tokens_signKind 114 = .ok (.sipush 259, 3) := by decide +kernel
theorem dd_Tokens_signKind_117 : decode bb_Tokens_signKind 117 = .ok (.goto 6, 3) := by decide +kernel
theorem dd_Tokens_signKind_120 : decode bb_Tokens_signKind 120 = .ok (.sipush 260, 3) := by decide +kernel
theorem dd_Tokens_signKind_123 : decode bb_Tokens_signKind 123 = .ok (.ireturn, 1) := by decide +kernel
theorem dd_Tokens_signKind_124 : decode bb_Tokens_signKind 124 = .ok (.iload_n 2, 1) := by decide +kernel
theorem dd_Tokens_signKind_125 : decode bb_Tokens_signKind 125 = .ok (.ifCond .le 17, 3) := by decide +kernel
theorem dd_Tokens_signKind_128 : decode bb_Tokens_signKind 128 = .ok (.ldc 58, 2) := by decide +kernel
theorem dd_Tokens_signKind_130 : decode bb_Tokens_signKind 130 = .ok (.iload_n 2, 1) := by decide +kernel
theorem dd_Tokens_signKind_131 : decode bb_Tokens_signKind 131 = .ok (.i2c, 1) := by decide +kernel
theorem dd_Tokens_signKind_132 : decode bb_Tokens_signKind 132 = .ok (.invokevirtual 60, 3) := by decide +kernel
theorem dd_Tokens_signKind_135 : decode bb_Tokens_signKind 135 = .ok (.ifCond .lt 7, 3) := by decide +kernel
theorem dd_Tokens_signKind_138 : decode bb_Tokens_signKind 138 = .ok (.iload_n 2, 1) := by decide +kernel
theorem dd_Tokens_signKind_139 : decode bb_Tokens_signKind 139 = .ok (.goto 4, 3) := by decide +kernel
theorem dd_Tokens_signKind_142 : decode bb_Tokens_signKind 142 = .ok (.iconst 0, 1) := by decide +kernel
theorem dd_Tokens_signKind_143 : decode bb_Tokens_signKind 143 = .ok (.ireturn, 1) := by decide +kernel
def f_Tokens_signKind_143 (nf : Nat) (s0 : Int32) (c : Zc) : Option (Int32 × Zc) :=
  some (s0, c)
def f_Tokens_signKind_142 (nf : Nat)  (c : Zc) : Option (Int32 × Zc) :=
  f_Tokens_signKind_143 nf 0 c
def f_Tokens_signKind_124 (nf : Nat) (x2 : Int32) (c : Zc) : Option (Int32 × Zc) :=
  if x2 ≤ 0 then (f_Tokens_signKind_142 nf  c) else ((zst 3).bind fun w13 => (f_String_indexOf_0 nf 3 (UInt32.toInt32 (Int32.toUInt32 x2 % 65536)) c).bind fun q12 => if q12.1 < 0 then (f_Tokens_signKind_142 nf  q12.2) else (f_Tokens_signKind_143 nf x2 q12.2))
def f_Tokens_signKind_123 (nf : Nat) (s0 : Int32) (c : Zc) : Option (Int32 × Zc) :=
  some (s0, c)
def f_Tokens_signKind_96 (nf : Nat) (x2 : Int32) (c : Zc) : Option (Int32 × Zc) :=
  if x2 = 33 then (f_Tokens_signKind_123 nf 258 c) else (if x2 = 60 then (f_Tokens_signKind_123 nf 259 c) else (f_Tokens_signKind_123 nf 260 c))
def f_Tokens_signKind_72 (nf : Nat) (x2 : Int32) (x3 : Int32) (c : Zc) : Option (Int32 × Zc) :=
  if x3 = 61 then (if x2 = 33 then (f_Tokens_signKind_96 nf x2 c) else (if x2 = 60 then (f_Tokens_signKind_96 nf x2 c) else (if x2 = 62 then (f_Tokens_signKind_96 nf x2 c) else (f_Tokens_signKind_124 nf x2 c)))) else (f_Tokens_signKind_124 nf x2 c)
def f_Tokens_signKind_56 (nf : Nat) (x2 : Int32) (x3 : Int32) (c : Zc) : Option (Int32 × Zc) :=
  if x2 = 60 then (if x3 = 45 then (some (257, c)) else (f_Tokens_signKind_72 nf x2 x3 c)) else (f_Tokens_signKind_72 nf x2 x3 c)
def f_Tokens_signKind_29 (nf : Nat) (x0 : Nat) (x2 : Int32) (s0 : Int32) (c : Zc) : Option (Int32 × Zc) :=
  (zgr c x0 3 1).bind fun v5 => (zgi c x0 3 3).bind fun v6 => (zsi c v5 0 v6 0).bind fun c7 => if x2 = 45 then (if s0 = 62 then (some (256, c7)) else (f_Tokens_signKind_56 nf x2 s0 c7)) else (f_Tokens_signKind_56 nf x2 s0 c7)
def f_Tokens_signKind (nf : Nat) (a0 : Nat) (a1 : Int32) (c : Zc) : Option (Int32 × Zc) :=
  (zgr c a0 3 4).bind fun v1 => (zai c v1 1 a1).bind fun v2 => (zgi c a0 3 5).bind fun v3 => if v3 ≤ (a1 + 1) then (f_Tokens_signKind_29 nf a0 v2 0 c) else ((zgr c a0 3 4).bind fun v22 => (zai c v22 1 (a1 + 1)).bind fun v23 => f_Tokens_signKind_29 nf a0 v2 v23 c)
set_option maxRecDepth 100000 in
set_option maxHeartbeats 4000000 in
theorem t_Tokens_signKind_143  (X : zX p s m args cd D cid B bb_Tokens_signKind 4 rr_Tokens zT) (H : zH s meth B n0 (some (.int)) "signKind") {nf : Nat} {s0 : Int32} {c : Zc} {res : Int32 × Zc} (h : f_Tokens_signKind_143 nf s0 c = some res) : Zz p l e (zRm 4 91 0 0) s m args below meth cd (MQ below (zQi D cid B res.1 res.2 n0 0) args s 0 0 (fun q => B ≤ q)) D cid B 4 0 0 c 143 [] [.int s0] := by
  unfold f_Tokens_signKind_143 at h
  obtain rfl := Option.some.inj h
  exact z_iret X H.1 H.2.1 H.2.2.1 dd_Tokens_signKind_143
set_option maxRecDepth 100000 in
set_option maxHeartbeats 4000000 in
theorem t_Tokens_signKind_142  (X : zX p s m args cd D cid B bb_Tokens_signKind 4 rr_Tokens zT) (H : zH s meth B n0 (some (.int)) "signKind") {nf : Nat}  {c : Zc} {res : Int32 × Zc} (h : f_Tokens_signKind_142 nf  c = some res) : Zz p l e (zRm 4 91 0 0) s m args below meth cd (MQ below (zQi D cid B res.1 res.2 n0 0) args s 0 0 (fun q => B ≤ q)) D cid B 4 0 0 c 142 [] [] := by
  unfold f_Tokens_signKind_142 at h
  refine z_iconst (v := 0) X dd_Tokens_signKind_142 (by decide) ?_
  exact t_Tokens_signKind_143 X H h
set_option maxRecDepth 100000 in
set_option maxHeartbeats 4000000 in
theorem t_Tokens_signKind_124  (X : zX p s m args cd D cid B bb_Tokens_signKind 4 rr_Tokens zT) (H : zH s meth B n0 (some (.int)) "signKind") {nf : Nat} {x2 : Int32} {c : Zc} {res : Int32 × Zc} (h : f_Tokens_signKind_124 nf x2 c = some res) : Zz p l e (zRm 4 91 0 0) s m args below meth cd (MQ below (zQi D cid B res.1 res.2 n0 0) args s 0 0 (fun q => B ≤ q)) D cid B 4 0 0 c 124 [(2, .int x2)] [] := by
  unfold f_Tokens_signKind_124 at h
  refine z_iload_n X dd_Tokens_signKind_124 rfl 0 rfl ?_
  refine z_if_le (tgt := 142) X dd_Tokens_signKind_125 (by decide) (fun q11 => ?_) (fun q11 => ?_)
  · rw [if_pos q11] at h
    refine z_sub [] rfl ?_
    exact t_Tokens_signKind_142 X H h
  · rw [if_neg q11] at h
    refine z_ldcS (i := 3) X dd_Tokens_signKind_128 (by decide) rfl rfl ?_
    refine z_iload_n X dd_Tokens_signKind_130 rfl 0 rfl ?_
    refine z_i2c X dd_Tokens_signKind_131 ?_
    obtain ⟨w13, ew13, h⟩ := zb h
    obtain ⟨q12, eq12, h⟩ := zb h
    refine z_callXi X [.int (UInt32.toInt32 (Int32.toUInt32 x2 % 65536))] rfl dd_Tokens_signKind_132 (c_String_indexOf_0 l eq12) (cwV 1 X.1.2.2.2.2 (zg_V km_870 km_871 km_872 km_140 km_873) rfl rfl rfl (by decide +kernel) ⟨Nat.le_of_ble_eq_true rfl, Nat.le_of_ble_eq_true rfl⟩) (zst_s ew13) rfl (Nat.le_of_ble_eq_true rfl) ⟨Nat.le_of_ble_eq_true rfl, Nat.le_of_ble_eq_true rfl⟩ ?_
    refine z_if_lt (tgt := 142) X dd_Tokens_signKind_135 (by decide) (fun q14 => ?_) (fun q14 => ?_)
    · rw [if_pos q14] at h
      refine z_sub [] rfl ?_
      exact t_Tokens_signKind_142 X H h
    · rw [if_neg q14] at h
      refine z_iload_n X dd_Tokens_signKind_138 rfl 0 rfl ?_
      refine z_goto (tgt := 143) X dd_Tokens_signKind_139 (by decide) ?_
      refine z_sub [] rfl ?_
      exact t_Tokens_signKind_143 X H h
set_option maxRecDepth 100000 in
set_option maxHeartbeats 4000000 in
theorem t_Tokens_signKind_123  (X : zX p s m args cd D cid B bb_Tokens_signKind 4 rr_Tokens zT) (H : zH s meth B n0 (some (.int)) "signKind") {nf : Nat} {s0 : Int32} {c : Zc} {res : Int32 × Zc} (h : f_Tokens_signKind_123 nf s0 c = some res) : Zz p l e (zRm 4 91 0 0) s m args below meth cd (MQ below (zQi D cid B res.1 res.2 n0 0) args s 0 0 (fun q => B ≤ q)) D cid B 4 0 0 c 123 [] [.int s0] := by
  unfold f_Tokens_signKind_123 at h
  obtain rfl := Option.some.inj h
  exact z_iret X H.1 H.2.1 H.2.2.1 dd_Tokens_signKind_123
set_option maxRecDepth 100000 in
set_option maxHeartbeats 4000000 in
theorem t_Tokens_signKind_96  (X : zX p s m args cd D cid B bb_Tokens_signKind 4 rr_Tokens zT) (H : zH s meth B n0 (some (.int)) "signKind") {nf : Nat} {x2 : Int32} {c : Zc} {res : Int32 × Zc} (h : f_Tokens_signKind_96 nf x2 c = some res) : Zz p l e (zRm 4 91 0 0) s m args below meth cd (MQ below (zQi D cid B res.1 res.2 n0 0) args s 0 0 (fun q => B ≤ q)) D cid B 4 0 0 c 96 [(2, .int x2)] [] := by
  unfold f_Tokens_signKind_96 at h
  refine z_iload_n X dd_Tokens_signKind_96 rfl 0 rfl ?_
  refine z_bipush (v := 33) X dd_Tokens_signKind_97 (by decide) ?_
  refine z_icmp_ne (tgt := 108) X dd_Tokens_signKind_99 (by decide) (fun q16 => ?_) (fun q16 => ?_)
  · rw [if_neg q16] at h
    refine z_iload_n X dd_Tokens_signKind_108 rfl 0 rfl ?_
    refine z_bipush (v := 60) X dd_Tokens_signKind_109 (by decide) ?_
    refine z_icmp_ne (tgt := 120) X dd_Tokens_signKind_111 (by decide) (fun q17 => ?_) (fun q17 => ?_)
    · rw [if_neg q17] at h
      refine z_sipush (v := 260) X dd_Tokens_signKind_120 (by decide) ?_
      refine z_sub [] rfl ?_
      exact t_Tokens_signKind_123 X H h
    · rw [if_pos q17] at h
      refine z_sipush (v := 259) X dd_Tokens_signKind_114 (by decide) ?_
      refine z_goto (tgt := 123) X dd_Tokens_signKind_117 (by decide) ?_
      refine z_sub [] rfl ?_
      exact t_Tokens_signKind_123 X H h
  · rw [if_pos q16] at h
    refine z_sipush (v := 258) X dd_Tokens_signKind_102 (by decide) ?_
    refine z_goto (tgt := 123) X dd_Tokens_signKind_105 (by decide) ?_
    refine z_sub [] rfl ?_
    exact t_Tokens_signKind_123 X H h
set_option maxRecDepth 100000 in
set_option maxHeartbeats 4000000 in
theorem t_Tokens_signKind_72  (X : zX p s m args cd D cid B bb_Tokens_signKind 4 rr_Tokens zT) (H : zH s meth B n0 (some (.int)) "signKind") {nf : Nat} {x2 : Int32} {x3 : Int32} {c : Zc} {res : Int32 × Zc} (h : f_Tokens_signKind_72 nf x2 x3 c = some res) : Zz p l e (zRm 4 91 0 0) s m args below meth cd (MQ below (zQi D cid B res.1 res.2 n0 0) args s 0 0 (fun q => B ≤ q)) D cid B 4 0 0 c 72 [(2, .int x2), (3, .int x3)] [] := by
  unfold f_Tokens_signKind_72 at h
  refine z_iload_n X dd_Tokens_signKind_72 rfl 1 rfl ?_
  refine z_bipush (v := 61) X dd_Tokens_signKind_73 (by decide) ?_
  refine z_icmp_ne (tgt := 124) X dd_Tokens_signKind_75 (by decide) (fun q10 => ?_) (fun q10 => ?_)
  · rw [if_neg q10] at h
    refine z_sub [0] rfl ?_
    exact t_Tokens_signKind_124 X H h
  · rw [if_pos q10] at h
    refine z_iload_n X dd_Tokens_signKind_78 rfl 0 rfl ?_
    refine z_bipush (v := 33) X dd_Tokens_signKind_79 (by decide) ?_
    refine z_icmp_eq (tgt := 96) X dd_Tokens_signKind_81 (by decide) (fun q15 => ?_) (fun q15 => ?_)
    · rw [if_pos q15] at h
      refine z_sub [0] rfl ?_
      exact t_Tokens_signKind_96 X H h
    · rw [if_neg q15] at h
      refine z_iload_n X dd_Tokens_signKind_84 rfl 0 rfl ?_
      refine z_bipush (v := 60) X dd_Tokens_signKind_85 (by decide) ?_
      refine z_icmp_eq (tgt := 96) X dd_Tokens_signKind_87 (by decide) (fun q18 => ?_) (fun q18 => ?_)
      · rw [if_pos q18] at h
        refine z_sub [0] rfl ?_
        exact t_Tokens_signKind_96 X H h
      · rw [if_neg q18] at h
        refine z_iload_n X dd_Tokens_signKind_90 rfl 0 rfl ?_
        refine z_bipush (v := 62) X dd_Tokens_signKind_91 (by decide) ?_
        refine z_icmp_ne (tgt := 124) X dd_Tokens_signKind_93 (by decide) (fun q19 => ?_) (fun q19 => ?_)
        · rw [if_neg q19] at h
          refine z_sub [0] rfl ?_
          exact t_Tokens_signKind_124 X H h
        · rw [if_pos q19] at h
          refine z_sub [0] rfl ?_
          exact t_Tokens_signKind_96 X H h
set_option maxRecDepth 100000 in
set_option maxHeartbeats 4000000 in
theorem t_Tokens_signKind_56  (X : zX p s m args cd D cid B bb_Tokens_signKind 4 rr_Tokens zT) (H : zH s meth B n0 (some (.int)) "signKind") {nf : Nat} {x2 : Int32} {x3 : Int32} {c : Zc} {res : Int32 × Zc} (h : f_Tokens_signKind_56 nf x2 x3 c = some res) : Zz p l e (zRm 4 91 0 0) s m args below meth cd (MQ below (zQi D cid B res.1 res.2 n0 0) args s 0 0 (fun q => B ≤ q)) D cid B 4 0 0 c 56 [(2, .int x2), (3, .int x3)] [] := by
  unfold f_Tokens_signKind_56 at h
  refine z_iload_n X dd_Tokens_signKind_56 rfl 0 rfl ?_
  refine z_bipush (v := 60) X dd_Tokens_signKind_57 (by decide) ?_
  refine z_icmp_ne (tgt := 72) X dd_Tokens_signKind_59 (by decide) (fun q9 => ?_) (fun q9 => ?_)
  · rw [if_neg q9] at h
    exact t_Tokens_signKind_72 X H h
  · rw [if_pos q9] at h
    refine z_iload_n X dd_Tokens_signKind_62 rfl 1 rfl ?_
    refine z_bipush (v := 45) X dd_Tokens_signKind_63 (by decide) ?_
    refine z_icmp_ne (tgt := 72) X dd_Tokens_signKind_65 (by decide) (fun q20 => ?_) (fun q20 => ?_)
    · rw [if_neg q20] at h
      exact t_Tokens_signKind_72 X H h
    · rw [if_pos q20] at h
      refine z_sipush (v := 257) X dd_Tokens_signKind_68 (by decide) ?_
      obtain rfl := Option.some.inj h
      exact z_iret X H.1 H.2.1 H.2.2.1 dd_Tokens_signKind_71
set_option maxRecDepth 100000 in
set_option maxHeartbeats 4000000 in
theorem t_Tokens_signKind_29  (X : zX p s m args cd D cid B bb_Tokens_signKind 4 rr_Tokens zT) (H : zH s meth B n0 (some (.int)) "signKind") {nf : Nat} {x0 : Nat} {x2 : Int32} {s0 : Int32} {c : Zc} {res : Int32 × Zc} (h : f_Tokens_signKind_29 nf x0 x2 s0 c = some res) : Zz p l e (zRm 4 91 0 0) s m args below meth cd (MQ below (zQi D cid B res.1 res.2 n0 0) args s 0 0 (fun q => B ≤ q)) D cid B 4 0 0 c 29 [(0, .ref x0), (2, .int x2)] [.int s0] := by
  unfold f_Tokens_signKind_29 at h
  refine z_istore_n (lv' := [(3, .int s0), (0, .ref x0), (2, .int x2)]) X dd_Tokens_signKind_29 rfl (by decide) rfl ?_
  refine z_aload_n X dd_Tokens_signKind_30 rfl 1 rfl ?_
  obtain ⟨v5, ev5, h⟩ := zb h
  refine z_get (j := 1) X dd_Tokens_signKind_31 kc_3 ki_3 (by decide) km_418 (zgr_v ev5) ?_
  refine z_aload_n X dd_Tokens_signKind_34 rfl 1 rfl ?_
  obtain ⟨v6, ev6, h⟩ := zb h
  refine z_get (j := 3) X dd_Tokens_signKind_35 kc_3 ki_3 (by decide) km_422 (zgi_v ev6) ?_
  refine z_iconst (v := 0) X dd_Tokens_signKind_38 (by decide) ?_
  obtain ⟨c7, ec7, h⟩ := zb h
  refine z_iastore X dd_Tokens_signKind_39 rfl ec7 ?_
  refine z_iload_n X dd_Tokens_signKind_40 rfl 2 rfl ?_
  refine z_bipush (v := 45) X dd_Tokens_signKind_41 (by decide) ?_
  refine z_icmp_ne (tgt := 56) X dd_Tokens_signKind_43 (by decide) (fun q8 => ?_) (fun q8 => ?_)
  · rw [if_neg q8] at h
    refine z_sub [2, 0] rfl ?_
    exact t_Tokens_signKind_56 X H h
  · rw [if_pos q8] at h
    refine z_iload_n X dd_Tokens_signKind_46 rfl 0 rfl ?_
    refine z_bipush (v := 62) X dd_Tokens_signKind_47 (by decide) ?_
    refine z_icmp_ne (tgt := 56) X dd_Tokens_signKind_49 (by decide) (fun q21 => ?_) (fun q21 => ?_)
    · rw [if_neg q21] at h
      refine z_sub [2, 0] rfl ?_
      exact t_Tokens_signKind_56 X H h
    · rw [if_pos q21] at h
      refine z_sipush (v := 256) X dd_Tokens_signKind_52 (by decide) ?_
      obtain rfl := Option.some.inj h
      exact z_iret X H.1 H.2.1 H.2.2.1 dd_Tokens_signKind_55
set_option maxRecDepth 100000 in
set_option maxHeartbeats 4000000 in
theorem c_Tokens_signKind (l : Launch) {nf : Nat} {a0 : Nat} {a1 : Int32} {c : Zc} {res : Int32 × Zc} (h : f_Tokens_signKind nf a0 a1 c = some res) : zM l yy_Tokens_signKind ww_Tokens_signKind 4 91 0 0 [.ref a0, .int a1] c (fun D cid B => zQi D cid B res.1 res.2 c.length 0) := by
  refine z_met (cc := bb_Tokens_signKind) (maxL := 4) (ret := (some (.int))) (by decide +kernel) rfl (Nat.le_of_ble_eq_true rfl) ?_
  intro p e s m args below meth cd D cid B X h1 h2 h3 h4
  have X : zX p s m args cd D cid B bb_Tokens_signKind 4 rr_Tokens zT := X
  have H : zH s meth B c.length (some (.int)) "signKind" := ⟨h1, h2, h4, h3⟩
  unfold f_Tokens_signKind at h
  show Zz p l e (zRm 4 91 0 0) s m args below meth cd _ D cid B 4 0 0 c 0 [(0, .ref a0), (1, .int a1)] []
  refine z_aload_n X dd_Tokens_signKind_0 rfl 0 rfl ?_
  obtain ⟨v1, ev1, h⟩ := zb h
  refine z_get (j := 4) X dd_Tokens_signKind_1 kc_3 ki_3 (by decide) km_424 (zgr_v ev1) ?_
  refine z_iload_n X dd_Tokens_signKind_4 rfl 1 rfl ?_
  obtain ⟨v2, ev2, h⟩ := zb h
  refine z_baload X dd_Tokens_signKind_5 rfl ev2 ?_
  refine z_istore_n (lv' := [(2, .int v2), (0, .ref a0), (1, .int a1)]) X dd_Tokens_signKind_6 rfl (by decide) rfl ?_
  refine z_iload_n X dd_Tokens_signKind_7 rfl 2 rfl ?_
  refine z_iconst (v := 1) X dd_Tokens_signKind_8 (by decide) ?_
  refine z_iadd X dd_Tokens_signKind_9 ?_
  refine z_aload_n X dd_Tokens_signKind_10 rfl 1 rfl ?_
  obtain ⟨v3, ev3, h⟩ := zb h
  refine z_get (j := 5) X dd_Tokens_signKind_11 kc_3 ki_3 (by decide) km_425 (zgi_v ev3) ?_
  refine z_icmp_ge (tgt := 28) X dd_Tokens_signKind_14 (by decide) (fun q4 => ?_) (fun q4 => ?_)
  · rw [if_pos q4] at h
    refine z_iconst (v := 0) X dd_Tokens_signKind_28 (by decide) ?_
    refine z_sub [1, 0] rfl ?_
    exact t_Tokens_signKind_29 X H h
  · rw [if_neg q4] at h
    refine z_aload_n X dd_Tokens_signKind_17 rfl 1 rfl ?_
    obtain ⟨v22, ev22, h⟩ := zb h
    refine z_get (j := 4) X dd_Tokens_signKind_18 kc_3 ki_3 (by decide) km_424 (zgr_v ev22) ?_
    refine z_iload_n X dd_Tokens_signKind_21 rfl 2 rfl ?_
    refine z_iconst (v := 1) X dd_Tokens_signKind_22 (by decide) ?_
    refine z_iadd X dd_Tokens_signKind_23 ?_
    obtain ⟨v23, ev23, h⟩ := zb h
    refine z_baload X dd_Tokens_signKind_24 rfl ev23 ?_
    refine z_goto (tgt := 29) X dd_Tokens_signKind_25 (by decide) ?_
    refine z_sub [1, 0] rfl ?_
    exact t_Tokens_signKind_29 X H h
theorem dd_Tokens_takeToken_0 : decode bb_Tokens_takeToken 0 = .ok (.iload_n 1, 1) := by decide +kernel
theorem dd_Tokens_takeToken_1 : decode bb_Tokens_takeToken 1 = .ok (.istore_n 2, 1) := by decide +kernel
theorem dd_Tokens_takeToken_2 : decode bb_Tokens_takeToken 2 = .ok (.iload_n 2, 1) := by decide +kernel
theorem dd_Tokens_takeToken_3 : decode bb_Tokens_takeToken 3 = .ok (.aload_n 0, 1) := by decide +kernel
theorem dd_Tokens_takeToken_4 : decode bb_Tokens_takeToken 4 = .ok (.getfield 29, 3) := by decide +kernel
theorem dd_Tokens_takeToken_7 : decode bb_Tokens_takeToken 7 = .ok (.if_icmp .ge 33, 3) := by decide +kernel
theorem dd_Tokens_takeToken_10 : decode bb_Tokens_takeToken 10 = .ok (.aload_n 0, 1) := by decide +kernel
theorem dd_Tokens_takeToken_11 : decode bb_Tokens_takeToken 11 = .ok (.getfield 25, 3) := by decide +kernel
theorem dd_Tokens_takeToken_14 : decode bb_Tokens_takeToken 14 = .ok (.iload_n 2, 1) := by decide +kernel
theorem dd_Tokens_takeToken_15 : decode bb_Tokens_takeToken 15 = .ok (.baload, 1) := by decide +kernel
theorem dd_Tokens_takeToken_16 : decode bb_Tokens_takeToken 16 = .ok (.invokestatic 46, 3) := by decide +kernel
theorem dd_Tokens_takeToken_19 : decode bb_Tokens_takeToken 19 = .ok (.ifCond .ne 15, 3) := by decide +kernel
theorem dd_Tokens_takeToken_22 : decode bb_Tokens_takeToken 22 = .ok (.aload_n 0, 1) := by decide +kernel
theorem dd_Tokens_takeToken_23 : decode bb_Tokens_takeToken 23 = .ok (.getfield 25, 3) := by decide +kernel
theorem dd_Tokens_takeToken_26 : decode bb_Tokens_takeToken 26 = .ok (.iload_n 2, 1) := by decide +kernel
theorem dd_Tokens_takeToken_27 : decode bb_Tokens_takeToken 27 = .ok (.baload, 1) := by decide +kernel
theorem dd_Tokens_takeToken_28 : decode bb_Tokens_takeToken 28 = .ok (.invokestatic 49, 3) := by decide +kernel
theorem dd_Tokens_takeToken_31 : decode bb_Tokens_takeToken 31 = .ok (.ifCond .eq 9, 3) := by decide +kernel
theorem dd_Tokens_takeToken_34 : decode bb_Tokens_takeToken 34 = .ok (.iinc 2 1, 3) := by decide +kernel
theorem dd_Tokens_takeToken_37 : decode bb_Tokens_takeToken 37 = .ok (.goto (-35), 3) := by decide +kernel
theorem dd_Tokens_takeToken_40 : decode bb_Tokens_takeToken 40 = .ok (.iload_n 2, 1) := by decide +kernel
theorem dd_Tokens_takeToken_41 : decode bb_Tokens_takeToken 41 = .ok (.iload_n 1, 1) := by decide +kernel
theorem dd_Tokens_takeToken_42 : decode bb_Tokens_takeToken 42 = .ok (.if_icmp .le 12, 3) := by decide +kernel
theorem dd_Tokens_takeToken_45 : decode bb_Tokens_takeToken 45 = .ok (.aload_n 0, 1) := by decide +kernel
theorem dd_Tokens_takeToken_46 : decode bb_Tokens_takeToken 46 = .ok (.iload_n 1, 1) := by decide +kernel
theorem dd_Tokens_takeToken_47 : decode bb_Tokens_takeToken 47 = .ok (.iload_n 2, 1) := by decide +kernel
theorem dd_Tokens_takeToken_48 : decode bb_Tokens_takeToken 48 = .ok (.invokevirtual 52, 3) := by decide +kernel
theorem dd_Tokens_takeToken_51 : decode bb_Tokens_takeToken 51 = .ok (.goto 8, 3) := by decide +kernel
theorem dd_Tokens_takeToken_54 : decode bb_Tokens_takeToken 54 = .ok (.aload_n 0, 1) := by decide +kernel
theorem dd_Tokens_takeToken_55 : decode bb_Tokens_takeToken 55 = .ok (.iload_n 1, 1) := by decide +kernel
theorem dd_Tokens_takeToken_56 : decode bb_Tokens_takeToken 56 = .ok (.invokevirtual 55, 3) := by decide +kernel
theorem dd_Tokens_takeToken_59 : decode bb_Tokens_takeToken 59 = .ok (.istore_n 3, 1) := by decide +kernel
theorem dd_Tokens_takeToken_60 : decode bb_Tokens_takeToken 60 = .ok (.aload_n 0, 1) := by decide +kernel
theorem dd_Tokens_takeToken_61 : decode bb_Tokens_takeToken 61 = .ok (.getfield 9, 3) := by decide +kernel
theorem dd_Tokens_takeToken_64 : decode bb_Tokens_takeToken 64 = .ok (.aload_n 0, 1) := by decide +kernel
theorem dd_Tokens_takeToken_65 : decode bb_Tokens_takeToken 65 = .ok (.getfield 21, 3) := by decide +kernel
theorem dd_Tokens_takeToken_68 : decode bb_Tokens_takeToken 68 = .ok (.iload_n 3, 1) := by decide +kernel
theorem dd_Tokens_takeToken_69 : decode bb_Tokens_takeToken 69 = .ok (.iastore, 1) := by decide +kernel
theorem dd_Tokens_takeToken_70 : decode bb_Tokens_takeToken 70 = .ok (.aload_n 0, 1) := by decide +kernel
theorem dd_Tokens_takeToken_71 : decode bb_Tokens_takeToken 71 = .ok (.getfield 18, 3) := by decide +kernel
theorem dd_Tokens_takeToken_74 : decode bb_Tokens_takeToken 74 = .ok (.aload_n 0, 1) := by decide +kernel
theorem dd_Tokens_takeToken_75 : decode bb_Tokens_takeToken 75 = .ok (.getfield 21, 3) := by decide +kernel
theorem dd_Tokens_takeToken_78 : decode bb_Tokens_takeToken 78 = .ok (.iload_n 1, 1) := by decide +kernel
theorem dd_Tokens_takeToken_79 : decode bb_Tokens_takeToken 79 = .ok (.iastore, 1) := by decide +kernel
theorem dd_Tokens_takeToken_80 : decode bb_Tokens_takeToken 80 = .ok (.aload_n 0, 1) := by decide +kernel
theorem dd_Tokens_takeToken_81 : decode bb_Tokens_takeToken 81 = .ok (.dup, 1) := by decide +kernel
theorem dd_Tokens_takeToken_82 : decode bb_Tokens_takeToken 82 = .ok (.getfield 21, 3) := by decide +kernel
theorem dd_Tokens_takeToken_85 : decode bb_Tokens_takeToken 85 = .ok (.iconst 1, 1) := by decide +kernel
theorem dd_Tokens_takeToken_86 : decode bb_Tokens_takeToken 86 = .ok (.iadd, 1) := by decide +kernel
theorem dd_Tokens_takeToken_87 : decode bb_Tokens_takeToken 87 = .ok (.putfield 21, 3) := by decide +kernel
theorem dd_Tokens_takeToken_90 : decode bb_Tokens_takeToken 90 = .ok (.iload_n 3, 1) := by decide +kernel
theorem dd_Tokens_takeToken_91 : decode bb_Tokens_takeToken 91 = .ok (.ifCond .ne 8, 3) := by decide +kernel
theorem dd_Tokens_takeToken_94 : decode bb_Tokens_takeToken 94 = .ok (.aload_n 0, 1) := by decide +kernel
theorem dd_Tokens_takeToken_95 : decode bb_Tokens_takeToken 95 = .ok (.getfield 29, 3) := by decide +kernel
theorem dd_Tokens_takeToken_98 : decode bb_Tokens_takeToken 98 = .ok (.ireturn, 1) := by decide +kernel
theorem dd_Tokens_takeToken_99 : decode bb_Tokens_takeToken 99 = .ok (.iload_n 2, 1) := by decide +kernel
theorem dd_Tokens_takeToken_100 : decode bb_Tokens_takeToken 100 = .ok (.iload_n 1, 1) := by decide +kernel
theorem dd_Tokens_takeToken_101 : decode bb_Tokens_takeToken 101 = .ok (.if_icmp .le 7, 3) := by decide +kernel
theorem dd_Tokens_takeToken_104 : decode bb_Tokens_takeToken 104 = .ok (.iload_n 2, 1) := by decide +kernel
theorem dd_Tokens_takeToken_105 : decode bb_Tokens_takeToken 105 = .ok (.goto 17, 3) := by decide +kernel
theorem dd_Tokens_takeToken_108 : decode bb_Tokens_takeToken 108 = .ok (.iload_n 1, 1) := by decide +kernel
theorem dd_Tokens_takeToken_109 : decode bb_Tokens_takeToken 109 = .ok (.iload_n 3, 1) := by decide +kernel
theorem dd_Tokens_takeToken_110 : decode bb_Tokens_takeToken 110 = .ok (.sipush 256, 3) := by decide +kernel
theorem dd_Tokens_takeToken_113 : decode bb_Tokens_takeToken 113 = .ok (.if_icmp .lt 7, 3) := by decide +kernel
theorem dd_Tokens_takeToken_116 : decode bb_Tokens_takeToken 116 = .ok (.iconst 2, 1) := by decide +kernel
theorem dd_Tokens_takeToken_117 : decode bb_Tokens_takeToken 117 = .ok (.goto 4, 3) := by decide +kernel
theorem dd_Tokens_takeToken_120 : decode bb_Tokens_takeToken 120 = .ok (.iconst 1, 1) := by decide +kernel
theorem dd_Tokens_takeToken_121 : decode bb_Tokens_takeToken 121 = .ok (.iadd, 1) := by decide +kernel
theorem dd_Tokens_takeToken_122 : decode bb_Tokens_takeToken 122 = .ok (.ireturn, 1) := by decide +kernel
def f_Tokens_takeToken_34 (nf : Nat) (x0 : Nat) (x1 : Int32) (x2 : Int32) (c : Zc) : Option ((Nat × Int32 × Int32 × Zc) ⊕ (Nat × Int32 × Int32 × Zc)) :=
  some (.inl (x0, x1, (x2 + 1), c))
def g_Tokens_takeToken_2 (nf : Nat) (x0 : Nat) (x1 : Int32) (x2 : Int32) (c : Zc) : Option ((Nat × Int32 × Int32 × Zc) ⊕ (Nat × Int32 × Int32 × Zc)) :=
  (zgi c x0 3 5).bind fun v1 => if v1 ≤ x2 then (some (.inr (x0, x1, x2, c))) else ((zgr c x0 3 4).bind fun v3 => (zai c v3 1 x2).bind fun v4 => (f_Tokens_isLetter nf v4 c).bind fun q5 => if q5.1 = 0 then ((zgr q5.2 x0 3 4).bind fun v7 => (zai q5.2 v7 1 x2).bind fun v8 => (f_Tokens_isDigit nf v8 q5.2).bind fun q9 => if q9.1 = 0 then (some (.inr (x0, x1, x2, q9.2))) else (f_Tokens_takeToken_34 nf x0 x1 x2 q9.2)) else (f_Tokens_takeToken_34 nf x0 x1 x2 q5.2))
def f_Tokens_takeToken_122 (nf : Nat) (s0 : Int32) (c : Zc) : Option (Int32 × Zc) :=
  some (s0, c)
def f_Tokens_takeToken_121 (nf : Nat) (s0 : Int32) (s1 : Int32) (c : Zc) : Option (Int32 × Zc) :=
  f_Tokens_takeToken_122 nf (s0 + s1) c
def f_Tokens_takeToken_59 (nf : Nat) (x0 : Nat) (x1 : Int32) (x2 : Int32) (s0 : Int32) (c : Zc) : Option (Int32 × Zc) :=
  (zgr c x0 3 0).bind fun v14 => (zgi c x0 3 3).bind fun v15 => (zsi c v14 0 v15 s0).bind fun c16 => (zgr c16 x0 3 2).bind fun v17 => (zgi c16 x0 3 3).bind fun v18 => (zsi c16 v17 0 v18 x1).bind fun c19 => (zgi c19 x0 3 3).bind fun v20 => (zpv c19 x0 3 3 (.int (v20 + 1))).bind fun c21 => if s0 = 0 then ((zgi c21 x0 3 5).bind fun v25 => some (v25, c21)) else (if x2 ≤ x1 then (if s0 < 256 then (f_Tokens_takeToken_121 nf x1 1 c21) else (f_Tokens_takeToken_121 nf x1 2 c21)) else (f_Tokens_takeToken_122 nf x2 c21))
def f_Tokens_takeToken_40 (nf : Nat) (x0 : Nat) (x1 : Int32) (x2 : Int32) (c : Zc) : Option (Int32 × Zc) :=
  if x2 ≤ x1 then ((zob c x0 3).bind fun w13 => (f_Tokens_signKind nf x0 x1 c).bind fun q12 => f_Tokens_takeToken_59 nf x0 x1 x2 q12.1 q12.2) else ((zob c x0 3).bind fun w27 => (f_Tokens_nameKind nf x0 x1 x2 c).bind fun q26 => f_Tokens_takeToken_59 nf x0 x1 x2 q26.1 q26.2)
def f_Tokens_takeToken_2 (nf : Nat) (x0 : Nat) (x1 : Int32) (x2 : Int32) (c : Zc) : Option (Int32 × Zc) :=
  (zlp (fun a => g_Tokens_takeToken_2 nf a.1 a.2.1 a.2.2.1 a.2.2.2) nf (x0, x1, x2, c)).bind fun b => f_Tokens_takeToken_40 nf b.1 b.2.1 b.2.2.1 b.2.2.2
def f_Tokens_takeToken (nf : Nat) (a0 : Nat) (a1 : Int32) (c : Zc) : Option (Int32 × Zc) :=
  f_Tokens_takeToken_2 nf a0 a1 a1 c
set_option maxRecDepth 100000 in
set_option maxHeartbeats 4000000 in
theorem t_Tokens_takeToken_34  (X : zX p s m args cd D cid B bb_Tokens_takeToken 4 rr_Tokens zT) (H : zH s meth B n0 (some (.int)) "takeToken") {nf : Nat} {x0 : Nat} {x1 : Int32} {x2 : Int32} {c : Zc} {r : (Nat × Int32 × Int32 × Zc) ⊕ (Nat × Int32 × Int32 × Zc)} (h : f_Tokens_takeToken_34 nf x0 x1 x2 c = some r) (k0 : ∀ a, r = .inl a → (fun a : Nat × Int32 × Int32 × Zc => Zz p l e (zRm 7 156 0 0) s m args below meth cd Q D cid B 4 0 0 a.2.2.2 2 [(0, .ref a.1), (1, .int a.2.1), (2, .int a.2.2.1)] []) a) (k1 : ∀ b, r = .inr b → (fun b : Nat × Int32 × Int32 × Zc => Zz p l e (zRm 7 156 0 0) s m args below meth cd Q D cid B 4 0 0 b.2.2.2 40 [(0, .ref b.1), (1, .int b.2.1), (2, .int b.2.2.1)] []) b) : Zz p l e (zRm 7 156 0 0) s m args below meth cd Q D cid B 4 0 0 c 34 [(0, .ref x0), (1, .int x1), (2, .int x2)] [] := by
  unfold f_Tokens_takeToken_34 at h
  refine z_iinc (v := (x2 + 1)) (lv' := [(2, .int (x2 + 1)), (0, .ref x0), (1, .int x1)]) X dd_Tokens_takeToken_34 2 rfl rfl (by decide) rfl ?_
  refine z_goto (tgt := 2) X dd_Tokens_takeToken_37 (by decide) ?_
  refine z_sub [1, 2, 0] rfl ?_
  obtain rfl := Option.some.inj h
  exact k0 _ rfl
set_option maxRecDepth 100000 in
set_option maxHeartbeats 4000000 in
theorem u_Tokens_takeToken_2  (X : zX p s m args cd D cid B bb_Tokens_takeToken 4 rr_Tokens zT) (H : zH s meth B n0 (some (.int)) "takeToken") {nf : Nat} {x0 : Nat} {x1 : Int32} {x2 : Int32} {c : Zc} {r : (Nat × Int32 × Int32 × Zc) ⊕ (Nat × Int32 × Int32 × Zc)} (h : g_Tokens_takeToken_2 nf x0 x1 x2 c = some r) (k0 : ∀ a, r = .inl a → (fun a : Nat × Int32 × Int32 × Zc => Zz p l e (zRm 7 156 0 0) s m args below meth cd Q D cid B 4 0 0 a.2.2.2 2 [(0, .ref a.1), (1, .int a.2.1), (2, .int a.2.2.1)] []) a) (k1 : ∀ b, r = .inr b → (fun b : Nat × Int32 × Int32 × Zc => Zz p l e (zRm 7 156 0 0) s m args below meth cd Q D cid B 4 0 0 b.2.2.2 40 [(0, .ref b.1), (1, .int b.2.1), (2, .int b.2.2.1)] []) b) : Zz p l e (zRm 7 156 0 0) s m args below meth cd Q D cid B 4 0 0 c 2 [(0, .ref x0), (1, .int x1), (2, .int x2)] [] := by
  unfold g_Tokens_takeToken_2 at h
  refine z_iload_n X dd_Tokens_takeToken_2 rfl 2 rfl ?_
  refine z_aload_n X dd_Tokens_takeToken_3 rfl 0 rfl ?_
  obtain ⟨v1, ev1, h⟩ := zb h
  refine z_get (j := 5) X dd_Tokens_takeToken_4 kc_3 ki_3 (by decide) km_425 (zgi_v ev1) ?_
  refine z_icmp_ge (tgt := 40) X dd_Tokens_takeToken_7 (by decide) (fun q2 => ?_) (fun q2 => ?_)
  · rw [if_pos q2] at h
    obtain rfl := Option.some.inj h
    exact k1 _ rfl
  · rw [if_neg q2] at h
    refine z_aload_n X dd_Tokens_takeToken_10 rfl 0 rfl ?_
    obtain ⟨v3, ev3, h⟩ := zb h
    refine z_get (j := 4) X dd_Tokens_takeToken_11 kc_3 ki_3 (by decide) km_424 (zgr_v ev3) ?_
    refine z_iload_n X dd_Tokens_takeToken_14 rfl 2 rfl ?_
    obtain ⟨v4, ev4, h⟩ := zb h
    refine z_baload X dd_Tokens_takeToken_15 rfl ev4 ?_
    obtain ⟨q5, eq5, h⟩ := zb h
    refine z_callSi X [.int v4] rfl dd_Tokens_takeToken_16 (c_Tokens_isLetter l eq5) (va_cwS 1 X.1.2.2.2.2 (zg_S km_851 km_852 km_131 km_853) rfl rfl rfl (by decide +kernel) ⟨Nat.le_of_ble_eq_true rfl, Nat.le_of_ble_eq_true rfl⟩) rfl (Nat.le_of_ble_eq_true rfl) ⟨Nat.le_of_ble_eq_true rfl, Nat.le_of_ble_eq_true rfl⟩ ?_
    refine z_if_ne (tgt := 34) X dd_Tokens_takeToken_19 (by decide) (fun q6 => ?_) (fun q6 => ?_)
    · rw [if_neg q6] at h
      exact t_Tokens_takeToken_34 X H h k0 k1
    · rw [if_pos q6] at h
      refine z_aload_n X dd_Tokens_takeToken_22 rfl 0 rfl ?_
      obtain ⟨v7, ev7, h⟩ := zb h
      refine z_get (j := 4) X dd_Tokens_takeToken_23 kc_3 ki_3 (by decide) km_424 (zgr_v ev7) ?_
      refine z_iload_n X dd_Tokens_takeToken_26 rfl 2 rfl ?_
      obtain ⟨v8, ev8, h⟩ := zb h
      refine z_baload X dd_Tokens_takeToken_27 rfl ev8 ?_
      obtain ⟨q9, eq9, h⟩ := zb h
      refine z_callSi X [.int v8] rfl dd_Tokens_takeToken_28 (c_Tokens_isDigit l eq9) (va_cwS 1 X.1.2.2.2.2 (zg_S km_854 km_855 km_131 km_856) rfl rfl rfl (by decide +kernel) ⟨Nat.le_of_ble_eq_true rfl, Nat.le_of_ble_eq_true rfl⟩) rfl (Nat.le_of_ble_eq_true rfl) ⟨Nat.le_of_ble_eq_true rfl, Nat.le_of_ble_eq_true rfl⟩ ?_
      refine z_if_eq (tgt := 40) X dd_Tokens_takeToken_31 (by decide) (fun q10 => ?_) (fun q10 => ?_)
      · rw [if_pos q10] at h
        obtain rfl := Option.some.inj h
        exact k1 _ rfl
      · rw [if_neg q10] at h
        exact t_Tokens_takeToken_34 X H h k0 k1
set_option maxRecDepth 100000 in
set_option maxHeartbeats 4000000 in
theorem t_Tokens_takeToken_122  (X : zX p s m args cd D cid B bb_Tokens_takeToken 4 rr_Tokens zT) (H : zH s meth B n0 (some (.int)) "takeToken") {nf : Nat} {s0 : Int32} {c : Zc} {res : Int32 × Zc} (h : f_Tokens_takeToken_122 nf s0 c = some res) : Zz p l e (zRm 7 156 0 0) s m args below meth cd (MQ below (zQi D cid B res.1 res.2 n0 0) args s 0 0 (fun q => B ≤ q)) D cid B 4 0 0 c 122 [] [.int s0] := by
  unfold f_Tokens_takeToken_122 at h
  obtain rfl := Option.some.inj h
  exact z_iret X H.1 H.2.1 H.2.2.1 dd_Tokens_takeToken_122
set_option maxRecDepth 100000 in
set_option maxHeartbeats 4000000 in
theorem t_Tokens_takeToken_121  (X : zX p s m args cd D cid B bb_Tokens_takeToken 4 rr_Tokens zT) (H : zH s meth B n0 (some (.int)) "takeToken") {nf : Nat} {s0 : Int32} {s1 : Int32} {c : Zc} {res : Int32 × Zc} (h : f_Tokens_takeToken_121 nf s0 s1 c = some res) : Zz p l e (zRm 7 156 0 0) s m args below meth cd (MQ below (zQi D cid B res.1 res.2 n0 0) args s 0 0 (fun q => B ≤ q)) D cid B 4 0 0 c 121 [] [.int s1, .int s0] := by
  unfold f_Tokens_takeToken_121 at h
  refine z_iadd X dd_Tokens_takeToken_121 ?_
  exact t_Tokens_takeToken_122 X H h
set_option maxRecDepth 100000 in
set_option maxHeartbeats 4000000 in
theorem t_Tokens_takeToken_59  (X : zX p s m args cd D cid B bb_Tokens_takeToken 4 rr_Tokens zT) (H : zH s meth B n0 (some (.int)) "takeToken") {nf : Nat} {x0 : Nat} {x1 : Int32} {x2 : Int32} {s0 : Int32} {c : Zc} {res : Int32 × Zc} (h : f_Tokens_takeToken_59 nf x0 x1 x2 s0 c = some res) : Zz p l e (zRm 7 156 0 0) s m args below meth cd (MQ below (zQi D cid B res.1 res.2 n0 0) args s 0 0 (fun q => B ≤ q)) D cid B 4 0 0 c 59 [(0, .ref x0), (1, .int x1), (2, .int x2)] [.int s0] := by
  unfold f_Tokens_takeToken_59 at h
  refine z_istore_n (lv' := [(3, .int s0), (0, .ref x0), (1, .int x1), (2, .int x2)]) X dd_Tokens_takeToken_59 rfl (by decide) rfl ?_
  refine z_aload_n X dd_Tokens_takeToken_60 rfl 1 rfl ?_
  obtain ⟨v14, ev14, h⟩ := zb h
  refine z_get (j := 0) X dd_Tokens_takeToken_61 kc_3 ki_3 (by decide) km_416 (zgr_v ev14) ?_
  refine z_aload_n X dd_Tokens_takeToken_64 rfl 1 rfl ?_
  obtain ⟨v15, ev15, h⟩ := zb h
  refine z_get (j := 3) X dd_Tokens_takeToken_65 kc_3 ki_3 (by decide) km_422 (zgi_v ev15) ?_
  refine z_iload_n X dd_Tokens_takeToken_68 rfl 0 rfl ?_
  obtain ⟨c16, ec16, h⟩ := zb h
  refine z_iastore X dd_Tokens_takeToken_69 rfl ec16 ?_
  refine z_aload_n X dd_Tokens_takeToken_70 rfl 1 rfl ?_
  obtain ⟨v17, ev17, h⟩ := zb h
  refine z_get (j := 2) X dd_Tokens_takeToken_71 kc_3 ki_3 (by decide) km_420 (zgr_v ev17) ?_
  refine z_aload_n X dd_Tokens_takeToken_74 rfl 1 rfl ?_
  obtain ⟨v18, ev18, h⟩ := zb h
  refine z_get (j := 3) X dd_Tokens_takeToken_75 kc_3 ki_3 (by decide) km_422 (zgi_v ev18) ?_
  refine z_iload_n X dd_Tokens_takeToken_78 rfl 2 rfl ?_
  obtain ⟨c19, ec19, h⟩ := zb h
  refine z_iastore X dd_Tokens_takeToken_79 rfl ec19 ?_
  refine z_aload_n X dd_Tokens_takeToken_80 rfl 1 rfl ?_
  refine z_dup X dd_Tokens_takeToken_81 rfl ?_
  obtain ⟨v20, ev20, h⟩ := zb h
  refine z_get (j := 3) X dd_Tokens_takeToken_82 kc_3 ki_3 (by decide) km_422 (zgi_v ev20) ?_
  refine z_iconst (v := 1) X dd_Tokens_takeToken_85 (by decide) ?_
  refine z_iadd X dd_Tokens_takeToken_86 ?_
  obtain ⟨c21, ec21, h⟩ := zb h
  refine z_put (j := 3) X dd_Tokens_takeToken_87 kc_3 ki_3 tt_Tokens tk_Tokens nn_Tokens (by decide) km_422 rfl (tk_Tokens 3 (by decide)) rfl rfl ec21 ?_
  refine z_iload_n X dd_Tokens_takeToken_90 rfl 0 rfl ?_
  refine z_if_ne (tgt := 99) X dd_Tokens_takeToken_91 (by decide) (fun q22 => ?_) (fun q22 => ?_)
  · rw [if_neg q22] at h
    refine z_iload_n X dd_Tokens_takeToken_99 rfl 3 rfl ?_
    refine z_iload_n X dd_Tokens_takeToken_100 rfl 2 rfl ?_
    refine z_icmp_le (tgt := 108) X dd_Tokens_takeToken_101 (by decide) (fun q23 => ?_) (fun q23 => ?_)
    · rw [if_pos q23] at h
      refine z_iload_n X dd_Tokens_takeToken_108 rfl 2 rfl ?_
      refine z_iload_n X dd_Tokens_takeToken_109 rfl 0 rfl ?_
      refine z_sipush (v := 256) X dd_Tokens_takeToken_110 (by decide) ?_
      refine z_icmp_lt (tgt := 120) X dd_Tokens_takeToken_113 (by decide) (fun q24 => ?_) (fun q24 => ?_)
      · rw [if_pos q24] at h
        refine z_iconst (v := 1) X dd_Tokens_takeToken_120 (by decide) ?_
        refine z_sub [] rfl ?_
        exact t_Tokens_takeToken_121 X H h
      · rw [if_neg q24] at h
        refine z_iconst (v := 2) X dd_Tokens_takeToken_116 (by decide) ?_
        refine z_goto (tgt := 121) X dd_Tokens_takeToken_117 (by decide) ?_
        refine z_sub [] rfl ?_
        exact t_Tokens_takeToken_121 X H h
    · rw [if_neg q23] at h
      refine z_iload_n X dd_Tokens_takeToken_104 rfl 3 rfl ?_
      refine z_goto (tgt := 122) X dd_Tokens_takeToken_105 (by decide) ?_
      refine z_sub [] rfl ?_
      exact t_Tokens_takeToken_122 X H h
  · rw [if_pos q22] at h
    refine z_aload_n X dd_Tokens_takeToken_94 rfl 1 rfl ?_
    obtain ⟨v25, ev25, h⟩ := zb h
    refine z_get (j := 5) X dd_Tokens_takeToken_95 kc_3 ki_3 (by decide) km_425 (zgi_v ev25) ?_
    obtain rfl := Option.some.inj h
    exact z_iret X H.1 H.2.1 H.2.2.1 dd_Tokens_takeToken_98
set_option maxRecDepth 100000 in
set_option maxHeartbeats 4000000 in
theorem t_Tokens_takeToken_40  (X : zX p s m args cd D cid B bb_Tokens_takeToken 4 rr_Tokens zT) (H : zH s meth B n0 (some (.int)) "takeToken") {nf : Nat} {x0 : Nat} {x1 : Int32} {x2 : Int32} {c : Zc} {res : Int32 × Zc} (h : f_Tokens_takeToken_40 nf x0 x1 x2 c = some res) : Zz p l e (zRm 7 156 0 0) s m args below meth cd (MQ below (zQi D cid B res.1 res.2 n0 0) args s 0 0 (fun q => B ≤ q)) D cid B 4 0 0 c 40 [(0, .ref x0), (1, .int x1), (2, .int x2)] [] := by
  unfold f_Tokens_takeToken_40 at h
  refine z_iload_n X dd_Tokens_takeToken_40 rfl 2 rfl ?_
  refine z_iload_n X dd_Tokens_takeToken_41 rfl 1 rfl ?_
  refine z_icmp_le (tgt := 54) X dd_Tokens_takeToken_42 (by decide) (fun q11 => ?_) (fun q11 => ?_)
  · rw [if_pos q11] at h
    refine z_aload_n X dd_Tokens_takeToken_54 rfl 0 rfl ?_
    refine z_iload_n X dd_Tokens_takeToken_55 rfl 1 rfl ?_
    obtain ⟨w13, ew13, h⟩ := zb h
    obtain ⟨q12, eq12, h⟩ := zb h
    refine z_callVi X [.int x1] rfl dd_Tokens_takeToken_56 (c_Tokens_signKind l eq12) (cwV 1 X.1.2.2.2.2 (zg_V km_989 km_991 km_9 km_131 km_992) rfl rfl rfl (by decide +kernel) ⟨Nat.le_of_ble_eq_true rfl, Nat.le_of_ble_eq_true rfl⟩) (zob_s ew13) kc_3 rfl (Nat.le_of_ble_eq_true rfl) ⟨Nat.le_of_ble_eq_true rfl, Nat.le_of_ble_eq_true rfl⟩ ?_
    exact t_Tokens_takeToken_59 X H h
  · rw [if_neg q11] at h
    refine z_aload_n X dd_Tokens_takeToken_45 rfl 0 rfl ?_
    refine z_iload_n X dd_Tokens_takeToken_46 rfl 1 rfl ?_
    refine z_iload_n X dd_Tokens_takeToken_47 rfl 2 rfl ?_
    obtain ⟨w27, ew27, h⟩ := zb h
    obtain ⟨q26, eq26, h⟩ := zb h
    refine z_callVi X [.int x1, .int x2] rfl dd_Tokens_takeToken_48 (c_Tokens_nameKind l eq26) (cwV 2 X.1.2.2.2.2 (zg_V km_857 km_859 km_3 km_131 km_860) rfl rfl rfl (by decide +kernel) ⟨Nat.le_of_ble_eq_true rfl, Nat.le_of_ble_eq_true rfl⟩) (zob_s ew27) kc_3 rfl (Nat.le_of_ble_eq_true rfl) ⟨Nat.le_of_ble_eq_true rfl, Nat.le_of_ble_eq_true rfl⟩ ?_
    refine z_goto (tgt := 59) X dd_Tokens_takeToken_51 (by decide) ?_
    exact t_Tokens_takeToken_59 X H h
set_option maxRecDepth 100000 in
set_option maxHeartbeats 4000000 in
theorem t_Tokens_takeToken_2  (X : zX p s m args cd D cid B bb_Tokens_takeToken 4 rr_Tokens zT) (H : zH s meth B n0 (some (.int)) "takeToken") {nf : Nat} {x0 : Nat} {x1 : Int32} {x2 : Int32} {c : Zc} {res : Int32 × Zc} (h : f_Tokens_takeToken_2 nf x0 x1 x2 c = some res) : Zz p l e (zRm 7 156 0 0) s m args below meth cd (MQ below (zQi D cid B res.1 res.2 n0 0) args s 0 0 (fun q => B ≤ q)) D cid B 4 0 0 c 2 [(0, .ref x0), (1, .int x1), (2, .int x2)] [] := by
  unfold f_Tokens_takeToken_2 at h
  obtain ⟨b, eb, h⟩ := zb h
  refine zlp_ok (P := fun a : Nat × Int32 × Int32 × Zc => Zz p l e (zRm 7 156 0 0) s m args below meth cd _ D cid B 4 0 0 a.2.2.2 2 [(0, .ref a.1), (1, .int a.2.1), (2, .int a.2.2.1)] []) (G := fun b : Nat × Int32 × Int32 × Zc => Zz p l e (zRm 7 156 0 0) s m args below meth cd _ D cid B 4 0 0 b.2.2.2 40 [(0, .ref b.1), (1, .int b.2.1), (2, .int b.2.2.1)] []) (fun a r ha k0 k1 => u_Tokens_takeToken_2 X H ha k0 k1) nf _ b eb ?_
  exact t_Tokens_takeToken_40 X H h
set_option maxRecDepth 100000 in
set_option maxHeartbeats 4000000 in
theorem c_Tokens_takeToken (l : Launch) {nf : Nat} {a0 : Nat} {a1 : Int32} {c : Zc} {res : Int32 × Zc} (h : f_Tokens_takeToken nf a0 a1 c = some res) : zM l yy_Tokens_takeToken ww_Tokens_takeToken 7 156 0 0 [.ref a0, .int a1] c (fun D cid B => zQi D cid B res.1 res.2 c.length 0) := by
  refine z_met (cc := bb_Tokens_takeToken) (maxL := 4) (ret := (some (.int))) (by decide +kernel) rfl (Nat.le_of_ble_eq_true rfl) ?_
  intro p e s m args below meth cd D cid B X h1 h2 h3 h4
  have X : zX p s m args cd D cid B bb_Tokens_takeToken 4 rr_Tokens zT := X
  have H : zH s meth B c.length (some (.int)) "takeToken" := ⟨h1, h2, h4, h3⟩
  unfold f_Tokens_takeToken at h
  show Zz p l e (zRm 7 156 0 0) s m args below meth cd _ D cid B 4 0 0 c 0 [(0, .ref a0), (1, .int a1)] []
  refine z_iload_n X dd_Tokens_takeToken_0 rfl 1 rfl ?_
  refine z_istore_n (lv' := [(2, .int a1), (0, .ref a0), (1, .int a1)]) X dd_Tokens_takeToken_1 rfl (by decide) rfl ?_
  refine z_sub [1, 2, 0] rfl ?_
  exact t_Tokens_takeToken_2 X H h
theorem dd_Tokens_split_0 : decode bb_Tokens_split 0 = .ok (.aload_n 0, 1) := by decide +kernel
theorem dd_Tokens_split_1 : decode bb_Tokens_split 1 = .ok (.aload_n 1, 1) := by decide +kernel
theorem dd_Tokens_split_2 : decode bb_Tokens_split 2 = .ok (.putfield 25, 3) := by decide +kernel
theorem dd_Tokens_split_5 : decode bb_Tokens_split 5 = .ok (.aload_n 0, 1) := by decide +kernel
theorem dd_Tokens_split_6 : decode bb_Tokens_split 6 = .ok (.iload_n 2, 1) := by decide +kernel
theorem dd_Tokens_split_7 : decode bb_Tokens_split 7 = .ok (.aload_n 1, 1) := by decide +kernel
theorem dd_Tokens_split_8 : decode bb_Tokens_split 8 = .ok (.arraylength, 1) := by decide +kernel
theorem dd_Tokens_split_9 : decode bb_Tokens_split 9 = .ok (.invokestatic 32, 3) := by decide +kernel
theorem dd_Tokens_split_12 : decode bb_Tokens_split 12 = .ok (.putfield 29, 3) := by decide +kernel
theorem dd_Tokens_split_15 : decode bb_Tokens_split 15 = .ok (.aload_n 0, 1) := by decide +kernel
theorem dd_Tokens_split_16 : decode bb_Tokens_split 16 = .ok (.iconst 0, 1) := by decide +kernel
theorem dd_Tokens_split_17 : decode bb_Tokens_split 17 = .ok (.putfield 21, 3) := by decide +kernel
theorem dd_Tokens_split_20 : decode bb_Tokens_split 20 = .ok (.iconst 0, 1) := by decide +kernel
theorem dd_Tokens_split_21 : decode bb_Tokens_split 21 = .ok (.istore_n 3, 1) := by decide +kernel
theorem dd_Tokens_split_22 : decode bb_Tokens_split 22 = .ok (.iconst 0, 1) := by decide +kernel
theorem dd_Tokens_split_23 : decode bb_Tokens_split 23 = .ok (.istore 4, 2) := by decide +kernel
theorem dd_Tokens_split_25 : decode bb_Tokens_split 25 = .ok (.iload 4, 2) := by decide +kernel
theorem dd_Tokens_split_27 : decode bb_Tokens_split 27 = .ok (.sipush 1500, 3) := by decide +kernel
theorem dd_Tokens_split_30 : decode bb_Tokens_split 30 = .ok (.if_icmp .ge 51, 3) := by decide +kernel
theorem dd_Tokens_split_33 : decode bb_Tokens_split 33 = .ok (.iload_n 3, 1) := by decide +kernel
theorem dd_Tokens_split_34 : decode bb_Tokens_split 34 = .ok (.aload_n 0, 1) := by decide +kernel
theorem dd_Tokens_split_35 : decode bb_Tokens_split 35 = .ok (.getfield 29, 3) := by decide +kernel
theorem dd_Tokens_split_38 : decode bb_Tokens_split 38 = .ok (.if_icmp .ge 43, 3) := by decide +kernel
theorem dd_Tokens_split_41 : decode bb_Tokens_split 41 = .ok (.aload_n 0, 1) := by decide +kernel
theorem dd_Tokens_split_42 : decode bb_Tokens_split 42 = .ok (.getfield 21, 3) := by decide +kernel
theorem dd_Tokens_split_45 : decode bb_Tokens_split 45 = .ok (.sipush 200, 3) := by decide +kernel
theorem dd_Tokens_split_48 : decode bb_Tokens_split 48 = .ok (.if_icmp .gt 33, 3) := by decide +kernel
theorem dd_Tokens_split_51 : decode bb_Tokens_split 51 = .ok (.aload_n 0, 1) := by decide +kernel
theorem dd_Tokens_split_52 : decode bb_Tokens_split 52 = .ok (.getfield 25, 3) := by decide +kernel
theorem dd_Tokens_split_55 : decode bb_Tokens_split 55 = .ok (.iload_n 3, 1) := by decide +kernel
theorem dd_Tokens_split_56 : decode bb_Tokens_split 56 = .ok (.baload, 1) := by decide +kernel
theorem dd_Tokens_split_57 : decode bb_Tokens_split 57 = .ok (.invokestatic 38, 3) := by decide +kernel
theorem dd_Tokens_split_60 : decode bb_Tokens_split 60 = .ok (.ifCond .eq 9, 3) := by decide +kernel
theorem dd_Tokens_split_63 : decode bb_Tokens_split 63 = .ok (.iinc 3 1, 3) := by decide +kernel
theorem dd_Tokens_split_66 : decode bb_Tokens_split 66 = .ok (.goto 9, 3) := by decide +kernel
theorem dd_Tokens_split_69 : decode bb_Tokens_split 69 = .ok (.aload_n 0, 1) := by decide +kernel
theorem dd_Tokens_split_70 : decode bb_Tokens_split 70 = .ok (.iload_n 3, 1) := by decide +kernel
theorem dd_Tokens_split_71 : decode bb_Tokens_split 71 = .ok (.invokevirtual 42, 3) := by decide +kernel
theorem dd_Tokens_split_74 : decode bb_Tokens_split 74 = .ok (.istore_n 3, 1) := by decide +kernel
theorem dd_Tokens_split_75 : decode bb_Tokens_split 75 = .ok (.iinc 4 1, 3) := by decide +kernel
theorem dd_Tokens_split_78 : decode bb_Tokens_split 78 = .ok (.goto (-53), 3) := by decide +kernel
theorem dd_Tokens_split_81 : decode bb_Tokens_split 81 = .ok (.aload_n 0, 1) := by decide +kernel
theorem dd_Tokens_split_82 : decode bb_Tokens_split 82 = .ok (.getfield 9, 3) := by decide +kernel
theorem dd_Tokens_split_85 : decode bb_Tokens_split 85 = .ok (.aload_n 0, 1) := by decide +kernel
theorem dd_Tokens_split_86 : decode bb_Tokens_split 86 = .ok (.getfield 21, 3) := by decide +kernel
theorem dd_Tokens_split_89 : decode bb_Tokens_split 89 = .ok (.iconst 1, 1) := by decide +kernel
theorem dd_Tokens_split_90 : decode bb_Tokens_split 90 = .ok (.iastore, 1) := by decide +kernel
theorem dd_Tokens_split_91 : decode bb_Tokens_split 91 = .ok (.aload_n 0, 1) := by decide +kernel
theorem dd_Tokens_split_92 : decode bb_Tokens_split 92 = .ok (.getfield 15, 3) := by decide +kernel
theorem dd_Tokens_split_95 : decode bb_Tokens_split 95 = .ok (.aload_n 0, 1) := by decide +kernel
theorem dd_Tokens_split_96 : decode bb_Tokens_split 96 = .ok (.getfield 21, 3) := by decide +kernel
theorem dd_Tokens_split_99 : decode bb_Tokens_split 99 = .ok (.iconst 0, 1) := by decide +kernel
theorem dd_Tokens_split_100 : decode bb_Tokens_split 100 = .ok (.iastore, 1) := by decide +kernel
theorem dd_Tokens_split_101 : decode bb_Tokens_split 101 = .ok (.aload_n 0, 1) := by decide +kernel
theorem dd_Tokens_split_102 : decode bb_Tokens_split 102 = .ok (.getfield 18, 3) := by decide +kernel
theorem dd_Tokens_split_105 : decode bb_Tokens_split 105 = .ok (.aload_n 0, 1) := by decide +kernel
theorem dd_Tokens_split_106 : decode bb_Tokens_split 106 = .ok (.getfield 21, 3) := by decide +kernel
theorem dd_Tokens_split_109 : decode bb_Tokens_split 109 = .ok (.aload_n 0, 1) := by decide +kernel
theorem dd_Tokens_split_110 : decode bb_Tokens_split 110 = .ok (.getfield 29, 3) := by decide +kernel
theorem dd_Tokens_split_113 : decode bb_Tokens_split 113 = .ok (.iastore, 1) := by decide +kernel
theorem dd_Tokens_split_114 : decode bb_Tokens_split 114 = .ok (.return_, 1) := by decide +kernel
def f_Tokens_split_75 (nf : Nat) (x0 : Nat) (x3 : Int32) (x4 : Int32) (c : Zc) : Option ((Nat × Int32 × Int32 × Zc) ⊕ (Nat × Zc)) :=
  some (.inl (x0, x3, (x4 + 1), c))
def g_Tokens_split_25 (nf : Nat) (x0 : Nat) (x3 : Int32) (x4 : Int32) (c : Zc) : Option ((Nat × Int32 × Int32 × Zc) ⊕ (Nat × Zc)) :=
  if 1500 ≤ x4 then (some (.inr (x0, c))) else ((zgi c x0 3 5).bind fun v7 => if v7 ≤ x3 then (some (.inr (x0, c))) else ((zgi c x0 3 3).bind fun v9 => if 200 < v9 then (some (.inr (x0, c))) else ((zgr c x0 3 4).bind fun v11 => (zai c v11 1 x3).bind fun v12 => (f_Tokens_isBlank nf v12 c).bind fun q13 => if q13.1 = 0 then ((zob q13.2 x0 3).bind fun w16 => (f_Tokens_takeToken nf x0 x3 q13.2).bind fun q15 => f_Tokens_split_75 nf x0 q15.1 x4 q15.2) else (f_Tokens_split_75 nf x0 (x3 + 1) x4 q13.2))))
def f_Tokens_split_81 (nf : Nat) (x0 : Nat) (c : Zc) : Option (Zc) :=
  (zgr c x0 3 0).bind fun v17 => (zgi c x0 3 3).bind fun v18 => (zsi c v17 0 v18 1).bind fun c19 => (zgr c19 x0 3 1).bind fun v20 => (zgi c19 x0 3 3).bind fun v21 => (zsi c19 v20 0 v21 0).bind fun c22 => (zgr c22 x0 3 2).bind fun v23 => (zgi c22 x0 3 3).bind fun v24 => (zgi c22 x0 3 5).bind fun v25 => (zsi c22 v23 0 v24 v25).bind fun c26 => some c26
def f_Tokens_split_25 (nf : Nat) (x0 : Nat) (x3 : Int32) (x4 : Int32) (c : Zc) : Option (Zc) :=
  (zlp (fun a => g_Tokens_split_25 nf a.1 a.2.1 a.2.2.1 a.2.2.2) nf (x0, x3, x4, c)).bind fun b => f_Tokens_split_81 nf b.1 b.2
def f_Tokens_split (nf : Nat) (a0 : Nat) (a1 : Nat) (a2 : Int32) (c : Zc) : Option (Zc) :=
  (zpv c a0 3 4 (.ref a1)).bind fun c1 => (zlen c1 a1 1).bind fun v2 => (f_Math_min_0 nf a2 v2 c1).bind fun q3 => (zpv q3.2 a0 3 5 (.int q3.1)).bind fun c4 => (zpv c4 a0 3 3 (.int 0)).bind fun c5 => f_Tokens_split_25 nf a0 0 0 c5
set_option maxRecDepth 100000 in
set_option maxHeartbeats 4000000 in
theorem t_Tokens_split_75  (X : zX p s m args cd D cid B bb_Tokens_split 5 rr_Tokens zT) (H : zH s meth B n0 none "split") {nf : Nat} {x0 : Nat} {x3 : Int32} {x4 : Int32} {c : Zc} {r : (Nat × Int32 × Int32 × Zc) ⊕ (Nat × Zc)} (h : f_Tokens_split_75 nf x0 x3 x4 c = some r) (k0 : ∀ a, r = .inl a → (fun a : Nat × Int32 × Int32 × Zc => Zz p l e (zRm 8 179 0 0) s m args below meth cd Q D cid B 5 0 0 a.2.2.2 25 [(0, .ref a.1), (3, .int a.2.1), (4, .int a.2.2.1)] []) a) (k1 : ∀ b, r = .inr b → (fun b : Nat × Zc => Zz p l e (zRm 8 179 0 0) s m args below meth cd Q D cid B 5 0 0 b.2 81 [(0, .ref b.1)] []) b) : Zz p l e (zRm 8 179 0 0) s m args below meth cd Q D cid B 5 0 0 c 75 [(0, .ref x0), (3, .int x3), (4, .int x4)] [] := by
  unfold f_Tokens_split_75 at h
  refine z_iinc (v := (x4 + 1)) (lv' := [(4, .int (x4 + 1)), (0, .ref x0), (3, .int x3)]) X dd_Tokens_split_75 2 rfl rfl (by decide) rfl ?_
  refine z_goto (tgt := 25) X dd_Tokens_split_78 (by decide) ?_
  refine z_sub [1, 2, 0] rfl ?_
  obtain rfl := Option.some.inj h
  exact k0 _ rfl
set_option maxRecDepth 100000 in
set_option maxHeartbeats 4000000 in
theorem u_Tokens_split_25  (X : zX p s m args cd D cid B bb_Tokens_split 5 rr_Tokens zT) (H : zH s meth B n0 none "split") {nf : Nat} {x0 : Nat} {x3 : Int32} {x4 : Int32} {c : Zc} {r : (Nat × Int32 × Int32 × Zc) ⊕ (Nat × Zc)} (h : g_Tokens_split_25 nf x0 x3 x4 c = some r) (k0 : ∀ a, r = .inl a → (fun a : Nat × Int32 × Int32 × Zc => Zz p l e (zRm 8 179 0 0) s m args below meth cd Q D cid B 5 0 0 a.2.2.2 25 [(0, .ref a.1), (3, .int a.2.1), (4, .int a.2.2.1)] []) a) (k1 : ∀ b, r = .inr b → (fun b : Nat × Zc => Zz p l e (zRm 8 179 0 0) s m args below meth cd Q D cid B 5 0 0 b.2 81 [(0, .ref b.1)] []) b) : Zz p l e (zRm 8 179 0 0) s m args below meth cd Q D cid B 5 0 0 c 25 [(0, .ref x0), (3, .int x3), (4, .int x4)] [] := by
  unfold g_Tokens_split_25 at h
  refine z_iload X dd_Tokens_split_25 2 rfl ?_
  refine z_sipush (v := 1500) X dd_Tokens_split_27 (by decide) ?_
  refine z_icmp_ge (tgt := 81) X dd_Tokens_split_30 (by decide) (fun q6 => ?_) (fun q6 => ?_)
  · rw [if_pos q6] at h
    refine z_sub [0] rfl ?_
    obtain rfl := Option.some.inj h
    exact k1 _ rfl
  · rw [if_neg q6] at h
    refine z_iload_n X dd_Tokens_split_33 rfl 1 rfl ?_
    refine z_aload_n X dd_Tokens_split_34 rfl 0 rfl ?_
    obtain ⟨v7, ev7, h⟩ := zb h
    refine z_get (j := 5) X dd_Tokens_split_35 kc_3 ki_3 (by decide) km_425 (zgi_v ev7) ?_
    refine z_icmp_ge (tgt := 81) X dd_Tokens_split_38 (by decide) (fun q8 => ?_) (fun q8 => ?_)
    · rw [if_pos q8] at h
      refine z_sub [0] rfl ?_
      obtain rfl := Option.some.inj h
      exact k1 _ rfl
    · rw [if_neg q8] at h
      refine z_aload_n X dd_Tokens_split_41 rfl 0 rfl ?_
      obtain ⟨v9, ev9, h⟩ := zb h
      refine z_get (j := 3) X dd_Tokens_split_42 kc_3 ki_3 (by decide) km_422 (zgi_v ev9) ?_
      refine z_sipush (v := 200) X dd_Tokens_split_45 (by decide) ?_
      refine z_icmp_gt (tgt := 81) X dd_Tokens_split_48 (by decide) (fun q10 => ?_) (fun q10 => ?_)
      · rw [if_pos q10] at h
        refine z_sub [0] rfl ?_
        obtain rfl := Option.some.inj h
        exact k1 _ rfl
      · rw [if_neg q10] at h
        refine z_aload_n X dd_Tokens_split_51 rfl 0 rfl ?_
        obtain ⟨v11, ev11, h⟩ := zb h
        refine z_get (j := 4) X dd_Tokens_split_52 kc_3 ki_3 (by decide) km_424 (zgr_v ev11) ?_
        refine z_iload_n X dd_Tokens_split_55 rfl 1 rfl ?_
        obtain ⟨v12, ev12, h⟩ := zb h
        refine z_baload X dd_Tokens_split_56 rfl ev12 ?_
        obtain ⟨q13, eq13, h⟩ := zb h
        refine z_callSi X [.int v12] rfl dd_Tokens_split_57 (c_Tokens_isBlank l eq13) (va_cwS 1 X.1.2.2.2.2 (zg_S km_844 km_845 km_131 km_846) rfl rfl rfl (by decide +kernel) ⟨Nat.le_of_ble_eq_true rfl, Nat.le_of_ble_eq_true rfl⟩) rfl (Nat.le_of_ble_eq_true rfl) ⟨Nat.le_of_ble_eq_true rfl, Nat.le_of_ble_eq_true rfl⟩ ?_
        refine z_if_eq (tgt := 69) X dd_Tokens_split_60 (by decide) (fun q14 => ?_) (fun q14 => ?_)
        · rw [if_pos q14] at h
          refine z_aload_n X dd_Tokens_split_69 rfl 0 rfl ?_
          refine z_iload_n X dd_Tokens_split_70 rfl 1 rfl ?_
          obtain ⟨w16, ew16, h⟩ := zb h
          obtain ⟨q15, eq15, h⟩ := zb h
          refine z_callVi X [.int x3] rfl dd_Tokens_split_71 (c_Tokens_takeToken l eq15) (cwV 1 X.1.2.2.2.2 (zg_V km_847 km_849 km_2 km_131 km_850) rfl rfl rfl (by decide +kernel) ⟨Nat.le_of_ble_eq_true rfl, Nat.le_of_ble_eq_true rfl⟩) (zob_s ew16) kc_3 rfl (Nat.le_of_ble_eq_true rfl) ⟨Nat.le_of_ble_eq_true rfl, Nat.le_of_ble_eq_true rfl⟩ ?_
          refine z_istore_n (lv' := [(3, .int q15.1), (0, .ref x0), (4, .int x4)]) X dd_Tokens_split_74 rfl (by decide) rfl ?_
          refine z_sub [1, 0, 2] rfl ?_
          exact t_Tokens_split_75 X H h k0 k1
        · rw [if_neg q14] at h
          refine z_iinc (v := (x3 + 1)) (lv' := [(3, .int (x3 + 1)), (0, .ref x0), (4, .int x4)]) X dd_Tokens_split_63 1 rfl rfl (by decide) rfl ?_
          refine z_goto (tgt := 75) X dd_Tokens_split_66 (by decide) ?_
          refine z_sub [1, 0, 2] rfl ?_
          exact t_Tokens_split_75 X H h k0 k1
set_option maxRecDepth 100000 in
set_option maxHeartbeats 4000000 in
theorem t_Tokens_split_81  (X : zX p s m args cd D cid B bb_Tokens_split 5 rr_Tokens zT) (H : zH s meth B n0 none "split") {nf : Nat} {x0 : Nat} {c : Zc} {res : Zc} (h : f_Tokens_split_81 nf x0 c = some res) : Zz p l e (zRm 8 179 0 0) s m args below meth cd (MQ below (zQv D cid B res n0 0) args s 0 0 (fun q => B ≤ q)) D cid B 5 0 0 c 81 [(0, .ref x0)] [] := by
  unfold f_Tokens_split_81 at h
  refine z_aload_n X dd_Tokens_split_81 rfl 0 rfl ?_
  obtain ⟨v17, ev17, h⟩ := zb h
  refine z_get (j := 0) X dd_Tokens_split_82 kc_3 ki_3 (by decide) km_416 (zgr_v ev17) ?_
  refine z_aload_n X dd_Tokens_split_85 rfl 0 rfl ?_
  obtain ⟨v18, ev18, h⟩ := zb h
  refine z_get (j := 3) X dd_Tokens_split_86 kc_3 ki_3 (by decide) km_422 (zgi_v ev18) ?_
  refine z_iconst (v := 1) X dd_Tokens_split_89 (by decide) ?_
  obtain ⟨c19, ec19, h⟩ := zb h
  refine z_iastore X dd_Tokens_split_90 rfl ec19 ?_
  refine z_aload_n X dd_Tokens_split_91 rfl 0 rfl ?_
  obtain ⟨v20, ev20, h⟩ := zb h
  refine z_get (j := 1) X dd_Tokens_split_92 kc_3 ki_3 (by decide) km_418 (zgr_v ev20) ?_
  refine z_aload_n X dd_Tokens_split_95 rfl 0 rfl ?_
  obtain ⟨v21, ev21, h⟩ := zb h
  refine z_get (j := 3) X dd_Tokens_split_96 kc_3 ki_3 (by decide) km_422 (zgi_v ev21) ?_
  refine z_iconst (v := 0) X dd_Tokens_split_99 (by decide) ?_
  obtain ⟨c22, ec22, h⟩ := zb h
  refine z_iastore X dd_Tokens_split_100 rfl ec22 ?_
  refine z_aload_n X dd_Tokens_split_101 rfl 0 rfl ?_
  obtain ⟨v23, ev23, h⟩ := zb h
  refine z_get (j := 2) X dd_Tokens_split_102 kc_3 ki_3 (by decide) km_420 (zgr_v ev23) ?_
  refine z_aload_n X dd_Tokens_split_105 rfl 0 rfl ?_
  obtain ⟨v24, ev24, h⟩ := zb h
  refine z_get (j := 3) X dd_Tokens_split_106 kc_3 ki_3 (by decide) km_422 (zgi_v ev24) ?_
  refine z_aload_n X dd_Tokens_split_109 rfl 0 rfl ?_
  obtain ⟨v25, ev25, h⟩ := zb h
  refine z_get (j := 5) X dd_Tokens_split_110 kc_3 ki_3 (by decide) km_425 (zgi_v ev25) ?_
  obtain ⟨c26, ec26, h⟩ := zb h
  refine z_iastore X dd_Tokens_split_113 rfl ec26 ?_
  obtain rfl := Option.some.inj h
  exact z_vret X H.1 H.2.1 H.2.2.1 dd_Tokens_split_114
set_option maxRecDepth 100000 in
set_option maxHeartbeats 4000000 in
theorem t_Tokens_split_25  (X : zX p s m args cd D cid B bb_Tokens_split 5 rr_Tokens zT) (H : zH s meth B n0 none "split") {nf : Nat} {x0 : Nat} {x3 : Int32} {x4 : Int32} {c : Zc} {res : Zc} (h : f_Tokens_split_25 nf x0 x3 x4 c = some res) : Zz p l e (zRm 8 179 0 0) s m args below meth cd (MQ below (zQv D cid B res n0 0) args s 0 0 (fun q => B ≤ q)) D cid B 5 0 0 c 25 [(0, .ref x0), (3, .int x3), (4, .int x4)] [] := by
  unfold f_Tokens_split_25 at h
  obtain ⟨b, eb, h⟩ := zb h
  refine zlp_ok (P := fun a : Nat × Int32 × Int32 × Zc => Zz p l e (zRm 8 179 0 0) s m args below meth cd _ D cid B 5 0 0 a.2.2.2 25 [(0, .ref a.1), (3, .int a.2.1), (4, .int a.2.2.1)] []) (G := fun b : Nat × Zc => Zz p l e (zRm 8 179 0 0) s m args below meth cd _ D cid B 5 0 0 b.2 81 [(0, .ref b.1)] []) (fun a r ha k0 k1 => u_Tokens_split_25 X H ha k0 k1) nf _ b eb ?_
  exact t_Tokens_split_81 X H h
set_option maxRecDepth 100000 in
set_option maxHeartbeats 4000000 in
theorem c_Tokens_split (l : Launch) {nf : Nat} {a0 : Nat} {a1 : Nat} {a2 : Int32} {c : Zc} {res : Zc} (h : f_Tokens_split nf a0 a1 a2 c = some res) : zM l yy_Tokens_split ww_Tokens_split 8 179 0 0 [.ref a0, .ref a1, .int a2] c (fun D cid B => zQv D cid B res c.length 0) := by
  refine z_met (cc := bb_Tokens_split) (maxL := 5) (ret := none) (by decide +kernel) rfl (Nat.le_of_ble_eq_true rfl) ?_
  intro p e s m args below meth cd D cid B X h1 h2 h3 h4
  have X : zX p s m args cd D cid B bb_Tokens_split 5 rr_Tokens zT := X
  have H : zH s meth B c.length none "split" := ⟨h1, h2, h4, h3⟩
  unfold f_Tokens_split at h
  show Zz p l e (zRm 8 179 0 0) s m args below meth cd _ D cid B 5 0 0 c 0 [(0, .ref a0), (1, .ref a1), (2, .int a2)] []
  refine z_aload_n X dd_Tokens_split_0 rfl 0 rfl ?_
  refine z_aload_n X dd_Tokens_split_1 rfl 1 rfl ?_
  obtain ⟨c1, ec1, h⟩ := zb h
  refine z_put (j := 4) X dd_Tokens_split_2 kc_3 ki_3 tt_Tokens tk_Tokens nn_Tokens (by decide) km_424 rfl (tk_Tokens 4 (by decide)) rfl rfl ec1 ?_
  refine z_aload_n X dd_Tokens_split_5 rfl 0 rfl ?_
  refine z_iload_n X dd_Tokens_split_6 rfl 2 rfl ?_
  refine z_aload_n X dd_Tokens_split_7 rfl 1 rfl ?_
  obtain ⟨v2, ev2, h⟩ := zb h
  refine z_alen X dd_Tokens_split_8 rfl ev2 ?_
  obtain ⟨q3, eq3, h⟩ := zb h
  refine z_callSi X [.int a2, .int v2] rfl dd_Tokens_split_9 (c_Math_min_0 l eq3) (va_cwS 2 X.1.2.2.2.2 (zg_S km_841 km_842 km_139 km_843) rfl rfl rfl (by decide +kernel) ⟨Nat.le_of_ble_eq_true rfl, Nat.le_of_ble_eq_true rfl⟩) rfl (Nat.le_of_ble_eq_true rfl) ⟨Nat.le_of_ble_eq_true rfl, Nat.le_of_ble_eq_true rfl⟩ ?_
  obtain ⟨c4, ec4, h⟩ := zb h
  refine z_put (j := 5) X dd_Tokens_split_12 kc_3 ki_3 tt_Tokens tk_Tokens nn_Tokens (by decide) km_425 rfl (tk_Tokens 5 (by decide)) rfl rfl ec4 ?_
  refine z_aload_n X dd_Tokens_split_15 rfl 0 rfl ?_
  refine z_iconst (v := 0) X dd_Tokens_split_16 (by decide) ?_
  obtain ⟨c5, ec5, h⟩ := zb h
  refine z_put (j := 3) X dd_Tokens_split_17 kc_3 ki_3 tt_Tokens tk_Tokens nn_Tokens (by decide) km_422 rfl (tk_Tokens 3 (by decide)) rfl rfl ec5 ?_
  refine z_iconst (v := 0) X dd_Tokens_split_20 (by decide) ?_
  refine z_istore_n (lv' := [(3, .int 0), (0, .ref a0), (1, .ref a1), (2, .int a2)]) X dd_Tokens_split_21 rfl (by decide) rfl ?_
  refine z_iconst (v := 0) X dd_Tokens_split_22 (by decide) ?_
  refine z_istore (lv' := [(4, .int 0), (3, .int 0), (0, .ref a0), (1, .ref a1), (2, .int a2)]) X dd_Tokens_split_23 (by decide) rfl ?_
  refine z_sub [2, 1, 0] rfl ?_
  exact t_Tokens_split_25 X H h
theorem dd_Operators_init_0 : decode bb_Operators_init 0 = .ok (.aload_n 0, 1) := by decide +kernel
theorem dd_Operators_init_1 : decode bb_Operators_init 1 = .ok (.invokespecial 3, 3) := by decide +kernel
theorem dd_Operators_init_4 : decode bb_Operators_init 4 = .ok (.aload_n 0, 1) := by decide +kernel
theorem dd_Operators_init_5 : decode bb_Operators_init 5 = .ok (.iconst 0, 1) := by decide +kernel
theorem dd_Operators_init_6 : decode bb_Operators_init 6 = .ok (.putfield 9, 3) := by decide +kernel
theorem dd_Operators_init_9 : decode bb_Operators_init 9 = .ok (.aload_n 0, 1) := by decide +kernel
theorem dd_Operators_init_10 : decode bb_Operators_init 10 = .ok (.iconst 0, 1) := by decide +kernel
theorem dd_Operators_init_11 : decode bb_Operators_init 11 = .ok (.putfield 15, 3) := by decide +kernel
theorem dd_Operators_init_14 : decode bb_Operators_init 14 = .ok (.aload_n 0, 1) := by decide +kernel
theorem dd_Operators_init_15 : decode bb_Operators_init 15 = .ok (.iconst 0, 1) := by decide +kernel
theorem dd_Operators_init_16 : decode bb_Operators_init 16 = .ok (.putfield 18, 3) := by decide +kernel
theorem dd_Operators_init_19 : decode bb_Operators_init 19 = .ok (.aload_n 0, 1) := by decide +kernel
theorem dd_Operators_init_20 : decode bb_Operators_init 20 = .ok (.iconst 0, 1) := by decide +kernel
theorem dd_Operators_init_21 : decode bb_Operators_init 21 = .ok (.putfield 21, 3) := by decide +kernel
theorem dd_Operators_init_24 : decode bb_Operators_init 24 = .ok (.aload_n 0, 1) := by decide +kernel
theorem dd_Operators_init_25 : decode bb_Operators_init 25 = .ok (.bipush 80, 2) := by decide +kernel
theorem dd_Operators_init_27 : decode bb_Operators_init 27 = .ok (.newarray .int, 2) := by decide +kernel
theorem dd_Operators_init_29 : decode bb_Operators_init 29 = .ok (.putfield 24, 3) := by decide +kernel
theorem dd_Operators_init_32 : decode bb_Operators_init 32 = .ok (.aload_n 0, 1) := by decide +kernel
theorem dd_Operators_init_33 : decode bb_Operators_init 33 = .ok (.bipush 80, 2) := by decide +kernel
theorem dd_Operators_init_35 : decode bb_Operators_init 35 = .ok (.newarray .int, 2) := by decide +kernel
theorem dd_Operators_init_37 : decode bb_Operators_init 37 = .ok (.putfield 28, 3) := by decide +kernel
theorem dd_Operators_init_40 : decode bb_Operators_init 40 = .ok (.aload_n 0, 1) := by decide +kernel
theorem dd_Operators_init_41 : decode bb_Operators_init 41 = .ok (.bipush 80, 2) := by decide +kernel
theorem dd_Operators_init_43 : decode bb_Operators_init 43 = .ok (.newarray .int, 2) := by decide +kernel
theorem dd_Operators_init_45 : decode bb_Operators_init 45 = .ok (.putfield 31, 3) := by decide +kernel
theorem dd_Operators_init_48 : decode bb_Operators_init 48 = .ok (.aload_n 0, 1) := by decide +kernel
theorem dd_Operators_init_49 : decode bb_Operators_init 49 = .ok (.aload_n 1, 1) := by decide +kernel
theorem dd_Operators_init_50 : decode bb_Operators_init 50 = .ok (.putfield 34, 3) := by decide +kernel
theorem dd_Operators_init_53 : decode bb_Operators_init 53 = .ok (.return_, 1) := by decide +kernel
def f_Operators_init (nf mc ms : Nat) (a0 : Nat) (a1 : Nat) (c : Zc) : Option (Zc) :=
  (zpv c a0 4 0 (.int 0)).bind fun c1 => (zpv c1 a0 4 1 (.int 0)).bind fun c2 => (zpv c2 a0 4 2 (.int 0)).bind fun c3 => (zpv c3 a0 4 4 (.int 0)).bind fun c4 => (zlim (0 + 1) (0 + 80) mc ms).bind fun u6 => (znw c4 (.inl (0, 80, .inl (fun _ => 0)))).bind fun c5 => (zpv c5 a0 4 5 (.ref (List.length c4))).bind fun c7 => (zlim ((0 + 1) + 1) ((0 + 80) + 80) mc ms).bind fun u9 => (znw c7 (.inl (0, 80, .inl (fun _ => 0)))).bind fun c8 => (zpv c8 a0 4 6 (.ref (List.length c7))).bind fun c10 => (zlim (((0 + 1) + 1) + 1) (((0 + 80) + 80) + 80) mc ms).bind fun u12 => (znw c10 (.inl (0, 80, .inl (fun _ => 0)))).bind fun c11 => (zpv c11 a0 4 7 (.ref (List.length c10))).bind fun c13 => (zpv c13 a0 4 3 (.ref a1)).bind fun c14 => (zend (((0 + 1) + 1) + 1) (((0 + 80) + 80) + 80) mc ms).bind fun u15 => some c14
set_option maxRecDepth 100000 in
set_option maxHeartbeats 4000000 in
theorem c_Operators_init (l : Launch) {nf mc ms : Nat} {a0 : Nat} {a1 : Nat} {c : Zc} {res : Zc} (h : f_Operators_init nf mc ms a0 a1 c = some res) : zM l yy_Operators_init ww_Operators_init 1 20 mc ms [.ref a0, .ref a1] c (fun D cid B => zQv D cid B res c.length mc) := by
  refine z_met (cc := bb_Operators_init) (maxL := 2) (ret := none) (by decide +kernel) rfl (Nat.le_of_ble_eq_true rfl) ?_
  intro p e s m args below meth cd D cid B X h1 h2 h3 h4
  have X : zX p s m args cd D cid B bb_Operators_init 2 rr_Operators zT := X
  have H : zH s meth B c.length none "<init>" := ⟨h1, h2, h4, h3⟩
  unfold f_Operators_init at h
  show Zz p l e (zRm 1 20 mc ms) s m args below meth cd _ D cid B 2 0 0 c 0 [(0, .ref a0), (1, .ref a1)] []
  refine z_aload_n X dd_Operators_init_0 rfl 0 rfl ?_
  refine z_objInit X dd_Operators_init_1 km_444 km_153 km_154 (Nat.le_of_ble_eq_true rfl) (Nat.le_of_ble_eq_true rfl) ?_
  refine z_aload_n X dd_Operators_init_4 rfl 0 rfl ?_
  refine z_iconst (v := 0) X dd_Operators_init_5 (by decide) ?_
  obtain ⟨c1, ec1, h⟩ := zb h
  refine z_put (j := 0) X dd_Operators_init_6 kc_4 ki_4 tt_Operators tk_Operators nn_Operators (by decide) km_445 rfl (tk_Operators 0 (by decide)) rfl rfl ec1 ?_
  refine z_aload_n X dd_Operators_init_9 rfl 0 rfl ?_
  refine z_iconst (v := 0) X dd_Operators_init_10 (by decide) ?_
  obtain ⟨c2, ec2, h⟩ := zb h
  refine z_put (j := 1) X dd_Operators_init_11 kc_4 ki_4 tt_Operators tk_Operators nn_Operators (by decide) km_447 rfl (tk_Operators 1 (by decide)) rfl rfl ec2 ?_
  refine z_aload_n X dd_Operators_init_14 rfl 0 rfl ?_
  refine z_iconst (v := 0) X dd_Operators_init_15 (by decide) ?_
  obtain ⟨c3, ec3, h⟩ := zb h
  refine z_put (j := 2) X dd_Operators_init_16 kc_4 ki_4 tt_Operators tk_Operators nn_Operators (by decide) km_449 rfl (tk_Operators 2 (by decide)) rfl rfl ec3 ?_
  refine z_aload_n X dd_Operators_init_19 rfl 0 rfl ?_
  refine z_iconst (v := 0) X dd_Operators_init_20 (by decide) ?_
  obtain ⟨c4, ec4, h⟩ := zb h
  refine z_put (j := 4) X dd_Operators_init_21 kc_4 ki_4 tt_Operators tk_Operators nn_Operators (by decide) km_452 rfl (tk_Operators 4 (by decide)) rfl rfl ec4 ?_
  refine z_aload_n X dd_Operators_init_24 rfl 0 rfl ?_
  refine z_bipush (v := 80) X dd_Operators_init_25 (by decide) ?_
  obtain ⟨u6, eu6, h⟩ := zb h
  obtain ⟨c5, ec5, h⟩ := zb h
  refine z_newaC (ty := .int) X dd_Operators_init_27 rfl km_206 rfl (fun _ q => by cases q) (fun _ => rfl) (fun _ => rfl) (by decide) (by decide) (by decide) (zlim_s eu6).1 (zlim_s eu6).2 ec5 ?_
  obtain ⟨c7, ec7, h⟩ := zb h
  refine z_putF (j := 5) X dd_Operators_init_29 kc_4 ki_4 tt_Operators tk_Operators nn_Operators (by decide) km_453 rfl H.2.2.2 rfl (tk_Operators 5 (by decide)) rfl rfl ec7 ?_
  refine z_aload_n X dd_Operators_init_32 rfl 0 rfl ?_
  refine z_bipush (v := 80) X dd_Operators_init_33 (by decide) ?_
  obtain ⟨u9, eu9, h⟩ := zb h
  obtain ⟨c8, ec8, h⟩ := zb h
  refine z_newaC (ty := .int) X dd_Operators_init_35 rfl km_206 rfl (fun _ q => by cases q) (fun _ => rfl) (fun _ => rfl) (by decide) (by decide) (by decide) (zlim_s eu9).1 (zlim_s eu9).2 ec8 ?_
  obtain ⟨c10, ec10, h⟩ := zb h
  refine z_putF (j := 6) X dd_Operators_init_37 kc_4 ki_4 tt_Operators tk_Operators nn_Operators (by decide) km_454 rfl H.2.2.2 rfl (tk_Operators 6 (by decide)) rfl rfl ec10 ?_
  refine z_aload_n X dd_Operators_init_40 rfl 0 rfl ?_
  refine z_bipush (v := 80) X dd_Operators_init_41 (by decide) ?_
  obtain ⟨u12, eu12, h⟩ := zb h
  obtain ⟨c11, ec11, h⟩ := zb h
  refine z_newaC (ty := .int) X dd_Operators_init_43 rfl km_206 rfl (fun _ q => by cases q) (fun _ => rfl) (fun _ => rfl) (by decide) (by decide) (by decide) (zlim_s eu12).1 (zlim_s eu12).2 ec11 ?_
  obtain ⟨c13, ec13, h⟩ := zb h
  refine z_putF (j := 7) X dd_Operators_init_45 kc_4 ki_4 tt_Operators tk_Operators nn_Operators (by decide) km_455 rfl H.2.2.2 rfl (tk_Operators 7 (by decide)) rfl rfl ec13 ?_
  refine z_aload_n X dd_Operators_init_48 rfl 0 rfl ?_
  refine z_aload_n X dd_Operators_init_49 rfl 1 rfl ?_
  obtain ⟨c14, ec14, h⟩ := zb h
  refine z_put (j := 3) X dd_Operators_init_50 kc_4 ki_4 tt_Operators tk_Operators nn_Operators (by decide) km_451 rfl (tk_Operators 3 (by decide)) rfl rfl ec14 ?_
  obtain ⟨u15, eu15, h⟩ := zb h
  refine z_wid (zend_s eu15).1 (zend_s eu15).2 ?_
  obtain rfl := Option.some.inj h
  exact z_vret X H.1 H.2.1 H.2.2.1 dd_Operators_init_53
theorem dd_Operators_begin_0 : decode bb_Operators_begin 0 = .ok (.aload_n 0, 1) := by decide +kernel
theorem dd_Operators_begin_1 : decode bb_Operators_begin 1 = .ok (.aload_n 1, 1) := by decide +kernel
theorem dd_Operators_begin_2 : decode bb_Operators_begin 2 = .ok (.putfield 34, 3) := by decide +kernel
theorem dd_Operators_begin_5 : decode bb_Operators_begin 5 = .ok (.aload_n 0, 1) := by decide +kernel
theorem dd_Operators_begin_6 : decode bb_Operators_begin 6 = .ok (.iconst 0, 1) := by decide +kernel
theorem dd_Operators_begin_7 : decode bb_Operators_begin 7 = .ok (.putfield 9, 3) := by decide +kernel
theorem dd_Operators_begin_10 : decode bb_Operators_begin 10 = .ok (.aload_n 0, 1) := by decide +kernel
theorem dd_Operators_begin_11 : decode bb_Operators_begin 11 = .ok (.iconst 0, 1) := by decide +kernel
theorem dd_Operators_begin_12 : decode bb_Operators_begin 12 = .ok (.putfield 15, 3) := by decide +kernel
theorem dd_Operators_begin_15 : decode bb_Operators_begin 15 = .ok (.aload_n 0, 1) := by decide +kernel
theorem dd_Operators_begin_16 : decode bb_Operators_begin 16 = .ok (.iconst 0, 1) := by decide +kernel
theorem dd_Operators_begin_17 : decode bb_Operators_begin 17 = .ok (.putfield 18, 3) := by decide +kernel
theorem dd_Operators_begin_20 : decode bb_Operators_begin 20 = .ok (.aload_n 0, 1) := by decide +kernel
theorem dd_Operators_begin_21 : decode bb_Operators_begin 21 = .ok (.iconst 0, 1) := by decide +kernel
theorem dd_Operators_begin_22 : decode bb_Operators_begin 22 = .ok (.putfield 21, 3) := by decide +kernel
theorem dd_Operators_begin_25 : decode bb_Operators_begin 25 = .ok (.return_, 1) := by decide +kernel
def f_Operators_begin (nf : Nat) (a0 : Nat) (a1 : Nat) (c : Zc) : Option (Zc) :=
  (zpv c a0 4 3 (.ref a1)).bind fun c1 => (zpv c1 a0 4 0 (.int 0)).bind fun c2 => (zpv c2 a0 4 1 (.int 0)).bind fun c3 => (zpv c3 a0 4 2 (.int 0)).bind fun c4 => (zpv c4 a0 4 4 (.int 0)).bind fun c5 => some c5
set_option maxRecDepth 100000 in
set_option maxHeartbeats 4000000 in
theorem c_Operators_begin (l : Launch) {nf : Nat} {a0 : Nat} {a1 : Nat} {c : Zc} {res : Zc} (h : f_Operators_begin nf a0 a1 c = some res) : zM l yy_Operators_begin ww_Operators_begin 0 0 0 0 [.ref a0, .ref a1] c (fun D cid B => zQv D cid B res c.length 0) := by
  refine z_met (cc := bb_Operators_begin) (maxL := 2) (ret := none) (by decide +kernel) rfl (Nat.le_of_ble_eq_true rfl) ?_
  intro p e s m args below meth cd D cid B X h1 h2 h3 h4
  have X : zX p s m args cd D cid B bb_Operators_begin 2 rr_Operators zT := X
  have H : zH s meth B c.length none "begin" := ⟨h1, h2, h4, h3⟩
  unfold f_Operators_begin at h
  show Zz p l e (zRm 0 0 0 0) s m args below meth cd _ D cid B 2 0 0 c 0 [(0, .ref a0), (1, .ref a1)] []
  refine z_aload_n X dd_Operators_begin_0 rfl 0 rfl ?_
  refine z_aload_n X dd_Operators_begin_1 rfl 1 rfl ?_
  obtain ⟨c1, ec1, h⟩ := zb h
  refine z_put (j := 3) X dd_Operators_begin_2 kc_4 ki_4 tt_Operators tk_Operators nn_Operators (by decide) km_451 rfl (tk_Operators 3 (by decide)) rfl rfl ec1 ?_
  refine z_aload_n X dd_Operators_begin_5 rfl 0 rfl ?_
  refine z_iconst (v := 0) X dd_Operators_begin_6 (by decide) ?_
  obtain ⟨c2, ec2, h⟩ := zb h
  refine z_put (j := 0) X dd_Operators_begin_7 kc_4 ki_4 tt_Operators tk_Operators nn_Operators (by decide) km_445 rfl (tk_Operators 0 (by decide)) rfl rfl ec2 ?_
  refine z_aload_n X dd_Operators_begin_10 rfl 0 rfl ?_
  refine z_iconst (v := 0) X dd_Operators_begin_11 (by decide) ?_
  obtain ⟨c3, ec3, h⟩ := zb h
  refine z_put (j := 1) X dd_Operators_begin_12 kc_4 ki_4 tt_Operators tk_Operators nn_Operators (by decide) km_447 rfl (tk_Operators 1 (by decide)) rfl rfl ec3 ?_
  refine z_aload_n X dd_Operators_begin_15 rfl 0 rfl ?_
  refine z_iconst (v := 0) X dd_Operators_begin_16 (by decide) ?_
  obtain ⟨c4, ec4, h⟩ := zb h
  refine z_put (j := 2) X dd_Operators_begin_17 kc_4 ki_4 tt_Operators tk_Operators nn_Operators (by decide) km_449 rfl (tk_Operators 2 (by decide)) rfl rfl ec4 ?_
  refine z_aload_n X dd_Operators_begin_20 rfl 0 rfl ?_
  refine z_iconst (v := 0) X dd_Operators_begin_21 (by decide) ?_
  obtain ⟨c5, ec5, h⟩ := zb h
  refine z_put (j := 4) X dd_Operators_begin_22 kc_4 ki_4 tt_Operators tk_Operators nn_Operators (by decide) km_452 rfl (tk_Operators 4 (by decide)) rfl rfl ec5 ?_
  obtain rfl := Option.some.inj h
  exact z_vret X H.1 H.2.1 H.2.2.1 dd_Operators_begin_25
theorem dd_Operators_unwind_0 : decode bb_Operators_unwind 0 = .ok (.iconst 0, 1) := by decide +kernel
theorem dd_Operators_unwind_1 : decode bb_Operators_unwind 1 = .ok (.istore_n 2, 1) := by decide +kernel
theorem dd_Operators_unwind_2 : decode bb_Operators_unwind 2 = .ok (.iload_n 2, 1) := by decide +kernel
theorem dd_Operators_unwind_3 : decode bb_Operators_unwind 3 = .ok (.bipush 80, 2) := by decide +kernel
theorem dd_Operators_unwind_5 : decode bb_Operators_unwind 5 = .ok (.if_icmp .ge 144, 3) := by decide +kernel
theorem dd_Operators_unwind_8 : decode bb_Operators_unwind 8 = .ok (.aload_n 0, 1) := by decide +kernel
theorem dd_Operators_unwind_9 : decode bb_Operators_unwind 9 = .ok (.getfield 21, 3) := by decide +kernel
theorem dd_Operators_unwind_12 : decode bb_Operators_unwind 12 = .ok (.ifCond .le 137, 3) := by decide +kernel
theorem dd_Operators_unwind_15 : decode bb_Operators_unwind 15 = .ok (.aload_n 0, 1) := by decide +kernel
theorem dd_Operators_unwind_16 : decode bb_Operators_unwind 16 = .ok (.getfield 24, 3) := by decide +kernel
theorem dd_Operators_unwind_19 : decode bb_Operators_unwind 19 = .ok (.aload_n 0, 1) := by decide +kernel
theorem dd_Operators_unwind_20 : decode bb_Operators_unwind 20 = .ok (.getfield 21, 3) := by decide +kernel
theorem dd_Operators_unwind_23 : decode bb_Operators_unwind 23 = .ok (.iconst 1, 1) := by decide +kernel
theorem dd_Operators_unwind_24 : decode bb_Operators_unwind 24 = .ok (.isub, 1) := by decide +kernel
theorem dd_Operators_unwind_25 : decode bb_Operators_unwind 25 = .ok (.iaload, 1) := by decide +kernel
theorem dd_Operators_unwind_26 : decode bb_Operators_unwind 26 = .ok (.iload_n 1, 1) := by decide +kernel
theorem dd_Operators_unwind_27 : decode bb_Operators_unwind 27 = .ok (.if_icmp .lt 122, 3) := by decide +kernel
theorem dd_Operators_unwind_30 : decode bb_Operators_unwind 30 = .ok (.aload_n 0, 1) := by decide +kernel
theorem dd_Operators_unwind_31 : decode bb_Operators_unwind 31 = .ok (.dup, 1) := by decide +kernel
theorem dd_Operators_unwind_32 : decode bb_Operators_unwind 32 = .ok (.getfield 21, 3) := by decide +kernel
theorem dd_Operators_unwind_35 : decode bb_Operators_unwind 35 = .ok (.iconst 1, 1) := by decide +kernel
theorem dd_Operators_unwind_36 : decode bb_Operators_unwind 36 = .ok (.isub, 1) := by decide +kernel
theorem dd_Operators_unwind_37 : decode bb_Operators_unwind 37 = .ok (.putfield 21, 3) := by decide +kernel
theorem dd_Operators_unwind_40 : decode bb_Operators_unwind 40 = .ok (.aload_n 0, 1) := by decide +kernel
theorem dd_Operators_unwind_41 : decode bb_Operators_unwind 41 = .ok (.getfield 31, 3) := by decide +kernel
theorem dd_Operators_unwind_44 : decode bb_Operators_unwind 44 = .ok (.aload_n 0, 1) := by decide +kernel
theorem dd_Operators_unwind_45 : decode bb_Operators_unwind 45 = .ok (.getfield 21, 3) := by decide +kernel
theorem dd_Operators_unwind_48 : decode bb_Operators_unwind 48 = .ok (.iaload, 1) := by decide +kernel
theorem dd_Operators_unwind_49 : decode bb_Operators_unwind 49 = .ok (.iconst (-1), 1) := by decide +kernel
theorem dd_Operators_unwind_50 : decode bb_Operators_unwind 50 = .ok (.if_icmp .eq 38, 3) := by decide +kernel
theorem dd_Operators_unwind_53 : decode bb_Operators_unwind 53 = .ok (.aload_n 0, 1) := by decide +kernel
theorem dd_Operators_unwind_54 : decode bb_Operators_unwind 54 = .ok (.getfield 34, 3) := by decide +kernel
theorem dd_Operators_unwind_57 : decode bb_Operators_unwind 57 = .ok (.aload_n 0, 1) := by decide +kernel
theorem dd_Operators_unwind_58 : decode bb_Operators_unwind 58 = .ok (.getfield 31, 3) := by decide +kernel
theorem dd_Operators_unwind_61 : decode bb_Operators_unwind 61 = .ok (.aload_n 0, 1) := by decide +kernel
theorem dd_Operators_unwind_62 : decode bb_Operators_unwind 62 = .ok (.getfield 21, 3) := by decide +kernel
theorem dd_Operators_unwind_65 : decode bb_Operators_unwind 65 = .ok (.iaload, 1) := by decide +kernel
theorem dd_Operators_unwind_66 : decode bb_Operators_unwind 66 = .ok (.aload_n 0, 1) := by decide +kernel
theorem dd_Operators_unwind_67 : decode bb_Operators_unwind 67 = .ok (.getfield 28, 3) := by decide +kernel
theorem dd_Operators_unwind_70 : decode bb_Operators_unwind 70 = .ok (.aload_n 0, 1) := by decide +kernel
theorem dd_Operators_unwind_71 : decode bb_Operators_unwind 71 = .ok (.getfield 21, 3) := by decide +kernel
theorem dd_Operators_unwind_74 : decode bb_Operators_unwind 74 = .ok (.iaload, 1) := by decide +kernel
theorem dd_Operators_unwind_75 : decode bb_Operators_unwind 75 = .ok (.aload_n 0, 1) := by decide +kernel
theorem dd_Operators_unwind_76 : decode bb_Operators_unwind 76 = .ok (.getfield 34, 3) := by decide +kernel
theorem dd_Operators_unwind_79 : decode bb_Operators_unwind 79 = .ok (.getfield 58, 3) := by decide +kernel
theorem dd_Operators_unwind_82 : decode bb_Operators_unwind 82 = .ok (.invokevirtual 61, 3) := by decide +kernel
theorem dd_Operators_unwind_85 : decode bb_Operators_unwind 85 = .ok (.goto 21, 3) := by decide +kernel
theorem dd_Operators_unwind_88 : decode bb_Operators_unwind 88 = .ok (.aload_n 0, 1) := by decide +kernel
theorem dd_Operators_unwind_89 : decode bb_Operators_unwind 89 = .ok (.getfield 34, 3) := by decide +kernel
theorem dd_Operators_unwind_92 : decode bb_Operators_unwind 92 = .ok (.aload_n 0, 1) := by decide +kernel
theorem dd_Operators_unwind_93 : decode bb_Operators_unwind 93 = .ok (.getfield 28, 3) := by decide +kernel
theorem dd_Operators_unwind_96 : decode bb_Operators_unwind 96 = .ok (.aload_n 0, 1) := by decide +kernel
theorem dd_Operators_unwind_97 : decode bb_Operators_unwind 97 = .ok (.getfield 21, 3) := by decide +kernel
theorem dd_Operators_unwind_100 : decode bb_Operators_unwind 100 = .ok (.iaload, 1) := by decide +kernel
theorem dd_Operators_unwind_101 : decode bb_Operators_unwind 101 = .ok (.iconst 0, 1) := by decide +kernel
theorem dd_Operators_unwind_102 : decode bb_Operators_unwind 102 = .ok (.invokevirtual 46, 3) := by decide +kernel
theorem dd_Operators_unwind_105 : decode bb_Operators_unwind 105 = .ok (.pop, 1) := by decide +kernel
theorem dd_Operators_unwind_106 : decode bb_Operators_unwind 106 = .ok (.aload_n 0, 1) := by decide +kernel
theorem dd_Operators_unwind_107 : decode bb_Operators_unwind 107 = .ok (.getfield 24, 3) := by decide +kernel
theorem dd_Operators_unwind_110 : decode bb_Operators_unwind 110 = .ok (.aload_n 0, 1) := by decide +kernel
theorem dd_Operators_unwind_111 : decode bb_Operators_unwind 111 = .ok (.getfield 21, 3) := by decide +kernel
theorem dd_Operators_unwind_114 : decode bb_Operators_unwind 114 = .ok (.iaload, 1) := by decide +kernel
theorem dd_Operators_unwind_115 : decode bb_Operators_unwind 115 = .ok (.iconst 3, 1) := by decide +kernel
theorem dd_Operators_unwind_116 : decode bb_Operators_unwind 116 = .ok (.if_icmp .eq 17, 3) := by decide +kernel
theorem dd_Operators_unwind_119 : decode bb_Operators_unwind 119 = .ok (.aload_n 0, 1) := by decide +kernel
theorem dd_Operators_unwind_120 : decode bb_Operators_unwind 120 = .ok (.getfield 24, 3) := by decide +kernel
theorem dd_Operators_unwind_123 : decode bb_Operators_unwind 123 = .ok (.aload_n 0, 1) := by decide +kernel
theorem dd_Operators_unwind_124 : decode bb_Operators_unwind 124 = .ok (.getfield 21, 3) := by decide +kernel
theorem dd_Operators_unwind_127 : decode bb_Operators_unwind 127 = .ok (.iaload, 1) := by decide +kernel
theorem dd_Operators_unwind_128 : decode bb_Operators_unwind 128 = .ok (.bipush 7, 2) := by decide +kernel
theorem dd_Operators_unwind_130 : decode bb_Operators_unwind 130 = .ok (.if_icmp .ne 13, 3) := by decide +kernel
theorem dd_Operators_unwind_133 : decode bb_Operators_unwind 133 = .ok (.aload_n 0, 1) := by decide +kernel
theorem dd_Operators_unwind_134 : decode bb_Operators_unwind 134 = .ok (.dup, 1) := by decide +kernel
theorem dd_Operators_unwind_135 : decode bb_Operators_unwind 135 = .ok (.getfield 9, 3) := by decide +kernel
theorem dd_Operators_unwind_138 : decode bb_Operators_unwind 138 = .ok (.iconst 1, 1) := by decide +kernel
theorem dd_Operators_unwind_139 : decode bb_Operators_unwind 139 = .ok (.isub, 1) := by decide +kernel
theorem dd_Operators_unwind_140 : decode bb_Operators_unwind 140 = .ok (.putfield 9, 3) := by decide +kernel
theorem dd_Operators_unwind_143 : decode bb_Operators_unwind 143 = .ok (.iinc 2 1, 3) := by decide +kernel
theorem dd_Operators_unwind_146 : decode bb_Operators_unwind 146 = .ok (.goto (-144), 3) := by decide +kernel
theorem dd_Operators_unwind_149 : decode bb_Operators_unwind 149 = .ok (.return_, 1) := by decide +kernel
def f_Operators_unwind_143 (nf : Nat) (x0 : Nat) (x1 : Int32) (x2 : Int32) (c : Zc) : Option ((Nat × Int32 × Int32 × Zc) ⊕ (Zc)) :=
  some (.inl (x0, x1, (x2 + 1), c))
def f_Operators_unwind_133 (nf : Nat) (x0 : Nat) (x1 : Int32) (x2 : Int32) (c : Zc) : Option ((Nat × Int32 × Int32 × Zc) ⊕ (Zc)) :=
  (zgi c x0 4 0).bind fun v24 => (zpv c x0 4 0 (.int (v24 - 1))).bind fun c25 => f_Operators_unwind_143 nf x0 x1 x2 c25
def f_Operators_unwind_106 (nf : Nat) (x0 : Nat) (x1 : Int32) (x2 : Int32) (c : Zc) : Option ((Nat × Int32 × Int32 × Zc) ⊕ (Zc)) :=
  (zgr c x0 4 5).bind fun v20 => (zgi c x0 4 4).bind fun v21 => (zai c v20 0 v21).bind fun v22 => if v22 = 3 then (f_Operators_unwind_133 nf x0 x1 x2 c) else ((zgr c x0 4 5).bind fun v26 => (zgi c x0 4 4).bind fun v27 => (zai c v26 0 v27).bind fun v28 => if v28 = 7 then (f_Operators_unwind_133 nf x0 x1 x2 c) else (f_Operators_unwind_143 nf x0 x1 x2 c))
def g_Operators_unwind_2 (nf : Nat) (x0 : Nat) (x1 : Int32) (x2 : Int32) (c : Zc) : Option ((Nat × Int32 × Int32 × Zc) ⊕ (Zc)) :=
  if 80 ≤ x2 then (some (.inr c)) else ((zgi c x0 4 4).bind fun v2 => if v2 ≤ 0 then (some (.inr c)) else ((zgr c x0 4 5).bind fun v4 => (zgi c x0 4 4).bind fun v5 => (zai c v4 0 (v5 - 1)).bind fun v6 => if v6 < x1 then (some (.inr c)) else ((zgi c x0 4 4).bind fun v8 => (zpv c x0 4 4 (.int (v8 - 1))).bind fun c9 => (zgr c9 x0 4 7).bind fun v10 => (zgi c9 x0 4 4).bind fun v11 => (zai c9 v10 0 v11).bind fun v12 => if v12 = (-1) then ((zgr c9 x0 4 3).bind fun v14 => (zgr c9 x0 4 6).bind fun v15 => (zgi c9 x0 4 4).bind fun v16 => (zai c9 v15 0 v16).bind fun v17 => (zob c9 v14 2).bind fun w19 => (f_Text_emit nf v14 v17 0 c9).bind fun q18 => f_Operators_unwind_106 nf x0 x1 x2 q18.2) else ((zgr c9 x0 4 3).bind fun v30 => (zgr c9 x0 4 7).bind fun v31 => (zgi c9 x0 4 4).bind fun v32 => (zai c9 v31 0 v32).bind fun v33 => (zgr c9 x0 4 6).bind fun v34 => (zgi c9 x0 4 4).bind fun v35 => (zai c9 v34 0 v35).bind fun v36 => (zgr c9 x0 4 3).bind fun v37 => (zgi c9 v37 2 12).bind fun v38 => (zob c9 v30 2).bind fun w40 => (f_Text_change nf v30 v33 v36 v38 c9).bind fun q39 => f_Operators_unwind_106 nf x0 x1 x2 q39))))
def f_Operators_unwind_149 (nf : Nat)  (c : Zc) : Option (Zc) :=
  some c
def f_Operators_unwind_2 (nf : Nat) (x0 : Nat) (x1 : Int32) (x2 : Int32) (c : Zc) : Option (Zc) :=
  (zlp (fun a => g_Operators_unwind_2 nf a.1 a.2.1 a.2.2.1 a.2.2.2) nf (x0, x1, x2, c)).bind fun b => f_Operators_unwind_149 nf  b
def f_Operators_unwind (nf : Nat) (a0 : Nat) (a1 : Int32) (c : Zc) : Option (Zc) :=
  f_Operators_unwind_2 nf a0 a1 0 c
set_option maxRecDepth 100000 in
set_option maxHeartbeats 4000000 in
theorem t_Operators_unwind_143  (X : zX p s m args cd D cid B bb_Operators_unwind 3 rr_Operators zT) (H : zH s meth B n0 none "unwind") {nf : Nat} {x0 : Nat} {x1 : Int32} {x2 : Int32} {c : Zc} {r : (Nat × Int32 × Int32 × Zc) ⊕ (Zc)} (h : f_Operators_unwind_143 nf x0 x1 x2 c = some r) (k0 : ∀ a, r = .inl a → (fun a : Nat × Int32 × Int32 × Zc => Zz p l e (zRm 1 23 0 0) s m args below meth cd Q D cid B 3 0 0 a.2.2.2 2 [(0, .ref a.1), (1, .int a.2.1), (2, .int a.2.2.1)] []) a) (k1 : ∀ b, r = .inr b → (fun b : Zc => Zz p l e (zRm 1 23 0 0) s m args below meth cd Q D cid B 3 0 0 b 149 [] []) b) : Zz p l e (zRm 1 23 0 0) s m args below meth cd Q D cid B 3 0 0 c 143 [(0, .ref x0), (1, .int x1), (2, .int x2)] [] := by
  unfold f_Operators_unwind_143 at h
  refine z_iinc (v := (x2 + 1)) (lv' := [(2, .int (x2 + 1)), (0, .ref x0), (1, .int x1)]) X dd_Operators_unwind_143 2 rfl rfl (by decide) rfl ?_
  refine z_goto (tgt := 2) X dd_Operators_unwind_146 (by decide) ?_
  refine z_sub [1, 2, 0] rfl ?_
  obtain rfl := Option.some.inj h
  exact k0 _ rfl
set_option maxRecDepth 100000 in
set_option maxHeartbeats 4000000 in
theorem t_Operators_unwind_133  (X : zX p s m args cd D cid B bb_Operators_unwind 3 rr_Operators zT) (H : zH s meth B n0 none "unwind") {nf : Nat} {x0 : Nat} {x1 : Int32} {x2 : Int32} {c : Zc} {r : (Nat × Int32 × Int32 × Zc) ⊕ (Zc)} (h : f_Operators_unwind_133 nf x0 x1 x2 c = some r) (k0 : ∀ a, r = .inl a → (fun a : Nat × Int32 × Int32 × Zc => Zz p l e (zRm 1 23 0 0) s m args below meth cd Q D cid B 3 0 0 a.2.2.2 2 [(0, .ref a.1), (1, .int a.2.1), (2, .int a.2.2.1)] []) a) (k1 : ∀ b, r = .inr b → (fun b : Zc => Zz p l e (zRm 1 23 0 0) s m args below meth cd Q D cid B 3 0 0 b 149 [] []) b) : Zz p l e (zRm 1 23 0 0) s m args below meth cd Q D cid B 3 0 0 c 133 [(0, .ref x0), (1, .int x1), (2, .int x2)] [] := by
  unfold f_Operators_unwind_133 at h
  refine z_aload_n X dd_Operators_unwind_133 rfl 0 rfl ?_
  refine z_dup X dd_Operators_unwind_134 rfl ?_
  obtain ⟨v24, ev24, h⟩ := zb h
  refine z_get (j := 0) X dd_Operators_unwind_135 kc_4 ki_4 (by decide) km_445 (zgi_v ev24) ?_
  refine z_iconst (v := 1) X dd_Operators_unwind_138 (by decide) ?_
  refine z_isub X dd_Operators_unwind_139 ?_
  obtain ⟨c25, ec25, h⟩ := zb h
  refine z_put (j := 0) X dd_Operators_unwind_140 kc_4 ki_4 tt_Operators tk_Operators nn_Operators (by decide) km_445 rfl (tk_Operators 0 (by decide)) rfl rfl ec25 ?_
  exact t_Operators_unwind_143 X H h k0 k1
set_option maxRecDepth 100000 in
set_option maxHeartbeats 4000000 in
theorem t_Operators_unwind_106  (X : zX p s m args cd D cid B bb_Operators_unwind 3 rr_Operators zT) (H : zH s meth B n0 none "unwind") {nf : Nat} {x0 : Nat} {x1 : Int32} {x2 : Int32} {c : Zc} {r : (Nat × Int32 × Int32 × Zc) ⊕ (Zc)} (h : f_Operators_unwind_106 nf x0 x1 x2 c = some r) (k0 : ∀ a, r = .inl a → (fun a : Nat × Int32 × Int32 × Zc => Zz p l e (zRm 1 23 0 0) s m args below meth cd Q D cid B 3 0 0 a.2.2.2 2 [(0, .ref a.1), (1, .int a.2.1), (2, .int a.2.2.1)] []) a) (k1 : ∀ b, r = .inr b → (fun b : Zc => Zz p l e (zRm 1 23 0 0) s m args below meth cd Q D cid B 3 0 0 b 149 [] []) b) : Zz p l e (zRm 1 23 0 0) s m args below meth cd Q D cid B 3 0 0 c 106 [(0, .ref x0), (1, .int x1), (2, .int x2)] [] := by
  unfold f_Operators_unwind_106 at h
  refine z_aload_n X dd_Operators_unwind_106 rfl 0 rfl ?_
  obtain ⟨v20, ev20, h⟩ := zb h
  refine z_get (j := 5) X dd_Operators_unwind_107 kc_4 ki_4 (by decide) km_453 (zgr_v ev20) ?_
  refine z_aload_n X dd_Operators_unwind_110 rfl 0 rfl ?_
  obtain ⟨v21, ev21, h⟩ := zb h
  refine z_get (j := 4) X dd_Operators_unwind_111 kc_4 ki_4 (by decide) km_452 (zgi_v ev21) ?_
  obtain ⟨v22, ev22, h⟩ := zb h
  refine z_iaload X dd_Operators_unwind_114 rfl ev22 ?_
  refine z_iconst (v := 3) X dd_Operators_unwind_115 (by decide) ?_
  refine z_icmp_eq (tgt := 133) X dd_Operators_unwind_116 (by decide) (fun q23 => ?_) (fun q23 => ?_)
  · rw [if_pos q23] at h
    exact t_Operators_unwind_133 X H h k0 k1
  · rw [if_neg q23] at h
    refine z_aload_n X dd_Operators_unwind_119 rfl 0 rfl ?_
    obtain ⟨v26, ev26, h⟩ := zb h
    refine z_get (j := 5) X dd_Operators_unwind_120 kc_4 ki_4 (by decide) km_453 (zgr_v ev26) ?_
    refine z_aload_n X dd_Operators_unwind_123 rfl 0 rfl ?_
    obtain ⟨v27, ev27, h⟩ := zb h
    refine z_get (j := 4) X dd_Operators_unwind_124 kc_4 ki_4 (by decide) km_452 (zgi_v ev27) ?_
    obtain ⟨v28, ev28, h⟩ := zb h
    refine z_iaload X dd_Operators_unwind_127 rfl ev28 ?_
    refine z_bipush (v := 7) X dd_Operators_unwind_128 (by decide) ?_
    refine z_icmp_ne (tgt := 143) X dd_Operators_unwind_130 (by decide) (fun q29 => ?_) (fun q29 => ?_)
    · rw [if_neg q29] at h
      exact t_Operators_unwind_143 X H h k0 k1
    · rw [if_pos q29] at h
      exact t_Operators_unwind_133 X H h k0 k1
set_option maxRecDepth 100000 in
set_option maxHeartbeats 4000000 in
theorem u_Operators_unwind_2  (X : zX p s m args cd D cid B bb_Operators_unwind 3 rr_Operators zT) (H : zH s meth B n0 none "unwind") {nf : Nat} {x0 : Nat} {x1 : Int32} {x2 : Int32} {c : Zc} {r : (Nat × Int32 × Int32 × Zc) ⊕ (Zc)} (h : g_Operators_unwind_2 nf x0 x1 x2 c = some r) (k0 : ∀ a, r = .inl a → (fun a : Nat × Int32 × Int32 × Zc => Zz p l e (zRm 1 23 0 0) s m args below meth cd Q D cid B 3 0 0 a.2.2.2 2 [(0, .ref a.1), (1, .int a.2.1), (2, .int a.2.2.1)] []) a) (k1 : ∀ b, r = .inr b → (fun b : Zc => Zz p l e (zRm 1 23 0 0) s m args below meth cd Q D cid B 3 0 0 b 149 [] []) b) : Zz p l e (zRm 1 23 0 0) s m args below meth cd Q D cid B 3 0 0 c 2 [(0, .ref x0), (1, .int x1), (2, .int x2)] [] := by
  unfold g_Operators_unwind_2 at h
  refine z_iload_n X dd_Operators_unwind_2 rfl 2 rfl ?_
  refine z_bipush (v := 80) X dd_Operators_unwind_3 (by decide) ?_
  refine z_icmp_ge (tgt := 149) X dd_Operators_unwind_5 (by decide) (fun q1 => ?_) (fun q1 => ?_)
  · rw [if_pos q1] at h
    refine z_sub [] rfl ?_
    obtain rfl := Option.some.inj h
    exact k1 _ rfl
  · rw [if_neg q1] at h
    refine z_aload_n X dd_Operators_unwind_8 rfl 0 rfl ?_
    obtain ⟨v2, ev2, h⟩ := zb h
    refine z_get (j := 4) X dd_Operators_unwind_9 kc_4 ki_4 (by decide) km_452 (zgi_v ev2) ?_
    refine z_if_le (tgt := 149) X dd_Operators_unwind_12 (by decide) (fun q3 => ?_) (fun q3 => ?_)
    · rw [if_pos q3] at h
      refine z_sub [] rfl ?_
      obtain rfl := Option.some.inj h
      exact k1 _ rfl
    · rw [if_neg q3] at h
      refine z_aload_n X dd_Operators_unwind_15 rfl 0 rfl ?_
      obtain ⟨v4, ev4, h⟩ := zb h
      refine z_get (j := 5) X dd_Operators_unwind_16 kc_4 ki_4 (by decide) km_453 (zgr_v ev4) ?_
      refine z_aload_n X dd_Operators_unwind_19 rfl 0 rfl ?_
      obtain ⟨v5, ev5, h⟩ := zb h
      refine z_get (j := 4) X dd_Operators_unwind_20 kc_4 ki_4 (by decide) km_452 (zgi_v ev5) ?_
      refine z_iconst (v := 1) X dd_Operators_unwind_23 (by decide) ?_
      refine z_isub X dd_Operators_unwind_24 ?_
      obtain ⟨v6, ev6, h⟩ := zb h
      refine z_iaload X dd_Operators_unwind_25 rfl ev6 ?_
      refine z_iload_n X dd_Operators_unwind_26 rfl 1 rfl ?_
      refine z_icmp_lt (tgt := 149) X dd_Operators_unwind_27 (by decide) (fun q7 => ?_) (fun q7 => ?_)
      · rw [if_pos q7] at h
        refine z_sub [] rfl ?_
        obtain rfl := Option.some.inj h
        exact k1 _ rfl
      · rw [if_neg q7] at h
        refine z_aload_n X dd_Operators_unwind_30 rfl 0 rfl ?_
        refine z_dup X dd_Operators_unwind_31 rfl ?_
        obtain ⟨v8, ev8, h⟩ := zb h
        refine z_get (j := 4) X dd_Operators_unwind_32 kc_4 ki_4 (by decide) km_452 (zgi_v ev8) ?_
        refine z_iconst (v := 1) X dd_Operators_unwind_35 (by decide) ?_
        refine z_isub X dd_Operators_unwind_36 ?_
        obtain ⟨c9, ec9, h⟩ := zb h
        refine z_put (j := 4) X dd_Operators_unwind_37 kc_4 ki_4 tt_Operators tk_Operators nn_Operators (by decide) km_452 rfl (tk_Operators 4 (by decide)) rfl rfl ec9 ?_
        refine z_aload_n X dd_Operators_unwind_40 rfl 0 rfl ?_
        obtain ⟨v10, ev10, h⟩ := zb h
        refine z_get (j := 7) X dd_Operators_unwind_41 kc_4 ki_4 (by decide) km_455 (zgr_v ev10) ?_
        refine z_aload_n X dd_Operators_unwind_44 rfl 0 rfl ?_
        obtain ⟨v11, ev11, h⟩ := zb h
        refine z_get (j := 4) X dd_Operators_unwind_45 kc_4 ki_4 (by decide) km_452 (zgi_v ev11) ?_
        obtain ⟨v12, ev12, h⟩ := zb h
        refine z_iaload X dd_Operators_unwind_48 rfl ev12 ?_
        refine z_iconst (v := (-1)) X dd_Operators_unwind_49 (by decide) ?_
        refine z_icmp_eq (tgt := 88) X dd_Operators_unwind_50 (by decide) (fun q13 => ?_) (fun q13 => ?_)
        · rw [if_pos q13] at h
          refine z_aload_n X dd_Operators_unwind_88 rfl 0 rfl ?_
          obtain ⟨v14, ev14, h⟩ := zb h
          refine z_get (j := 3) X dd_Operators_unwind_89 kc_4 ki_4 (by decide) km_451 (zgr_v ev14) ?_
          refine z_aload_n X dd_Operators_unwind_92 rfl 0 rfl ?_
          obtain ⟨v15, ev15, h⟩ := zb h
          refine z_get (j := 6) X dd_Operators_unwind_93 kc_4 ki_4 (by decide) km_454 (zgr_v ev15) ?_
          refine z_aload_n X dd_Operators_unwind_96 rfl 0 rfl ?_
          obtain ⟨v16, ev16, h⟩ := zb h
          refine z_get (j := 4) X dd_Operators_unwind_97 kc_4 ki_4 (by decide) km_452 (zgi_v ev16) ?_
          obtain ⟨v17, ev17, h⟩ := zb h
          refine z_iaload X dd_Operators_unwind_100 rfl ev17 ?_
          refine z_iconst (v := 0) X dd_Operators_unwind_101 (by decide) ?_
          obtain ⟨w19, ew19, h⟩ := zb h
          obtain ⟨q18, eq18, h⟩ := zb h
          refine z_callVi X [.int v17, .int 0] rfl dd_Operators_unwind_102 (c_Text_emit l eq18) (cwV 2 X.1.2.2.2.2 (zg_V km_1067 km_1056 km_1057 km_128 km_1058) rfl rfl rfl (by decide +kernel) ⟨Nat.le_of_ble_eq_true rfl, Nat.le_of_ble_eq_true rfl⟩) (zob_s ew19) kc_2 rfl (Nat.le_of_ble_eq_true rfl) ⟨Nat.le_of_ble_eq_true rfl, Nat.le_of_ble_eq_true rfl⟩ ?_
          refine z_pop X dd_Operators_unwind_105 rfl ?_
          exact t_Operators_unwind_106 X H h k0 k1
        · rw [if_neg q13] at h
          refine z_aload_n X dd_Operators_unwind_53 rfl 0 rfl ?_
          obtain ⟨v30, ev30, h⟩ := zb h
          refine z_get (j := 3) X dd_Operators_unwind_54 kc_4 ki_4 (by decide) km_451 (zgr_v ev30) ?_
          refine z_aload_n X dd_Operators_unwind_57 rfl 0 rfl ?_
          obtain ⟨v31, ev31, h⟩ := zb h
          refine z_get (j := 7) X dd_Operators_unwind_58 kc_4 ki_4 (by decide) km_455 (zgr_v ev31) ?_
          refine z_aload_n X dd_Operators_unwind_61 rfl 0 rfl ?_
          obtain ⟨v32, ev32, h⟩ := zb h
          refine z_get (j := 4) X dd_Operators_unwind_62 kc_4 ki_4 (by decide) km_452 (zgi_v ev32) ?_
          obtain ⟨v33, ev33, h⟩ := zb h
          refine z_iaload X dd_Operators_unwind_65 rfl ev33 ?_
          refine z_aload_n X dd_Operators_unwind_66 rfl 0 rfl ?_
          obtain ⟨v34, ev34, h⟩ := zb h
          refine z_get (j := 6) X dd_Operators_unwind_67 kc_4 ki_4 (by decide) km_454 (zgr_v ev34) ?_
          refine z_aload_n X dd_Operators_unwind_70 rfl 0 rfl ?_
          obtain ⟨v35, ev35, h⟩ := zb h
          refine z_get (j := 4) X dd_Operators_unwind_71 kc_4 ki_4 (by decide) km_452 (zgi_v ev35) ?_
          obtain ⟨v36, ev36, h⟩ := zb h
          refine z_iaload X dd_Operators_unwind_74 rfl ev36 ?_
          refine z_aload_n X dd_Operators_unwind_75 rfl 0 rfl ?_
          obtain ⟨v37, ev37, h⟩ := zb h
          refine z_get (j := 3) X dd_Operators_unwind_76 kc_4 ki_4 (by decide) km_451 (zgr_v ev37) ?_
          obtain ⟨v38, ev38, h⟩ := zb h
          refine z_get (j := 12) X dd_Operators_unwind_79 kc_2 ki_2 (by decide) km_337 (zgi_v ev38) ?_
          obtain ⟨w40, ew40, h⟩ := zb h
          obtain ⟨q39, eq39, h⟩ := zb h
          refine z_callVv X [.int v33, .int v36, .int v38] rfl dd_Operators_unwind_82 (c_Text_change l eq39) (cwV 3 X.1.2.2.2.2 (zg_V km_1063 km_1064 km_1065 km_128 km_1066) rfl rfl rfl (by decide +kernel) ⟨Nat.le_of_ble_eq_true rfl, Nat.le_of_ble_eq_true rfl⟩) (zob_s ew40) kc_2 rfl (Nat.le_of_ble_eq_true rfl) ⟨Nat.le_of_ble_eq_true rfl, Nat.le_of_ble_eq_true rfl⟩ ?_
          refine z_goto (tgt := 106) X dd_Operators_unwind_85 (by decide) ?_
          exact t_Operators_unwind_106 X H h k0 k1
set_option maxRecDepth 100000 in
set_option maxHeartbeats 4000000 in
theorem t_Operators_unwind_149  (X : zX p s m args cd D cid B bb_Operators_unwind 3 rr_Operators zT) (H : zH s meth B n0 none "unwind") {nf : Nat}  {c : Zc} {res : Zc} (h : f_Operators_unwind_149 nf  c = some res) : Zz p l e (zRm 1 23 0 0) s m args below meth cd (MQ below (zQv D cid B res n0 0) args s 0 0 (fun q => B ≤ q)) D cid B 3 0 0 c 149 [] [] := by
  unfold f_Operators_unwind_149 at h
  obtain rfl := Option.some.inj h
  exact z_vret X H.1 H.2.1 H.2.2.1 dd_Operators_unwind_149
set_option maxRecDepth 100000 in
set_option maxHeartbeats 4000000 in
theorem t_Operators_unwind_2  (X : zX p s m args cd D cid B bb_Operators_unwind 3 rr_Operators zT) (H : zH s meth B n0 none "unwind") {nf : Nat} {x0 : Nat} {x1 : Int32} {x2 : Int32} {c : Zc} {res : Zc} (h : f_Operators_unwind_2 nf x0 x1 x2 c = some res) : Zz p l e (zRm 1 23 0 0) s m args below meth cd (MQ below (zQv D cid B res n0 0) args s 0 0 (fun q => B ≤ q)) D cid B 3 0 0 c 2 [(0, .ref x0), (1, .int x1), (2, .int x2)] [] := by
  unfold f_Operators_unwind_2 at h
  obtain ⟨b, eb, h⟩ := zb h
  refine zlp_ok (P := fun a : Nat × Int32 × Int32 × Zc => Zz p l e (zRm 1 23 0 0) s m args below meth cd _ D cid B 3 0 0 a.2.2.2 2 [(0, .ref a.1), (1, .int a.2.1), (2, .int a.2.2.1)] []) (G := fun b : Zc => Zz p l e (zRm 1 23 0 0) s m args below meth cd _ D cid B 3 0 0 b 149 [] []) (fun a r ha k0 k1 => u_Operators_unwind_2 X H ha k0 k1) nf _ b eb ?_
  exact t_Operators_unwind_149 X H h
set_option maxRecDepth 100000 in
set_option maxHeartbeats 4000000 in
theorem c_Operators_unwind (l : Launch) {nf : Nat} {a0 : Nat} {a1 : Int32} {c : Zc} {res : Zc} (h : f_Operators_unwind nf a0 a1 c = some res) : zM l yy_Operators_unwind ww_Operators_unwind 1 23 0 0 [.ref a0, .int a1] c (fun D cid B => zQv D cid B res c.length 0) := by
  refine z_met (cc := bb_Operators_unwind) (maxL := 3) (ret := none) (by decide +kernel) rfl (Nat.le_of_ble_eq_true rfl) ?_
  intro p e s m args below meth cd D cid B X h1 h2 h3 h4
  have X : zX p s m args cd D cid B bb_Operators_unwind 3 rr_Operators zT := X
  have H : zH s meth B c.length none "unwind" := ⟨h1, h2, h4, h3⟩
  unfold f_Operators_unwind at h
  show Zz p l e (zRm 1 23 0 0) s m args below meth cd _ D cid B 3 0 0 c 0 [(0, .ref a0), (1, .int a1)] []
  refine z_iconst (v := 0) X dd_Operators_unwind_0 (by decide) ?_
  refine z_istore_n (lv' := [(2, .int 0), (0, .ref a0), (1, .int a1)]) X dd_Operators_unwind_1 rfl (by decide) rfl ?_
  refine z_sub [1, 2, 0] rfl ?_
  exact t_Operators_unwind_2 X H h
end ZzM
