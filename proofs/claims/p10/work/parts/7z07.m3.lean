section ZzM
variable {p : Program} {l : Launch} {e : Env} {s : State} {m : MethodId} {args : Array Value} {below : List Frame} {meth : Method} {cd : Code} {Q : State → Prop} {D : va_G} {cid : Nat → ClassId} {B n0 : Nat}
theorem dd_String_length_0 : decode bb_String_length 0 = .ok (.aload_n 0, 1) := by decide +kernel
theorem dd_String_length_1 : decode bb_String_length 1 = .ok (.getfield 9, 3) := by decide +kernel
theorem dd_String_length_4 : decode bb_String_length 4 = .ok (.arraylength, 1) := by decide +kernel
theorem dd_String_length_5 : decode bb_String_length 5 = .ok (.aload_n 0, 1) := by decide +kernel
theorem dd_String_length_6 : decode bb_String_length 6 = .ok (.invokevirtual 335, 3) := by decide +kernel
theorem dd_String_length_9 : decode bb_String_length 9 = .ok (.ishr, 1) := by decide +kernel
theorem dd_String_length_10 : decode bb_String_length 10 = .ok (.ireturn, 1) := by decide +kernel
set_option maxRecDepth 100000 in
set_option maxHeartbeats 4000000 in
theorem c_String_length (l : Launch) {nf : Nat} {a0 : Nat} {c : Zc} {res : Int32 × Zc} (h : f_String_length nf a0 c = some res) : zM l yy_String_length ww_String_length 1 20 0 0 [zfs a0] c (fun D cid B => zQi D cid B res.1 res.2 c.length 0) := by
  refine z_met (cc := bb_String_length) (maxL := 1) (ret := (some (.int))) (by decide +kernel) rfl (Nat.le_of_ble_eq_true rfl) ?_
  intro p e s m args below meth cd D cid B X h1 h2 h3 h4
  have X : zX p s m args cd D cid B bb_String_length 1 rr_String zT := X
  have H : zH s meth B c.length (some (.int)) "length" := ⟨h1, h2, h4, h3⟩
  unfold f_String_length at h
  show Zz p l e (zRm 1 20 0 0) s m args below meth cd _ D cid B 1 0 0 c 0 [(0, zfs a0)] []
  refine z_aloadS_n X dd_String_length_0 rfl 0 rfl ?_
  obtain ⟨u1, eu1, h⟩ := zb h
  refine z_getSv X dd_String_length_1 (zst_s eu1) km_2177 ?_
  obtain ⟨u2, eu2, h⟩ := zb h
  refine z_alenS X dd_String_length_4 (zst_s eu2) rfl ?_
  refine z_aloadS_n X dd_String_length_5 rfl 0 rfl ?_
  obtain ⟨w4, ew4, h⟩ := zb h
  obtain ⟨q3, eq3, h⟩ := zb h
  refine z_callXi X [] rfl dd_String_length_6 (c_String_coder l eq3) (cwV 0 X.1.2.2.2.2 (zg_V km_888 km_889 km_890 km_140 km_891) rfl rfl rfl (by decide +kernel) ⟨Nat.le_of_ble_eq_true rfl, Nat.le_of_ble_eq_true rfl⟩) (zst_s ew4) rfl (Nat.le_of_ble_eq_true rfl) ⟨Nat.le_of_ble_eq_true rfl, Nat.le_of_ble_eq_true rfl⟩ ?_
  refine z_ishr X dd_String_length_9 ?_
  obtain rfl := Option.some.inj h
  exact z_iret X H.1 H.2.1 H.2.2.1 dd_String_length_10
theorem dd_StringLatin1_canEncode_0 : decode bb_StringLatin1_canEncode 0 = .ok (.iload_n 0, 1) := by decide +kernel
theorem dd_StringLatin1_canEncode_1 : decode bb_StringLatin1_canEncode 1 = .ok (.ifCond .lt 14, 3) := by decide +kernel
theorem dd_StringLatin1_canEncode_4 : decode bb_StringLatin1_canEncode 4 = .ok (.iload_n 0, 1) := by decide +kernel
theorem dd_StringLatin1_canEncode_5 : decode bb_StringLatin1_canEncode 5 = .ok (.sipush 255, 3) := by decide +kernel
theorem dd_StringLatin1_canEncode_8 : decode bb_StringLatin1_canEncode 8 = .ok (.if_icmp .gt 7, 3) := by decide +kernel
theorem dd_StringLatin1_canEncode_11 : decode bb_StringLatin1_canEncode 11 = .ok (.iconst 1, 1) := by decide +kernel
theorem dd_StringLatin1_canEncode_12 : decode bb_StringLatin1_canEncode 12 = .ok (.goto 4, 3) := by decide +kernel
theorem dd_StringLatin1_canEncode_15 : decode bb_StringLatin1_canEncode 15 = .ok (.iconst 0, 1) := by decide +kernel
theorem dd_StringLatin1_canEncode_16 : decode bb_StringLatin1_canEncode 16 = .ok (.ireturn, 1) := by decide +kernel
set_option maxRecDepth 100000 in
set_option maxHeartbeats 4000000 in
theorem t_StringLatin1_canEncode_16  (X : zX p s m args cd D cid B bb_StringLatin1_canEncode 1 rr_StringLatin1 zT) (H : zH s meth B n0 (some (.boolean)) "canEncode") {nf : Nat} {s0 : Int32} {c : Zc} {res : Int32 × Zc} (h : f_StringLatin1_canEncode_16 nf s0 c = some res) : Zz p l e (zRm 0 0 0 0) s m args below meth cd (MQ below (zQi D cid B res.1 res.2 n0 0) args s 0 0 (fun q => B ≤ q)) D cid B 1 0 0 c 16 [] [.int s0] := by
  unfold f_StringLatin1_canEncode_16 at h
  obtain ⟨hz, h⟩ := zrz_s h
  obtain rfl := h
  exact z_zret X H.1 (zn_z hz) H.2.1 H.2.2.1 dd_StringLatin1_canEncode_16
set_option maxRecDepth 100000 in
set_option maxHeartbeats 4000000 in
theorem t_StringLatin1_canEncode_15  (X : zX p s m args cd D cid B bb_StringLatin1_canEncode 1 rr_StringLatin1 zT) (H : zH s meth B n0 (some (.boolean)) "canEncode") {nf : Nat}  {c : Zc} {res : Int32 × Zc} (h : f_StringLatin1_canEncode_15 nf  c = some res) : Zz p l e (zRm 0 0 0 0) s m args below meth cd (MQ below (zQi D cid B res.1 res.2 n0 0) args s 0 0 (fun q => B ≤ q)) D cid B 1 0 0 c 15 [] [] := by
  unfold f_StringLatin1_canEncode_15 at h
  refine z_iconst (v := 0) X dd_StringLatin1_canEncode_15 (by decide) ?_
  exact t_StringLatin1_canEncode_16 X H h
set_option maxRecDepth 100000 in
set_option maxHeartbeats 4000000 in
theorem c_StringLatin1_canEncode (l : Launch) {nf : Nat} {a0 : Int32} {c : Zc} {res : Int32 × Zc} (h : f_StringLatin1_canEncode nf a0 c = some res) : zM l yy_StringLatin1_canEncode ww_StringLatin1_canEncode 0 0 0 0 [.int a0] c (fun D cid B => zQi D cid B res.1 res.2 c.length 0) := by
  refine z_met (cc := bb_StringLatin1_canEncode) (maxL := 1) (ret := (some (.boolean))) (by decide +kernel) rfl (Nat.le_of_ble_eq_true rfl) ?_
  intro p e s m args below meth cd D cid B X h1 h2 h3 h4
  have X : zX p s m args cd D cid B bb_StringLatin1_canEncode 1 rr_StringLatin1 zT := X
  have H : zH s meth B c.length (some (.boolean)) "canEncode" := ⟨h1, h2, h4, h3⟩
  unfold f_StringLatin1_canEncode at h
  show Zz p l e (zRm 0 0 0 0) s m args below meth cd _ D cid B 1 0 0 c 0 [(0, .int a0)] []
  refine z_iload_n X dd_StringLatin1_canEncode_0 rfl 0 rfl ?_
  refine z_if_lt (tgt := 15) X dd_StringLatin1_canEncode_1 (by decide) (fun q1 => ?_) (fun q1 => ?_)
  · rw [if_pos q1] at h
    refine z_sub [] rfl ?_
    exact t_StringLatin1_canEncode_15 X H h
  · rw [if_neg q1] at h
    refine z_iload_n X dd_StringLatin1_canEncode_4 rfl 0 rfl ?_
    refine z_sipush (v := 255) X dd_StringLatin1_canEncode_5 (by decide) ?_
    refine z_icmp_gt (tgt := 15) X dd_StringLatin1_canEncode_8 (by decide) (fun q2 => ?_) (fun q2 => ?_)
    · rw [if_pos q2] at h
      refine z_sub [] rfl ?_
      exact t_StringLatin1_canEncode_15 X H h
    · rw [if_neg q2] at h
      refine z_iconst (v := 1) X dd_StringLatin1_canEncode_11 (by decide) ?_
      refine z_goto (tgt := 16) X dd_StringLatin1_canEncode_12 (by decide) ?_
      refine z_sub [] rfl ?_
      exact t_StringLatin1_canEncode_16 X H h
theorem dd_Math_max_0_0 : decode bb_Math_max_0 0 = .ok (.iload_n 0, 1) := by decide +kernel
theorem dd_Math_max_0_1 : decode bb_Math_max_0 1 = .ok (.iload_n 1, 1) := by decide +kernel
theorem dd_Math_max_0_2 : decode bb_Math_max_0 2 = .ok (.if_icmp .lt 7, 3) := by decide +kernel
theorem dd_Math_max_0_5 : decode bb_Math_max_0 5 = .ok (.iload_n 0, 1) := by decide +kernel
theorem dd_Math_max_0_6 : decode bb_Math_max_0 6 = .ok (.goto 4, 3) := by decide +kernel
theorem dd_Math_max_0_9 : decode bb_Math_max_0 9 = .ok (.iload_n 1, 1) := by decide +kernel
theorem dd_Math_max_0_10 : decode bb_Math_max_0 10 = .ok (.ireturn, 1) := by decide +kernel
set_option maxRecDepth 100000 in
set_option maxHeartbeats 4000000 in
theorem t_Math_max_0_10  (X : zX p s m args cd D cid B bb_Math_max_0 2 rr_Math zT) (H : zH s meth B n0 (some (.int)) "max") {nf : Nat} {s0 : Int32} {c : Zc} {res : Int32 × Zc} (h : f_Math_max_0_10 nf s0 c = some res) : Zz p l e (zRm 0 0 0 0) s m args below meth cd (MQ below (zQi D cid B res.1 res.2 n0 0) args s 0 0 (fun q => B ≤ q)) D cid B 2 0 0 c 10 [] [.int s0] := by
  unfold f_Math_max_0_10 at h
  obtain rfl := Option.some.inj h
  exact z_iret X H.1 H.2.1 H.2.2.1 dd_Math_max_0_10
set_option maxRecDepth 100000 in
set_option maxHeartbeats 4000000 in
theorem c_Math_max_0 (l : Launch) {nf : Nat} {a0 : Int32} {a1 : Int32} {c : Zc} {res : Int32 × Zc} (h : f_Math_max_0 nf a0 a1 c = some res) : zM l yy_Math_max_0 ww_Math_max_0 0 0 0 0 [.int a0, .int a1] c (fun D cid B => zQi D cid B res.1 res.2 c.length 0) := by
  refine z_metF (cc := bb_Math_max_0) (maxL := 2) (ret := (some (.int))) (by decide +kernel) rfl (Nat.le_of_ble_eq_true rfl) ?_
  intro p e s m args below meth cd D cid B X h1 h2 h3 h4
  have X : zX p s m args cd D cid B bb_Math_max_0 2 rr_Math zT := X
  have H : zH s meth B c.length (some (.int)) "max" := ⟨h1, h2, h4, h3⟩
  unfold f_Math_max_0 at h
  show Zz p l e (zRm 0 0 0 0) s m args below meth cd _ D cid B 2 0 0 c 0 [(0, .int a0), (1, .int a1)] []
  refine z_iload_n X dd_Math_max_0_0 rfl 0 rfl ?_
  refine z_iload_n X dd_Math_max_0_1 rfl 1 rfl ?_
  refine z_icmp_lt (tgt := 9) X dd_Math_max_0_2 (by decide) (fun q1 => ?_) (fun q1 => ?_)
  · rw [if_pos q1] at h
    refine z_iload_n X dd_Math_max_0_9 rfl 1 rfl ?_
    refine z_sub [] rfl ?_
    exact t_Math_max_0_10 X H h
  · rw [if_neg q1] at h
    refine z_iload_n X dd_Math_max_0_5 rfl 0 rfl ?_
    refine z_goto (tgt := 10) X dd_Math_max_0_6 (by decide) ?_
    refine z_sub [] rfl ?_
    exact t_Math_max_0_10 X H h
theorem dd_StringLatin1_indexOfChar_0 : decode bb_StringLatin1_indexOfChar 0 = .ok (.iload_n 1, 1) := by decide +kernel
theorem dd_StringLatin1_indexOfChar_1 : decode bb_StringLatin1_indexOfChar 1 = .ok (.i2b, 1) := by decide +kernel
theorem dd_StringLatin1_indexOfChar_2 : decode bb_StringLatin1_indexOfChar 2 = .ok (.istore 4, 2) := by decide +kernel
theorem dd_StringLatin1_indexOfChar_4 : decode bb_StringLatin1_indexOfChar 4 = .ok (.iload_n 2, 1) := by decide +kernel
theorem dd_StringLatin1_indexOfChar_5 : decode bb_StringLatin1_indexOfChar 5 = .ok (.istore 5, 2) := by decide +kernel
theorem dd_StringLatin1_indexOfChar_7 : decode bb_StringLatin1_indexOfChar 7 = .ok (.iload 5, 2) := by decide +kernel
theorem dd_StringLatin1_indexOfChar_9 : decode bb_StringLatin1_indexOfChar 9 = .ok (.iload_n 3, 1) := by decide +kernel
theorem dd_StringLatin1_indexOfChar_10 : decode bb_StringLatin1_indexOfChar 10 = .ok (.if_icmp .ge 21, 3) := by decide +kernel
theorem dd_StringLatin1_indexOfChar_13 : decode bb_StringLatin1_indexOfChar 13 = .ok (.aload_n 0, 1) := by decide +kernel
theorem dd_StringLatin1_indexOfChar_14 : decode bb_StringLatin1_indexOfChar 14 = .ok (.iload 5, 2) := by decide +kernel
theorem dd_StringLatin1_indexOfChar_16 : decode bb_StringLatin1_indexOfChar 16 = .ok (.baload, 1) := by decide +kernel
theorem dd_StringLatin1_indexOfChar_17 : decode bb_StringLatin1_indexOfChar 17 = .ok (.iload 4, 2) := by decide +kernel
theorem dd_StringLatin1_indexOfChar_19 : decode bb_StringLatin1_indexOfChar 19 = .ok (.if_icmp .ne 6, 3) := by decide +kernel
theorem dd_StringLatin1_indexOfChar_22 : decode bb_StringLatin1_indexOfChar 22 = .ok (.iload 5, 2) := by decide +kernel
theorem dd_StringLatin1_indexOfChar_24 : decode bb_StringLatin1_indexOfChar 24 = .ok (.ireturn, 1) := by decide +kernel
theorem dd_StringLatin1_indexOfChar_25 : decode bb_StringLatin1_indexOfChar 25 = .ok (.iinc 5 1, 3) := by decide +kernel
theorem dd_StringLatin1_indexOfChar_28 : decode bb_StringLatin1_indexOfChar 28 = .ok (.goto (-21), 3) := by decide +kernel
theorem dd_StringLatin1_indexOfChar_31 : decode bb_StringLatin1_indexOfChar 31 = .ok (.iconst (-1), 1) := by decide +kernel
theorem dd_StringLatin1_indexOfChar_32 : decode bb_StringLatin1_indexOfChar 32 = .ok (.ireturn, 1) := by decide +kernel
set_option maxRecDepth 100000 in
set_option maxHeartbeats 4000000 in
theorem u_StringLatin1_indexOfChar_7  (X : zX p s m args cd D cid B bb_StringLatin1_indexOfChar 6 rr_StringLatin1 zT) (H : zH s meth B n0 (some (.int)) "indexOfChar") {nf : Nat} {x0 : Nat} {x3 : Int32} {x4 : Int32} {x5 : Int32} {c : Zc} {r : (Nat × Int32 × Int32 × Int32 × Zc) ⊕ ((Int32 × Zc) ⊕ (Zc))} (h : g_StringLatin1_indexOfChar_7 nf x0 x3 x4 x5 c = some r) (k0 : ∀ a, r = .inl a → (fun a : Nat × Int32 × Int32 × Int32 × Zc => Zz p l e (zRm 0 0 0 0) s m args below meth cd Q D cid B 6 0 0 a.2.2.2.2 7 [(0, zfb a.1), (3, .int a.2.1), (4, .int a.2.2.1), (5, .int a.2.2.2.1)] []) a) (k1 : ∀ b, r = .inr b → (fun b : (Int32 × Zc) ⊕ (Zc) => Sum.elim (fun b => Zz p l e (zRm 0 0 0 0) s m args below meth cd Q D cid B 6 0 0 b.2 22 [(5, .int b.1)] []) (fun b => Zz p l e (zRm 0 0 0 0) s m args below meth cd Q D cid B 6 0 0 b 31 [] []) b) b) : Zz p l e (zRm 0 0 0 0) s m args below meth cd Q D cid B 6 0 0 c 7 [(0, zfb x0), (3, .int x3), (4, .int x4), (5, .int x5)] [] := by
  unfold g_StringLatin1_indexOfChar_7 at h
  refine z_iload X dd_StringLatin1_indexOfChar_7 3 rfl ?_
  refine z_iload_n X dd_StringLatin1_indexOfChar_9 rfl 1 rfl ?_
  refine z_icmp_ge (tgt := 31) X dd_StringLatin1_indexOfChar_10 (by decide) (fun q1 => ?_) (fun q1 => ?_)
  · rw [if_pos q1] at h
    refine z_sub [] rfl ?_
    obtain rfl := Option.some.inj h
    exact k1 _ rfl
  · rw [if_neg q1] at h
    refine z_aloadT_n X dd_StringLatin1_indexOfChar_13 rfl 0 rfl ?_
    refine z_iload X dd_StringLatin1_indexOfChar_14 3 rfl ?_
    obtain ⟨v2, ev2, h⟩ := zb h
    refine z_baldS X dd_StringLatin1_indexOfChar_16 ev2 ?_
    refine z_iload X dd_StringLatin1_indexOfChar_17 2 rfl ?_
    refine z_icmp_ne (tgt := 25) X dd_StringLatin1_indexOfChar_19 (by decide) (fun q3 => ?_) (fun q3 => ?_)
    · rw [if_neg q3] at h
      refine z_iinc (v := (x5 + 1)) (lv' := [(5, .int (x5 + 1)), (0, zfb x0), (3, .int x3), (4, .int x4)]) X dd_StringLatin1_indexOfChar_25 3 rfl rfl (by decide) rfl ?_
      refine z_goto (tgt := 7) X dd_StringLatin1_indexOfChar_28 (by decide) ?_
      refine z_sub [1, 2, 3, 0] rfl ?_
      obtain rfl := Option.some.inj h
      exact k0 _ rfl
    · rw [if_pos q3] at h
      refine z_sub [3] rfl ?_
      obtain rfl := Option.some.inj h
      exact k1 _ rfl
set_option maxRecDepth 100000 in
set_option maxHeartbeats 4000000 in
theorem t_StringLatin1_indexOfChar_7  (X : zX p s m args cd D cid B bb_StringLatin1_indexOfChar 6 rr_StringLatin1 zT) (H : zH s meth B n0 (some (.int)) "indexOfChar") {nf : Nat} {x0 : Nat} {x3 : Int32} {x4 : Int32} {x5 : Int32} {c : Zc} {res : Int32 × Zc} (h : f_StringLatin1_indexOfChar_7 nf x0 x3 x4 x5 c = some res) : Zz p l e (zRm 0 0 0 0) s m args below meth cd (MQ below (zQi D cid B res.1 res.2 n0 0) args s 0 0 (fun q => B ≤ q)) D cid B 6 0 0 c 7 [(0, zfb x0), (3, .int x3), (4, .int x4), (5, .int x5)] [] := by
  unfold f_StringLatin1_indexOfChar_7 at h
  obtain ⟨b, eb, h⟩ := zb h
  refine zlp_ok (P := fun a : Nat × Int32 × Int32 × Int32 × Zc => Zz p l e (zRm 0 0 0 0) s m args below meth cd _ D cid B 6 0 0 a.2.2.2.2 7 [(0, zfb a.1), (3, .int a.2.1), (4, .int a.2.2.1), (5, .int a.2.2.2.1)] []) (G := fun b : (Int32 × Zc) ⊕ (Zc) => Sum.elim (fun b => Zz p l e (zRm 0 0 0 0) s m args below meth cd _ D cid B 6 0 0 b.2 22 [(5, .int b.1)] []) (fun b => Zz p l e (zRm 0 0 0 0) s m args below meth cd _ D cid B 6 0 0 b 31 [] []) b) (fun a r ha k0 k1 => u_StringLatin1_indexOfChar_7 X H ha k0 k1) nf _ b eb ?_
  rcases b with b | b
  · simp only [Sum.elim_inl] at h ⊢
    refine z_iload X dd_StringLatin1_indexOfChar_22 0 rfl ?_
    obtain rfl := Option.some.inj h
    exact z_iret X H.1 H.2.1 H.2.2.1 dd_StringLatin1_indexOfChar_24
  · simp only [Sum.elim_inr] at h ⊢
    refine z_iconst (v := (-1)) X dd_StringLatin1_indexOfChar_31 (by decide) ?_
    obtain rfl := Option.some.inj h
    exact z_iret X H.1 H.2.1 H.2.2.1 dd_StringLatin1_indexOfChar_32
set_option maxRecDepth 100000 in
set_option maxHeartbeats 4000000 in
theorem c_StringLatin1_indexOfChar (l : Launch) {nf : Nat} {a0 : Nat} {a1 : Int32} {a2 : Int32} {a3 : Int32} {c : Zc} {res : Int32 × Zc} (h : f_StringLatin1_indexOfChar nf a0 a1 a2 a3 c = some res) : zM l yy_StringLatin1_indexOfChar ww_StringLatin1_indexOfChar 0 0 0 0 [zfb a0, .int a1, .int a2, .int a3] c (fun D cid B => zQi D cid B res.1 res.2 c.length 0) := by
  refine z_met (cc := bb_StringLatin1_indexOfChar) (maxL := 6) (ret := (some (.int))) (by decide +kernel) rfl (Nat.le_of_ble_eq_true rfl) ?_
  intro p e s m args below meth cd D cid B X h1 h2 h3 h4
  have X : zX p s m args cd D cid B bb_StringLatin1_indexOfChar 6 rr_StringLatin1 zT := X
  have H : zH s meth B c.length (some (.int)) "indexOfChar" := ⟨h1, h2, h4, h3⟩
  unfold f_StringLatin1_indexOfChar at h
  show Zz p l e (zRm 0 0 0 0) s m args below meth cd _ D cid B 6 0 0 c 0 [(0, zfb a0), (1, .int a1), (2, .int a2), (3, .int a3)] []
  refine z_iload_n X dd_StringLatin1_indexOfChar_0 rfl 1 rfl ?_
  refine z_i2b X dd_StringLatin1_indexOfChar_1 ?_
  refine z_istore (lv' := [(4, .int (Int8.toInt32 (Int32.toInt8 a1))), (0, zfb a0), (1, .int a1), (2, .int a2), (3, .int a3)]) X dd_StringLatin1_indexOfChar_2 (by decide) rfl ?_
  refine z_iload_n X dd_StringLatin1_indexOfChar_4 rfl 3 rfl ?_
  refine z_istore (lv' := [(5, .int a2), (4, .int (Int8.toInt32 (Int32.toInt8 a1))), (0, zfb a0), (1, .int a1), (2, .int a2), (3, .int a3)]) X dd_StringLatin1_indexOfChar_5 (by decide) rfl ?_
  refine z_sub [2, 5, 1, 0] rfl ?_
  exact t_StringLatin1_indexOfChar_7 X H h
theorem dd_StringLatin1_indexOf_0 : decode bb_StringLatin1_indexOf 0 = .ok (.iload_n 1, 1) := by decide +kernel
theorem dd_StringLatin1_indexOf_1 : decode bb_StringLatin1_indexOf 1 = .ok (.invokestatic 88, 3) := by decide +kernel
theorem dd_StringLatin1_indexOf_4 : decode bb_StringLatin1_indexOf 4 = .ok (.ifCond .ne 5, 3) := by decide +kernel
theorem dd_StringLatin1_indexOf_7 : decode bb_StringLatin1_indexOf 7 = .ok (.iconst (-1), 1) := by decide +kernel
theorem dd_StringLatin1_indexOf_8 : decode bb_StringLatin1_indexOf 8 = .ok (.ireturn, 1) := by decide +kernel
theorem dd_StringLatin1_indexOf_9 : decode bb_StringLatin1_indexOf 9 = .ok (.iload_n 2, 1) := by decide +kernel
theorem dd_StringLatin1_indexOf_10 : decode bb_StringLatin1_indexOf 10 = .ok (.iconst 0, 1) := by decide +kernel
theorem dd_StringLatin1_indexOf_11 : decode bb_StringLatin1_indexOf 11 = .ok (.invokestatic 92, 3) := by decide +kernel
theorem dd_StringLatin1_indexOf_14 : decode bb_StringLatin1_indexOf 14 = .ok (.istore_n 2, 1) := by decide +kernel
theorem dd_StringLatin1_indexOf_15 : decode bb_StringLatin1_indexOf 15 = .ok (.iload_n 3, 1) := by decide +kernel
theorem dd_StringLatin1_indexOf_16 : decode bb_StringLatin1_indexOf 16 = .ok (.aload_n 0, 1) := by decide +kernel
theorem dd_StringLatin1_indexOf_17 : decode bb_StringLatin1_indexOf 17 = .ok (.arraylength, 1) := by decide +kernel
theorem dd_StringLatin1_indexOf_18 : decode bb_StringLatin1_indexOf 18 = .ok (.invokestatic 38, 3) := by decide +kernel
theorem dd_StringLatin1_indexOf_21 : decode bb_StringLatin1_indexOf 21 = .ok (.istore_n 3, 1) := by decide +kernel
theorem dd_StringLatin1_indexOf_22 : decode bb_StringLatin1_indexOf 22 = .ok (.iload_n 2, 1) := by decide +kernel
theorem dd_StringLatin1_indexOf_23 : decode bb_StringLatin1_indexOf 23 = .ok (.iload_n 3, 1) := by decide +kernel
theorem dd_StringLatin1_indexOf_24 : decode bb_StringLatin1_indexOf 24 = .ok (.if_icmp .lt 5, 3) := by decide +kernel
theorem dd_StringLatin1_indexOf_27 : decode bb_StringLatin1_indexOf 27 = .ok (.iconst (-1), 1) := by decide +kernel
theorem dd_StringLatin1_indexOf_28 : decode bb_StringLatin1_indexOf 28 = .ok (.ireturn, 1) := by decide +kernel
theorem dd_StringLatin1_indexOf_29 : decode bb_StringLatin1_indexOf 29 = .ok (.aload_n 0, 1) := by decide +kernel
theorem dd_StringLatin1_indexOf_30 : decode bb_StringLatin1_indexOf 30 = .ok (.iload_n 1, 1) := by decide +kernel
theorem dd_StringLatin1_indexOf_31 : decode bb_StringLatin1_indexOf 31 = .ok (.iload_n 2, 1) := by decide +kernel
theorem dd_StringLatin1_indexOf_32 : decode bb_StringLatin1_indexOf 32 = .ok (.iload_n 3, 1) := by decide +kernel
theorem dd_StringLatin1_indexOf_33 : decode bb_StringLatin1_indexOf 33 = .ok (.invokestatic 95, 3) := by decide +kernel
theorem dd_StringLatin1_indexOf_36 : decode bb_StringLatin1_indexOf 36 = .ok (.ireturn, 1) := by decide +kernel
set_option maxRecDepth 100000 in
set_option maxHeartbeats 4000000 in
theorem c_StringLatin1_indexOf (l : Launch) {nf : Nat} {a0 : Nat} {a1 : Int32} {a2 : Int32} {a3 : Int32} {c : Zc} {res : Int32 × Zc} (h : f_StringLatin1_indexOf nf a0 a1 a2 a3 c = some res) : zM l yy_StringLatin1_indexOf ww_StringLatin1_indexOf 1 25 0 0 [zfb a0, .int a1, .int a2, .int a3] c (fun D cid B => zQi D cid B res.1 res.2 c.length 0) := by
  refine z_met (cc := bb_StringLatin1_indexOf) (maxL := 4) (ret := (some (.int))) (by decide +kernel) rfl (Nat.le_of_ble_eq_true rfl) ?_
  intro p e s m args below meth cd D cid B X h1 h2 h3 h4
  have X : zX p s m args cd D cid B bb_StringLatin1_indexOf 4 rr_StringLatin1 zT := X
  have H : zH s meth B c.length (some (.int)) "indexOf" := ⟨h1, h2, h4, h3⟩
  unfold f_StringLatin1_indexOf at h
  show Zz p l e (zRm 1 25 0 0) s m args below meth cd _ D cid B 4 0 0 c 0 [(0, zfb a0), (1, .int a1), (2, .int a2), (3, .int a3)] []
  refine z_iload_n X dd_StringLatin1_indexOf_0 rfl 1 rfl ?_
  obtain ⟨q1, eq1, h⟩ := zb h
  refine z_callSi X [.int a1] rfl dd_StringLatin1_indexOf_1 (c_StringLatin1_canEncode l eq1) (va_cwS 1 X.1.2.2.2.2 (zg_S km_895 km_896 km_141 km_897) rfl rfl rfl (by decide +kernel) ⟨Nat.le_of_ble_eq_true rfl, Nat.le_of_ble_eq_true rfl⟩) rfl (Nat.le_of_ble_eq_true rfl) ⟨Nat.le_of_ble_eq_true rfl, Nat.le_of_ble_eq_true rfl⟩ ?_
  refine z_if_ne (tgt := 9) X dd_StringLatin1_indexOf_4 (by decide) (fun q2 => ?_) (fun q2 => ?_)
  · rw [if_neg q2] at h
    refine z_iload_n X dd_StringLatin1_indexOf_9 rfl 2 rfl ?_
    refine z_iconst (v := 0) X dd_StringLatin1_indexOf_10 (by decide) ?_
    obtain ⟨q3, eq3, h⟩ := zb h
    refine z_callSi X [.int a2, .int 0] rfl dd_StringLatin1_indexOf_11 (c_Math_max_0 l eq3) (va_cwS 2 X.1.2.2.2.2 (zg_S km_898 km_899 km_139 km_900) rfl rfl rfl (by decide +kernel) ⟨Nat.le_of_ble_eq_true rfl, Nat.le_of_ble_eq_true rfl⟩) rfl (Nat.le_of_ble_eq_true rfl) ⟨Nat.le_of_ble_eq_true rfl, Nat.le_of_ble_eq_true rfl⟩ ?_
    refine z_istore_n (lv' := [(2, .int q3.1), (0, zfb a0), (1, .int a1), (3, .int a3)]) X dd_StringLatin1_indexOf_14 rfl (by decide) rfl ?_
    refine z_iload_n X dd_StringLatin1_indexOf_15 rfl 3 rfl ?_
    refine z_aloadT_n X dd_StringLatin1_indexOf_16 rfl 1 rfl ?_
    obtain ⟨u4, eu4, h⟩ := zb h
    refine z_alenS X dd_StringLatin1_indexOf_17 (zst_s eu4) rfl ?_
    obtain ⟨q5, eq5, h⟩ := zb h
    refine z_callSi X [.int a3, .int (Int32.ofNat (zs_len.getD a0 0))] rfl dd_StringLatin1_indexOf_18 (c_Math_min_0 l eq5) (va_cwS 2 X.1.2.2.2.2 (zg_S km_901 km_842 km_139 km_843) rfl rfl rfl (by decide +kernel) ⟨Nat.le_of_ble_eq_true rfl, Nat.le_of_ble_eq_true rfl⟩) rfl (Nat.le_of_ble_eq_true rfl) ⟨Nat.le_of_ble_eq_true rfl, Nat.le_of_ble_eq_true rfl⟩ ?_
    refine z_istore_n (lv' := [(3, .int q5.1), (2, .int q3.1), (0, zfb a0), (1, .int a1)]) X dd_StringLatin1_indexOf_21 rfl (by decide) rfl ?_
    refine z_iload_n X dd_StringLatin1_indexOf_22 rfl 1 rfl ?_
    refine z_iload_n X dd_StringLatin1_indexOf_23 rfl 0 rfl ?_
    refine z_icmp_lt (tgt := 29) X dd_StringLatin1_indexOf_24 (by decide) (fun q6 => ?_) (fun q6 => ?_)
    · rw [if_pos q6] at h
      refine z_aloadT_n X dd_StringLatin1_indexOf_29 rfl 2 rfl ?_
      refine z_iload_n X dd_StringLatin1_indexOf_30 rfl 3 rfl ?_
      refine z_iload_n X dd_StringLatin1_indexOf_31 rfl 1 rfl ?_
      refine z_iload_n X dd_StringLatin1_indexOf_32 rfl 0 rfl ?_
      obtain ⟨q7, eq7, h⟩ := zb h
      refine z_callSi X [zfb a0, .int a1, .int q3.1, .int q5.1] rfl dd_StringLatin1_indexOf_33 (c_StringLatin1_indexOfChar l eq7) (va_cwS 4 X.1.2.2.2.2 (zg_S km_902 km_903 km_141 km_904) rfl rfl rfl (by decide +kernel) ⟨Nat.le_of_ble_eq_true rfl, Nat.le_of_ble_eq_true rfl⟩) rfl (Nat.le_of_ble_eq_true rfl) ⟨Nat.le_of_ble_eq_true rfl, Nat.le_of_ble_eq_true rfl⟩ ?_
      obtain rfl := Option.some.inj h
      exact z_iret X H.1 H.2.1 H.2.2.1 dd_StringLatin1_indexOf_36
    · rw [if_neg q6] at h
      refine z_iconst (v := (-1)) X dd_StringLatin1_indexOf_27 (by decide) ?_
      obtain rfl := Option.some.inj h
      exact z_iret X H.1 H.2.1 H.2.2.1 dd_StringLatin1_indexOf_28
  · rw [if_pos q2] at h
    refine z_iconst (v := (-1)) X dd_StringLatin1_indexOf_7 (by decide) ?_
    obtain rfl := Option.some.inj h
    exact z_iret X H.1 H.2.1 H.2.2.1 dd_StringLatin1_indexOf_8
theorem dd_String_indexOf_1_0 : decode bb_String_indexOf_1 0 = .ok (.aload_n 0, 1) := by decide +kernel
theorem dd_String_indexOf_1_1 : decode bb_String_indexOf_1 1 = .ok (.invokevirtual 492, 3) := by decide +kernel
theorem dd_String_indexOf_1_4 : decode bb_String_indexOf_1 4 = .ok (.ifCond .eq 19, 3) := by decide +kernel
theorem dd_String_indexOf_1_7 : decode bb_String_indexOf_1 7 = .ok (.aload_n 0, 1) := by decide +kernel
theorem dd_String_indexOf_1_8 : decode bb_String_indexOf_1 8 = .ok (.getfield 9, 3) := by decide +kernel
theorem dd_String_indexOf_1_11 : decode bb_String_indexOf_1 11 = .ok (.iload_n 1, 1) := by decide +kernel
theorem dd_String_indexOf_1_12 : decode bb_String_indexOf_1 12 = .ok (.iload_n 2, 1) := by decide +kernel
theorem dd_String_indexOf_1_13 : decode bb_String_indexOf_1 13 = .ok (.aload_n 0, 1) := by decide +kernel
theorem dd_String_indexOf_1_14 : decode bb_String_indexOf_1 14 = .ok (.invokevirtual 505, 3) := by decide +kernel
theorem dd_String_indexOf_1_17 : decode bb_String_indexOf_1 17 = .ok (.invokestatic 637, 3) := by decide +kernel
theorem dd_String_indexOf_1_20 : decode bb_String_indexOf_1 20 = .ok (.goto 16, 3) := by decide +kernel
theorem dd_String_indexOf_1_23 : decode bb_String_indexOf_1 23 = .ok (.aload_n 0, 1) := by decide +kernel
theorem dd_String_indexOf_1_24 : decode bb_String_indexOf_1 24 = .ok (.getfield 9, 3) := by decide +kernel
theorem dd_String_indexOf_1_27 : decode bb_String_indexOf_1 27 = .ok (.iload_n 1, 1) := by decide +kernel
theorem dd_String_indexOf_1_28 : decode bb_String_indexOf_1 28 = .ok (.iload_n 2, 1) := by decide +kernel
theorem dd_String_indexOf_1_29 : decode bb_String_indexOf_1 29 = .ok (.aload_n 0, 1) := by decide +kernel
theorem dd_String_indexOf_1_30 : decode bb_String_indexOf_1 30 = .ok (.invokevirtual 505, 3) := by decide +kernel
theorem dd_String_indexOf_1_33 : decode bb_String_indexOf_1 33 = .ok (.invokestatic 640, 3) := by decide +kernel
theorem dd_String_indexOf_1_36 : decode bb_String_indexOf_1 36 = .ok (.ireturn, 1) := by decide +kernel
set_option maxRecDepth 100000 in
set_option maxHeartbeats 4000000 in
theorem t_String_indexOf_1_36  (X : zX p s m args cd D cid B bb_String_indexOf_1 3 rr_String zT) (H : zH s meth B n0 (some (.int)) "indexOf") {nf : Nat} {s0 : Int32} {c : Zc} {res : Int32 × Zc} (h : f_String_indexOf_1_36 nf s0 c = some res) : Zz p l e (zRm 2 48 0 0) s m args below meth cd (MQ below (zQi D cid B res.1 res.2 n0 0) args s 0 0 (fun q => B ≤ q)) D cid B 3 0 0 c 36 [] [.int s0] := by
  unfold f_String_indexOf_1_36 at h
  obtain rfl := Option.some.inj h
  exact z_iret X H.1 H.2.1 H.2.2.1 dd_String_indexOf_1_36
set_option maxRecDepth 100000 in
set_option maxHeartbeats 4000000 in
theorem c_String_indexOf_1 (l : Launch) {nf : Nat} {a0 : Nat} {a1 : Int32} {a2 : Int32} {c : Zc} {res : Int32 × Zc} (h : f_String_indexOf_1 nf a0 a1 a2 c = some res) : zM l yy_String_indexOf_1 ww_String_indexOf_1 2 48 0 0 [zfs a0, .int a1, .int a2] c (fun D cid B => zQi D cid B res.1 res.2 c.length 0) := by
  refine z_met (cc := bb_String_indexOf_1) (maxL := 3) (ret := (some (.int))) (by decide +kernel) rfl (Nat.le_of_ble_eq_true rfl) ?_
  intro p e s m args below meth cd D cid B X h1 h2 h3 h4
  have X : zX p s m args cd D cid B bb_String_indexOf_1 3 rr_String zT := X
  have H : zH s meth B c.length (some (.int)) "indexOf" := ⟨h1, h2, h4, h3⟩
  unfold f_String_indexOf_1 at h
  show Zz p l e (zRm 2 48 0 0) s m args below meth cd _ D cid B 3 0 0 c 0 [(0, zfs a0), (1, .int a1), (2, .int a2)] []
  refine z_aloadS_n X dd_String_indexOf_1_0 rfl 0 rfl ?_
  obtain ⟨w2, ew2, h⟩ := zb h
  obtain ⟨q1, eq1, h⟩ := zb h
  refine z_callXi X [] rfl dd_String_indexOf_1_1 (c_String_isLatin1 l eq1) (cwV 0 X.1.2.2.2.2 (zg_V km_878 km_879 km_880 km_140 km_881) rfl rfl rfl (by decide +kernel) ⟨Nat.le_of_ble_eq_true rfl, Nat.le_of_ble_eq_true rfl⟩) (zst_s ew2) rfl (Nat.le_of_ble_eq_true rfl) ⟨Nat.le_of_ble_eq_true rfl, Nat.le_of_ble_eq_true rfl⟩ ?_
  refine z_if_eq (tgt := 23) X dd_String_indexOf_1_4 (by decide) (fun q3 => ?_) (fun q3 => ?_)
  · rw [if_pos q3] at h
    refine z_aloadS_n X dd_String_indexOf_1_23 rfl 0 rfl ?_
    obtain ⟨u4, eu4, h⟩ := zb h
    refine z_getSv X dd_String_indexOf_1_24 (zst_s eu4) km_2177 ?_
    refine z_iload_n X dd_String_indexOf_1_27 rfl 1 rfl ?_
    refine z_iload_n X dd_String_indexOf_1_28 rfl 2 rfl ?_
    refine z_aloadS_n X dd_String_indexOf_1_29 rfl 0 rfl ?_
    obtain ⟨w6, ew6, h⟩ := zb h
    obtain ⟨q5, eq5, h⟩ := zb h
    refine z_callXi X [] rfl dd_String_indexOf_1_30 (c_String_length l eq5) (cwV 0 X.1.2.2.2.2 (zg_V km_884 km_885 km_886 km_140 km_887) rfl rfl rfl (by decide +kernel) ⟨Nat.le_of_ble_eq_true rfl, Nat.le_of_ble_eq_true rfl⟩) (zst_s ew6) rfl (Nat.le_of_ble_eq_true rfl) ⟨Nat.le_of_ble_eq_true rfl, Nat.le_of_ble_eq_true rfl⟩ ?_
    cases h
  · rw [if_neg q3] at h
    refine z_aloadS_n X dd_String_indexOf_1_7 rfl 0 rfl ?_
    obtain ⟨u7, eu7, h⟩ := zb h
    refine z_getSv X dd_String_indexOf_1_8 (zst_s eu7) km_2177 ?_
    refine z_iload_n X dd_String_indexOf_1_11 rfl 1 rfl ?_
    refine z_iload_n X dd_String_indexOf_1_12 rfl 2 rfl ?_
    refine z_aloadS_n X dd_String_indexOf_1_13 rfl 0 rfl ?_
    obtain ⟨w9, ew9, h⟩ := zb h
    obtain ⟨q8, eq8, h⟩ := zb h
    refine z_callXi X [] rfl dd_String_indexOf_1_14 (c_String_length l eq8) (cwV 0 X.1.2.2.2.2 (zg_V km_884 km_885 km_886 km_140 km_887) rfl rfl rfl (by decide +kernel) ⟨Nat.le_of_ble_eq_true rfl, Nat.le_of_ble_eq_true rfl⟩) (zst_s ew9) rfl (Nat.le_of_ble_eq_true rfl) ⟨Nat.le_of_ble_eq_true rfl, Nat.le_of_ble_eq_true rfl⟩ ?_
    obtain ⟨q10, eq10, h⟩ := zb h
    refine z_callSi X [zfb a0, .int a1, .int a2, .int q8.1] rfl dd_String_indexOf_1_17 (c_StringLatin1_indexOf l eq10) (va_cwS 4 X.1.2.2.2.2 (zg_S km_892 km_893 km_141 km_894) rfl rfl rfl (by decide +kernel) ⟨Nat.le_of_ble_eq_true rfl, Nat.le_of_ble_eq_true rfl⟩) rfl (Nat.le_of_ble_eq_true rfl) ⟨Nat.le_of_ble_eq_true rfl, Nat.le_of_ble_eq_true rfl⟩ ?_
    refine z_goto (tgt := 36) X dd_String_indexOf_1_20 (by decide) ?_
    refine z_sub [] rfl ?_
    exact t_String_indexOf_1_36 X H h
theorem dd_String_indexOf_0_0 : decode bb_String_indexOf_0 0 = .ok (.aload_n 0, 1) := by decide +kernel
theorem dd_String_indexOf_0_1 : decode bb_String_indexOf_0 1 = .ok (.iload_n 1, 1) := by decide +kernel
theorem dd_String_indexOf_0_2 : decode bb_String_indexOf_0 2 = .ok (.iconst 0, 1) := by decide +kernel
theorem dd_String_indexOf_0_3 : decode bb_String_indexOf_0 3 = .ok (.invokevirtual 633, 3) := by decide +kernel
theorem dd_String_indexOf_0_6 : decode bb_String_indexOf_0 6 = .ok (.ireturn, 1) := by decide +kernel
set_option maxRecDepth 100000 in
set_option maxHeartbeats 4000000 in
theorem c_String_indexOf_0 (l : Launch) {nf : Nat} {a0 : Nat} {a1 : Int32} {c : Zc} {res : Int32 × Zc} (h : f_String_indexOf_0 nf a0 a1 c = some res) : zM l yy_String_indexOf_0 ww_String_indexOf_0 3 70 0 0 [zfs a0, .int a1] c (fun D cid B => zQi D cid B res.1 res.2 c.length 0) := by
  refine z_met (cc := bb_String_indexOf_0) (maxL := 2) (ret := (some (.int))) (by decide +kernel) rfl (Nat.le_of_ble_eq_true rfl) ?_
  intro p e s m args below meth cd D cid B X h1 h2 h3 h4
  have X : zX p s m args cd D cid B bb_String_indexOf_0 2 rr_String zT := X
  have H : zH s meth B c.length (some (.int)) "indexOf" := ⟨h1, h2, h4, h3⟩
  unfold f_String_indexOf_0 at h
  show Zz p l e (zRm 3 70 0 0) s m args below meth cd _ D cid B 2 0 0 c 0 [(0, zfs a0), (1, .int a1)] []
  refine z_aloadS_n X dd_String_indexOf_0_0 rfl 0 rfl ?_
  refine z_iload_n X dd_String_indexOf_0_1 rfl 1 rfl ?_
  refine z_iconst (v := 0) X dd_String_indexOf_0_2 (by decide) ?_
  obtain ⟨w2, ew2, h⟩ := zb h
  obtain ⟨q1, eq1, h⟩ := zb h
  refine z_callXi X [.int a1, .int 0] rfl dd_String_indexOf_0_3 (c_String_indexOf_1 l eq1) (cwV 2 X.1.2.2.2.2 (zg_V km_874 km_875 km_876 km_140 km_877) rfl rfl rfl (by decide +kernel) ⟨Nat.le_of_ble_eq_true rfl, Nat.le_of_ble_eq_true rfl⟩) (zst_s ew2) rfl (Nat.le_of_ble_eq_true rfl) ⟨Nat.le_of_ble_eq_true rfl, Nat.le_of_ble_eq_true rfl⟩ ?_
  obtain rfl := Option.some.inj h
  exact z_iret X H.1 H.2.1 H.2.2.1 dd_String_indexOf_0_6
theorem dd_Tokens_letterKind_0 : decode bb_Tokens_letterKind 0 = .ok (.ldc 79, 2) := by decide +kernel
theorem dd_Tokens_letterKind_2 : decode bb_Tokens_letterKind 2 = .ok (.iload_n 1, 1) := by decide +kernel
theorem dd_Tokens_letterKind_3 : decode bb_Tokens_letterKind 3 = .ok (.invokevirtual 60, 3) := by decide +kernel
theorem dd_Tokens_letterKind_6 : decode bb_Tokens_letterKind 6 = .ok (.istore_n 2, 1) := by decide +kernel
theorem dd_Tokens_letterKind_7 : decode bb_Tokens_letterKind 7 = .ok (.iload_n 2, 1) := by decide +kernel
theorem dd_Tokens_letterKind_8 : decode bb_Tokens_letterKind 8 = .ok (.ifCond .lt 18, 3) := by decide +kernel
theorem dd_Tokens_letterKind_11 : decode bb_Tokens_letterKind 11 = .ok (.aload_n 0, 1) := by decide +kernel
theorem dd_Tokens_letterKind_12 : decode bb_Tokens_letterKind 12 = .ok (.getfield 15, 3) := by decide +kernel
theorem dd_Tokens_letterKind_15 : decode bb_Tokens_letterKind 15 = .ok (.aload_n 0, 1) := by decide +kernel
theorem dd_Tokens_letterKind_16 : decode bb_Tokens_letterKind 16 = .ok (.getfield 21, 3) := by decide +kernel
theorem dd_Tokens_letterKind_19 : decode bb_Tokens_letterKind 19 = .ok (.iload_n 2, 1) := by decide +kernel
theorem dd_Tokens_letterKind_20 : decode bb_Tokens_letterKind 20 = .ok (.bipush 11, 2) := by decide +kernel
theorem dd_Tokens_letterKind_22 : decode bb_Tokens_letterKind 22 = .ok (.imul, 1) := by decide +kernel
theorem dd_Tokens_letterKind_23 : decode bb_Tokens_letterKind 23 = .ok (.iastore, 1) := by decide +kernel
theorem dd_Tokens_letterKind_24 : decode bb_Tokens_letterKind 24 = .ok (.iconst 2, 1) := by decide +kernel
theorem dd_Tokens_letterKind_25 : decode bb_Tokens_letterKind 25 = .ok (.ireturn, 1) := by decide +kernel
theorem dd_Tokens_letterKind_26 : decode bb_Tokens_letterKind 26 = .ok (.ldc 81, 2) := by decide +kernel
theorem dd_Tokens_letterKind_28 : decode bb_Tokens_letterKind 28 = .ok (.iload_n 1, 1) := by decide +kernel
theorem dd_Tokens_letterKind_29 : decode bb_Tokens_letterKind 29 = .ok (.invokevirtual 60, 3) := by decide +kernel
theorem dd_Tokens_letterKind_32 : decode bb_Tokens_letterKind 32 = .ok (.istore_n 3, 1) := by decide +kernel
theorem dd_Tokens_letterKind_33 : decode bb_Tokens_letterKind 33 = .ok (.aload_n 0, 1) := by decide +kernel
theorem dd_Tokens_letterKind_34 : decode bb_Tokens_letterKind 34 = .ok (.getfield 15, 3) := by decide +kernel
theorem dd_Tokens_letterKind_37 : decode bb_Tokens_letterKind 37 = .ok (.aload_n 0, 1) := by decide +kernel
theorem dd_Tokens_letterKind_38 : decode bb_Tokens_letterKind 38 = .ok (.getfield 21, 3) := by decide +kernel
theorem dd_Tokens_letterKind_41 : decode bb_Tokens_letterKind 41 = .ok (.iload_n 3, 1) := by decide +kernel
theorem dd_Tokens_letterKind_42 : decode bb_Tokens_letterKind 42 = .ok (.iastore, 1) := by decide +kernel
theorem dd_Tokens_letterKind_43 : decode bb_Tokens_letterKind 43 = .ok (.iload_n 3, 1) := by decide +kernel
theorem dd_Tokens_letterKind_44 : decode bb_Tokens_letterKind 44 = .ok (.ifCond .lt 7, 3) := by decide +kernel
theorem dd_Tokens_letterKind_47 : decode bb_Tokens_letterKind 47 = .ok (.iconst 5, 1) := by decide +kernel
theorem dd_Tokens_letterKind_48 : decode bb_Tokens_letterKind 48 = .ok (.goto 4, 3) := by decide +kernel
theorem dd_Tokens_letterKind_51 : decode bb_Tokens_letterKind 51 = .ok (.iconst 0, 1) := by decide +kernel
theorem dd_Tokens_letterKind_52 : decode bb_Tokens_letterKind 52 = .ok (.ireturn, 1) := by decide +kernel
set_option maxRecDepth 100000 in
set_option maxHeartbeats 4000000 in
theorem t_Tokens_letterKind_52  (X : zX p s m args cd D cid B bb_Tokens_letterKind 4 rr_Tokens zT) (H : zH s meth B n0 (some (.int)) "letterKind") {nf : Nat} {s0 : Int32} {c : Zc} {res : Int32 × Zc} (h : f_Tokens_letterKind_52 nf s0 c = some res) : Zz p l e (zRm 4 91 0 0) s m args below meth cd (MQ below (zQi D cid B res.1 res.2 n0 0) args s 0 0 (fun q => B ≤ q)) D cid B 4 0 0 c 52 [] [.int s0] := by
  unfold f_Tokens_letterKind_52 at h
  obtain rfl := Option.some.inj h
  exact z_iret X H.1 H.2.1 H.2.2.1 dd_Tokens_letterKind_52
set_option maxRecDepth 100000 in
set_option maxHeartbeats 4000000 in
theorem c_Tokens_letterKind (l : Launch) {nf : Nat} {a0 : Nat} {a1 : Int32} {c : Zc} {res : Int32 × Zc} (h : f_Tokens_letterKind nf a0 a1 c = some res) : zM l yy_Tokens_letterKind ww_Tokens_letterKind 4 91 0 0 [.ref a0, .int a1] c (fun D cid B => zQi D cid B res.1 res.2 c.length 0) := by
  refine z_met (cc := bb_Tokens_letterKind) (maxL := 4) (ret := (some (.int))) (by decide +kernel) rfl (Nat.le_of_ble_eq_true rfl) ?_
  intro p e s m args below meth cd D cid B X h1 h2 h3 h4
  have X : zX p s m args cd D cid B bb_Tokens_letterKind 4 rr_Tokens zT := X
  have H : zH s meth B c.length (some (.int)) "letterKind" := ⟨h1, h2, h4, h3⟩
  unfold f_Tokens_letterKind at h
  show Zz p l e (zRm 4 91 0 0) s m args below meth cd _ D cid B 4 0 0 c 0 [(0, .ref a0), (1, .int a1)] []
  refine z_ldcS (i := 0) X dd_Tokens_letterKind_0 (by decide) rfl rfl ?_
  refine z_iload_n X dd_Tokens_letterKind_2 rfl 1 rfl ?_
  obtain ⟨w2, ew2, h⟩ := zb h
  obtain ⟨q1, eq1, h⟩ := zb h
  refine z_callXi X [.int a1] rfl dd_Tokens_letterKind_3 (c_String_indexOf_0 l eq1) (cwV 1 X.1.2.2.2.2 (zg_V km_870 km_871 km_872 km_140 km_873) rfl rfl rfl (by decide +kernel) ⟨Nat.le_of_ble_eq_true rfl, Nat.le_of_ble_eq_true rfl⟩) (zst_s ew2) rfl (Nat.le_of_ble_eq_true rfl) ⟨Nat.le_of_ble_eq_true rfl, Nat.le_of_ble_eq_true rfl⟩ ?_
  refine z_istore_n (lv' := [(2, .int q1.1), (0, .ref a0), (1, .int a1)]) X dd_Tokens_letterKind_6 rfl (by decide) rfl ?_
  refine z_iload_n X dd_Tokens_letterKind_7 rfl 0 rfl ?_
  refine z_if_lt (tgt := 26) X dd_Tokens_letterKind_8 (by decide) (fun q3 => ?_) (fun q3 => ?_)
  · rw [if_pos q3] at h
    refine z_ldcS (i := 1) X dd_Tokens_letterKind_26 (by decide) rfl rfl ?_
    refine z_iload_n X dd_Tokens_letterKind_28 rfl 2 rfl ?_
    obtain ⟨w5, ew5, h⟩ := zb h
    obtain ⟨q4, eq4, h⟩ := zb h
    refine z_callXi X [.int a1] rfl dd_Tokens_letterKind_29 (c_String_indexOf_0 l eq4) (cwV 1 X.1.2.2.2.2 (zg_V km_870 km_871 km_872 km_140 km_873) rfl rfl rfl (by decide +kernel) ⟨Nat.le_of_ble_eq_true rfl, Nat.le_of_ble_eq_true rfl⟩) (zst_s ew5) rfl (Nat.le_of_ble_eq_true rfl) ⟨Nat.le_of_ble_eq_true rfl, Nat.le_of_ble_eq_true rfl⟩ ?_
    refine z_istore_n (lv' := [(3, .int q4.1), (2, .int q1.1), (0, .ref a0), (1, .int a1)]) X dd_Tokens_letterKind_32 rfl (by decide) rfl ?_
    refine z_aload_n X dd_Tokens_letterKind_33 rfl 2 rfl ?_
    obtain ⟨v6, ev6, h⟩ := zb h
    refine z_get (j := 1) X dd_Tokens_letterKind_34 kc_3 ki_3 (by decide) km_418 (zgr_v ev6) ?_
    refine z_aload_n X dd_Tokens_letterKind_37 rfl 2 rfl ?_
    obtain ⟨v7, ev7, h⟩ := zb h
    refine z_get (j := 3) X dd_Tokens_letterKind_38 kc_3 ki_3 (by decide) km_422 (zgi_v ev7) ?_
    refine z_iload_n X dd_Tokens_letterKind_41 rfl 0 rfl ?_
    obtain ⟨c8, ec8, h⟩ := zb h
    refine z_iastore X dd_Tokens_letterKind_42 rfl ec8 ?_
    refine z_iload_n X dd_Tokens_letterKind_43 rfl 0 rfl ?_
    refine z_if_lt (tgt := 51) X dd_Tokens_letterKind_44 (by decide) (fun q9 => ?_) (fun q9 => ?_)
    · rw [if_pos q9] at h
      refine z_iconst (v := 0) X dd_Tokens_letterKind_51 (by decide) ?_
      refine z_sub [] rfl ?_
      exact t_Tokens_letterKind_52 X H h
    · rw [if_neg q9] at h
      refine z_iconst (v := 5) X dd_Tokens_letterKind_47 (by decide) ?_
      refine z_goto (tgt := 52) X dd_Tokens_letterKind_48 (by decide) ?_
      refine z_sub [] rfl ?_
      exact t_Tokens_letterKind_52 X H h
  · rw [if_neg q3] at h
    refine z_aload_n X dd_Tokens_letterKind_11 rfl 1 rfl ?_
    obtain ⟨v10, ev10, h⟩ := zb h
    refine z_get (j := 1) X dd_Tokens_letterKind_12 kc_3 ki_3 (by decide) km_418 (zgr_v ev10) ?_
    refine z_aload_n X dd_Tokens_letterKind_15 rfl 1 rfl ?_
    obtain ⟨v11, ev11, h⟩ := zb h
    refine z_get (j := 3) X dd_Tokens_letterKind_16 kc_3 ki_3 (by decide) km_422 (zgi_v ev11) ?_
    refine z_iload_n X dd_Tokens_letterKind_19 rfl 0 rfl ?_
    refine z_bipush (v := 11) X dd_Tokens_letterKind_20 (by decide) ?_
    refine z_imul X dd_Tokens_letterKind_22 ?_
    obtain ⟨c12, ec12, h⟩ := zb h
    refine z_iastore X dd_Tokens_letterKind_23 rfl ec12 ?_
    refine z_iconst (v := 2) X dd_Tokens_letterKind_24 (by decide) ?_
    obtain rfl := Option.some.inj h
    exact z_iret X H.1 H.2.1 H.2.2.1 dd_Tokens_letterKind_25
theorem dd_Tokens_numberedKind_0 : decode bb_Tokens_numberedKind 0 = .ok (.ldc 79, 2) := by decide +kernel
theorem dd_Tokens_numberedKind_2 : decode bb_Tokens_numberedKind 2 = .ok (.iload_n 1, 1) := by decide +kernel
theorem dd_Tokens_numberedKind_3 : decode bb_Tokens_numberedKind 3 = .ok (.invokevirtual 60, 3) := by decide +kernel
theorem dd_Tokens_numberedKind_6 : decode bb_Tokens_numberedKind 6 = .ok (.istore_n 3, 1) := by decide +kernel
theorem dd_Tokens_numberedKind_7 : decode bb_Tokens_numberedKind 7 = .ok (.aload_n 0, 1) := by decide +kernel
theorem dd_Tokens_numberedKind_8 : decode bb_Tokens_numberedKind 8 = .ok (.getfield 15, 3) := by decide +kernel
theorem dd_Tokens_numberedKind_11 : decode bb_Tokens_numberedKind 11 = .ok (.aload_n 0, 1) := by decide +kernel
theorem dd_Tokens_numberedKind_12 : decode bb_Tokens_numberedKind 12 = .ok (.getfield 21, 3) := by decide +kernel
theorem dd_Tokens_numberedKind_15 : decode bb_Tokens_numberedKind 15 = .ok (.iload_n 2, 1) := by decide +kernel
theorem dd_Tokens_numberedKind_16 : decode bb_Tokens_numberedKind 16 = .ok (.iastore, 1) := by decide +kernel
theorem dd_Tokens_numberedKind_17 : decode bb_Tokens_numberedKind 17 = .ok (.iload_n 3, 1) := by decide +kernel
theorem dd_Tokens_numberedKind_18 : decode bb_Tokens_numberedKind 18 = .ok (.ifCond .lt 22, 3) := by decide +kernel
theorem dd_Tokens_numberedKind_21 : decode bb_Tokens_numberedKind 21 = .ok (.aload_n 0, 1) := by decide +kernel
theorem dd_Tokens_numberedKind_22 : decode bb_Tokens_numberedKind 22 = .ok (.getfield 15, 3) := by decide +kernel
theorem dd_Tokens_numberedKind_25 : decode bb_Tokens_numberedKind 25 = .ok (.aload_n 0, 1) := by decide +kernel
theorem dd_Tokens_numberedKind_26 : decode bb_Tokens_numberedKind 26 = .ok (.getfield 21, 3) := by decide +kernel
theorem dd_Tokens_numberedKind_29 : decode bb_Tokens_numberedKind 29 = .ok (.iload_n 3, 1) := by decide +kernel
theorem dd_Tokens_numberedKind_30 : decode bb_Tokens_numberedKind 30 = .ok (.bipush 11, 2) := by decide +kernel
theorem dd_Tokens_numberedKind_32 : decode bb_Tokens_numberedKind 32 = .ok (.imul, 1) := by decide +kernel
theorem dd_Tokens_numberedKind_33 : decode bb_Tokens_numberedKind 33 = .ok (.iconst 1, 1) := by decide +kernel
theorem dd_Tokens_numberedKind_34 : decode bb_Tokens_numberedKind 34 = .ok (.iadd, 1) := by decide +kernel
theorem dd_Tokens_numberedKind_35 : decode bb_Tokens_numberedKind 35 = .ok (.iload_n 2, 1) := by decide +kernel
theorem dd_Tokens_numberedKind_36 : decode bb_Tokens_numberedKind 36 = .ok (.iadd, 1) := by decide +kernel
theorem dd_Tokens_numberedKind_37 : decode bb_Tokens_numberedKind 37 = .ok (.iastore, 1) := by decide +kernel
theorem dd_Tokens_numberedKind_38 : decode bb_Tokens_numberedKind 38 = .ok (.iconst 2, 1) := by decide +kernel
theorem dd_Tokens_numberedKind_39 : decode bb_Tokens_numberedKind 39 = .ok (.ireturn, 1) := by decide +kernel
theorem dd_Tokens_numberedKind_40 : decode bb_Tokens_numberedKind 40 = .ok (.iload_n 1, 1) := by decide +kernel
theorem dd_Tokens_numberedKind_41 : decode bb_Tokens_numberedKind 41 = .ok (.bipush 109, 2) := by decide +kernel
theorem dd_Tokens_numberedKind_43 : decode bb_Tokens_numberedKind 43 = .ok (.if_icmp .ne 11, 3) := by decide +kernel
theorem dd_Tokens_numberedKind_46 : decode bb_Tokens_numberedKind 46 = .ok (.iload_n 2, 1) := by decide +kernel
theorem dd_Tokens_numberedKind_47 : decode bb_Tokens_numberedKind 47 = .ok (.bipush 8, 2) := by decide +kernel
theorem dd_Tokens_numberedKind_49 : decode bb_Tokens_numberedKind 49 = .ok (.if_icmp .ge 5, 3) := by decide +kernel
theorem dd_Tokens_numberedKind_52 : decode bb_Tokens_numberedKind 52 = .ok (.iconst 3, 1) := by decide +kernel
theorem dd_Tokens_numberedKind_53 : decode bb_Tokens_numberedKind 53 = .ok (.ireturn, 1) := by decide +kernel
theorem dd_Tokens_numberedKind_54 : decode bb_Tokens_numberedKind 54 = .ok (.iload_n 1, 1) := by decide +kernel
theorem dd_Tokens_numberedKind_55 : decode bb_Tokens_numberedKind 55 = .ok (.bipush 99, 2) := by decide +kernel
theorem dd_Tokens_numberedKind_57 : decode bb_Tokens_numberedKind 57 = .ok (.if_icmp .ne 12, 3) := by decide +kernel
theorem dd_Tokens_numberedKind_60 : decode bb_Tokens_numberedKind 60 = .ok (.iload_n 2, 1) := by decide +kernel
theorem dd_Tokens_numberedKind_61 : decode bb_Tokens_numberedKind 61 = .ok (.iconst 4, 1) := by decide +kernel
theorem dd_Tokens_numberedKind_62 : decode bb_Tokens_numberedKind 62 = .ok (.if_icmp .ge 7, 3) := by decide +kernel
theorem dd_Tokens_numberedKind_65 : decode bb_Tokens_numberedKind 65 = .ok (.iconst 4, 1) := by decide +kernel
theorem dd_Tokens_numberedKind_66 : decode bb_Tokens_numberedKind 66 = .ok (.goto 4, 3) := by decide +kernel
theorem dd_Tokens_numberedKind_69 : decode bb_Tokens_numberedKind 69 = .ok (.iconst 0, 1) := by decide +kernel
theorem dd_Tokens_numberedKind_70 : decode bb_Tokens_numberedKind 70 = .ok (.ireturn, 1) := by decide +kernel
set_option maxRecDepth 100000 in
set_option maxHeartbeats 4000000 in
theorem t_Tokens_numberedKind_70  (X : zX p s m args cd D cid B bb_Tokens_numberedKind 4 rr_Tokens zT) (H : zH s meth B n0 (some (.int)) "numberedKind") {nf : Nat} {s0 : Int32} {c : Zc} {res : Int32 × Zc} (h : f_Tokens_numberedKind_70 nf s0 c = some res) : Zz p l e (zRm 4 91 0 0) s m args below meth cd (MQ below (zQi D cid B res.1 res.2 n0 0) args s 0 0 (fun q => B ≤ q)) D cid B 4 0 0 c 70 [] [.int s0] := by
  unfold f_Tokens_numberedKind_70 at h
  obtain rfl := Option.some.inj h
  exact z_iret X H.1 H.2.1 H.2.2.1 dd_Tokens_numberedKind_70
set_option maxRecDepth 100000 in
set_option maxHeartbeats 4000000 in
theorem t_Tokens_numberedKind_69  (X : zX p s m args cd D cid B bb_Tokens_numberedKind 4 rr_Tokens zT) (H : zH s meth B n0 (some (.int)) "numberedKind") {nf : Nat}  {c : Zc} {res : Int32 × Zc} (h : f_Tokens_numberedKind_69 nf  c = some res) : Zz p l e (zRm 4 91 0 0) s m args below meth cd (MQ below (zQi D cid B res.1 res.2 n0 0) args s 0 0 (fun q => B ≤ q)) D cid B 4 0 0 c 69 [] [] := by
  unfold f_Tokens_numberedKind_69 at h
  refine z_iconst (v := 0) X dd_Tokens_numberedKind_69 (by decide) ?_
  exact t_Tokens_numberedKind_70 X H h
set_option maxRecDepth 100000 in
set_option maxHeartbeats 4000000 in
theorem t_Tokens_numberedKind_54  (X : zX p s m args cd D cid B bb_Tokens_numberedKind 4 rr_Tokens zT) (H : zH s meth B n0 (some (.int)) "numberedKind") {nf : Nat} {x1 : Int32} {x2 : Int32} {c : Zc} {res : Int32 × Zc} (h : f_Tokens_numberedKind_54 nf x1 x2 c = some res) : Zz p l e (zRm 4 91 0 0) s m args below meth cd (MQ below (zQi D cid B res.1 res.2 n0 0) args s 0 0 (fun q => B ≤ q)) D cid B 4 0 0 c 54 [(1, .int x1), (2, .int x2)] [] := by
  unfold f_Tokens_numberedKind_54 at h
  refine z_iload_n X dd_Tokens_numberedKind_54 rfl 0 rfl ?_
  refine z_bipush (v := 99) X dd_Tokens_numberedKind_55 (by decide) ?_
  refine z_icmp_ne (tgt := 69) X dd_Tokens_numberedKind_57 (by decide) (fun q8 => ?_) (fun q8 => ?_)
  · rw [if_neg q8] at h
    refine z_sub [] rfl ?_
    exact t_Tokens_numberedKind_69 X H h
  · rw [if_pos q8] at h
    refine z_iload_n X dd_Tokens_numberedKind_60 rfl 1 rfl ?_
    refine z_iconst (v := 4) X dd_Tokens_numberedKind_61 (by decide) ?_
    refine z_icmp_ge (tgt := 69) X dd_Tokens_numberedKind_62 (by decide) (fun q9 => ?_) (fun q9 => ?_)
    · rw [if_pos q9] at h
      refine z_sub [] rfl ?_
      exact t_Tokens_numberedKind_69 X H h
    · rw [if_neg q9] at h
      refine z_iconst (v := 4) X dd_Tokens_numberedKind_65 (by decide) ?_
      refine z_goto (tgt := 70) X dd_Tokens_numberedKind_66 (by decide) ?_
      refine z_sub [] rfl ?_
      exact t_Tokens_numberedKind_70 X H h
set_option maxRecDepth 100000 in
set_option maxHeartbeats 4000000 in
theorem c_Tokens_numberedKind (l : Launch) {nf : Nat} {a0 : Nat} {a1 : Int32} {a2 : Int32} {c : Zc} {res : Int32 × Zc} (h : f_Tokens_numberedKind nf a0 a1 a2 c = some res) : zM l yy_Tokens_numberedKind ww_Tokens_numberedKind 4 91 0 0 [.ref a0, .int a1, .int a2] c (fun D cid B => zQi D cid B res.1 res.2 c.length 0) := by
  refine z_met (cc := bb_Tokens_numberedKind) (maxL := 4) (ret := (some (.int))) (by decide +kernel) rfl (Nat.le_of_ble_eq_true rfl) ?_
  intro p e s m args below meth cd D cid B X h1 h2 h3 h4
  have X : zX p s m args cd D cid B bb_Tokens_numberedKind 4 rr_Tokens zT := X
  have H : zH s meth B c.length (some (.int)) "numberedKind" := ⟨h1, h2, h4, h3⟩
  unfold f_Tokens_numberedKind at h
  show Zz p l e (zRm 4 91 0 0) s m args below meth cd _ D cid B 4 0 0 c 0 [(0, .ref a0), (1, .int a1), (2, .int a2)] []
  refine z_ldcS (i := 0) X dd_Tokens_numberedKind_0 (by decide) rfl rfl ?_
  refine z_iload_n X dd_Tokens_numberedKind_2 rfl 1 rfl ?_
  obtain ⟨w2, ew2, h⟩ := zb h
  obtain ⟨q1, eq1, h⟩ := zb h
  refine z_callXi X [.int a1] rfl dd_Tokens_numberedKind_3 (c_String_indexOf_0 l eq1) (cwV 1 X.1.2.2.2.2 (zg_V km_870 km_871 km_872 km_140 km_873) rfl rfl rfl (by decide +kernel) ⟨Nat.le_of_ble_eq_true rfl, Nat.le_of_ble_eq_true rfl⟩) (zst_s ew2) rfl (Nat.le_of_ble_eq_true rfl) ⟨Nat.le_of_ble_eq_true rfl, Nat.le_of_ble_eq_true rfl⟩ ?_
  refine z_istore_n (lv' := [(3, .int q1.1), (0, .ref a0), (1, .int a1), (2, .int a2)]) X dd_Tokens_numberedKind_6 rfl (by decide) rfl ?_
  refine z_aload_n X dd_Tokens_numberedKind_7 rfl 1 rfl ?_
  obtain ⟨v3, ev3, h⟩ := zb h
  refine z_get (j := 1) X dd_Tokens_numberedKind_8 kc_3 ki_3 (by decide) km_418 (zgr_v ev3) ?_
  refine z_aload_n X dd_Tokens_numberedKind_11 rfl 1 rfl ?_
  obtain ⟨v4, ev4, h⟩ := zb h
  refine z_get (j := 3) X dd_Tokens_numberedKind_12 kc_3 ki_3 (by decide) km_422 (zgi_v ev4) ?_
  refine z_iload_n X dd_Tokens_numberedKind_15 rfl 3 rfl ?_
  obtain ⟨c5, ec5, h⟩ := zb h
  refine z_iastore X dd_Tokens_numberedKind_16 rfl ec5 ?_
  refine z_iload_n X dd_Tokens_numberedKind_17 rfl 0 rfl ?_
  refine z_if_lt (tgt := 40) X dd_Tokens_numberedKind_18 (by decide) (fun q6 => ?_) (fun q6 => ?_)
  · rw [if_pos q6] at h
    refine z_iload_n X dd_Tokens_numberedKind_40 rfl 2 rfl ?_
    refine z_bipush (v := 109) X dd_Tokens_numberedKind_41 (by decide) ?_
    refine z_icmp_ne (tgt := 54) X dd_Tokens_numberedKind_43 (by decide) (fun q7 => ?_) (fun q7 => ?_)
    · rw [if_neg q7] at h
      refine z_sub [2, 3] rfl ?_
      exact t_Tokens_numberedKind_54 X H h
    · rw [if_pos q7] at h
      refine z_iload_n X dd_Tokens_numberedKind_46 rfl 3 rfl ?_
      refine z_bipush (v := 8) X dd_Tokens_numberedKind_47 (by decide) ?_
      refine z_icmp_ge (tgt := 54) X dd_Tokens_numberedKind_49 (by decide) (fun q10 => ?_) (fun q10 => ?_)
      · rw [if_pos q10] at h
        refine z_sub [2, 3] rfl ?_
        exact t_Tokens_numberedKind_54 X H h
      · rw [if_neg q10] at h
        refine z_iconst (v := 3) X dd_Tokens_numberedKind_52 (by decide) ?_
        obtain rfl := Option.some.inj h
        exact z_iret X H.1 H.2.1 H.2.2.1 dd_Tokens_numberedKind_53
  · rw [if_neg q6] at h
    refine z_aload_n X dd_Tokens_numberedKind_21 rfl 1 rfl ?_
    obtain ⟨v11, ev11, h⟩ := zb h
    refine z_get (j := 1) X dd_Tokens_numberedKind_22 kc_3 ki_3 (by decide) km_418 (zgr_v ev11) ?_
    refine z_aload_n X dd_Tokens_numberedKind_25 rfl 1 rfl ?_
    obtain ⟨v12, ev12, h⟩ := zb h
    refine z_get (j := 3) X dd_Tokens_numberedKind_26 kc_3 ki_3 (by decide) km_422 (zgi_v ev12) ?_
    refine z_iload_n X dd_Tokens_numberedKind_29 rfl 0 rfl ?_
    refine z_bipush (v := 11) X dd_Tokens_numberedKind_30 (by decide) ?_
    refine z_imul X dd_Tokens_numberedKind_32 ?_
    refine z_iconst (v := 1) X dd_Tokens_numberedKind_33 (by decide) ?_
    refine z_iadd X dd_Tokens_numberedKind_34 ?_
    refine z_iload_n X dd_Tokens_numberedKind_35 rfl 3 rfl ?_
    refine z_iadd X dd_Tokens_numberedKind_36 ?_
    obtain ⟨c13, ec13, h⟩ := zb h
    refine z_iastore X dd_Tokens_numberedKind_37 rfl ec13 ?_
    refine z_iconst (v := 2) X dd_Tokens_numberedKind_38 (by decide) ?_
    obtain rfl := Option.some.inj h
    exact z_iret X H.1 H.2.1 H.2.2.1 dd_Tokens_numberedKind_39
theorem dd_Preconditions_checkIndex_0 : decode bb_Preconditions_checkIndex 0 = .ok (.iload_n 0, 1) := by decide +kernel
theorem dd_Preconditions_checkIndex_1 : decode bb_Preconditions_checkIndex 1 = .ok (.ifCond .lt 8, 3) := by decide +kernel
theorem dd_Preconditions_checkIndex_4 : decode bb_Preconditions_checkIndex 4 = .ok (.iload_n 0, 1) := by decide +kernel
theorem dd_Preconditions_checkIndex_5 : decode bb_Preconditions_checkIndex 5 = .ok (.iload_n 1, 1) := by decide +kernel
theorem dd_Preconditions_checkIndex_6 : decode bb_Preconditions_checkIndex 6 = .ok (.if_icmp .lt 10, 3) := by decide +kernel
theorem dd_Preconditions_checkIndex_9 : decode bb_Preconditions_checkIndex 9 = .ok (.aload_n 2, 1) := by decide +kernel
theorem dd_Preconditions_checkIndex_10 : decode bb_Preconditions_checkIndex 10 = .ok (.iload_n 0, 1) := by decide +kernel
theorem dd_Preconditions_checkIndex_11 : decode bb_Preconditions_checkIndex 11 = .ok (.iload_n 1, 1) := by decide +kernel
theorem dd_Preconditions_checkIndex_12 : decode bb_Preconditions_checkIndex 12 = .ok (.invokestatic 95, 3) := by decide +kernel
theorem dd_Preconditions_checkIndex_15 : decode bb_Preconditions_checkIndex 15 = .ok (.athrow, 1) := by decide +kernel
theorem dd_Preconditions_checkIndex_16 : decode bb_Preconditions_checkIndex 16 = .ok (.iload_n 0, 1) := by decide +kernel
theorem dd_Preconditions_checkIndex_17 : decode bb_Preconditions_checkIndex 17 = .ok (.ireturn, 1) := by decide +kernel
set_option maxRecDepth 100000 in
set_option maxHeartbeats 4000000 in
theorem c_Preconditions_checkIndex_n (l : Launch) {nf : Nat} {a0 : Int32} {a1 : Int32} {c : Zc} {res : Int32 × Zc} (h : f_Preconditions_checkIndex nf a0 a1 c = some res) : zM l yy_Preconditions_checkIndex ww_Preconditions_checkIndex 0 0 0 0 [.int a0, .int a1, .null] c (fun D cid B => zQi D cid B res.1 res.2 c.length 0) := by
  refine z_met (cc := bb_Preconditions_checkIndex) (maxL := 3) (ret := (some (.int))) (by decide +kernel) rfl (Nat.le_of_ble_eq_true rfl) ?_
  intro p e s m args below meth cd D cid B X h1 h2 h3 h4
  have X : zX p s m args cd D cid B bb_Preconditions_checkIndex 3 rr_Preconditions zT := X
  have H : zH s meth B c.length (some (.int)) "checkIndex" := ⟨h1, h2, h4, h3⟩
  unfold f_Preconditions_checkIndex at h
  show Zz p l e (zRm 0 0 0 0) s m args below meth cd _ D cid B 3 0 0 c 0 [(0, .int a0), (1, .int a1), (2, .null)] []
  refine z_iload_n X dd_Preconditions_checkIndex_0 rfl 0 rfl ?_
  refine z_if_lt (tgt := 9) X dd_Preconditions_checkIndex_1 (by decide) (fun q1 => ?_) (fun q1 => ?_)
  · rw [if_pos q1] at h
    cases h
  · rw [if_neg q1] at h
    refine z_iload_n X dd_Preconditions_checkIndex_4 rfl 0 rfl ?_
    refine z_iload_n X dd_Preconditions_checkIndex_5 rfl 1 rfl ?_
    refine z_icmp_lt (tgt := 16) X dd_Preconditions_checkIndex_6 (by decide) (fun q2 => ?_) (fun q2 => ?_)
    · rw [if_pos q2] at h
      refine z_iload_n X dd_Preconditions_checkIndex_16 rfl 0 rfl ?_
      obtain rfl := Option.some.inj h
      exact z_iret X H.1 H.2.1 H.2.2.1 dd_Preconditions_checkIndex_17
    · rw [if_neg q2] at h
      cases h
set_option maxRecDepth 100000 in
set_option maxHeartbeats 4000000 in
theorem c_Preconditions_checkIndex_r (l : Launch) {nf : Nat} {a0 : Int32} {a1 : Int32} {c : Zc} {res : Int32 × Zc} (h : f_Preconditions_checkIndex nf a0 a1 c = some res) : zM l yy_Preconditions_checkIndex ww_Preconditions_checkIndex 0 0 0 0 [.int a0, .int a1, .retAddr 99] c (fun D cid B => zQi D cid B res.1 res.2 c.length 0) := by
  refine z_met (cc := bb_Preconditions_checkIndex) (maxL := 3) (ret := (some (.int))) (by decide +kernel) rfl (Nat.le_of_ble_eq_true rfl) ?_
  intro p e s m args below meth cd D cid B X h1 h2 h3 h4
  have X : zX p s m args cd D cid B bb_Preconditions_checkIndex 3 rr_Preconditions zT := X
  have H : zH s meth B c.length (some (.int)) "checkIndex" := ⟨h1, h2, h4, h3⟩
  unfold f_Preconditions_checkIndex at h
  show Zz p l e (zRm 0 0 0 0) s m args below meth cd _ D cid B 3 0 0 c 0 [(0, .int a0), (1, .int a1), (2, .retAddr 99)] []
  refine z_iload_n X dd_Preconditions_checkIndex_0 rfl 0 rfl ?_
  refine z_if_lt (tgt := 9) X dd_Preconditions_checkIndex_1 (by decide) (fun q1 => ?_) (fun q1 => ?_)
  · rw [if_pos q1] at h
    cases h
  · rw [if_neg q1] at h
    refine z_iload_n X dd_Preconditions_checkIndex_4 rfl 0 rfl ?_
    refine z_iload_n X dd_Preconditions_checkIndex_5 rfl 1 rfl ?_
    refine z_icmp_lt (tgt := 16) X dd_Preconditions_checkIndex_6 (by decide) (fun q2 => ?_) (fun q2 => ?_)
    · rw [if_pos q2] at h
      refine z_iload_n X dd_Preconditions_checkIndex_16 rfl 0 rfl ?_
      obtain rfl := Option.some.inj h
      exact z_iret X H.1 H.2.1 H.2.2.1 dd_Preconditions_checkIndex_17
    · rw [if_neg q2] at h
      cases h
theorem dd_String_checkIndex_0 : decode bb_String_checkIndex 0 = .ok (.iload_n 0, 1) := by decide +kernel
theorem dd_String_checkIndex_1 : decode bb_String_checkIndex 1 = .ok (.iload_n 1, 1) := by decide +kernel
theorem dd_String_checkIndex_2 : decode bb_String_checkIndex 2 = .ok (.getstatic 1053, 3) := by decide +kernel
theorem dd_String_checkIndex_5 : decode bb_String_checkIndex 5 = .ok (.invokestatic 1059, 3) := by decide +kernel
theorem dd_String_checkIndex_8 : decode bb_String_checkIndex 8 = .ok (.pop, 1) := by decide +kernel
theorem dd_String_checkIndex_9 : decode bb_String_checkIndex 9 = .ok (.return_, 1) := by decide +kernel
set_option maxRecDepth 100000 in
set_option maxHeartbeats 4000000 in
theorem c_String_checkIndex (l : Launch) {nf : Nat} {a0 : Int32} {a1 : Int32} {c : Zc} {res : Zc} (h : f_String_checkIndex nf a0 a1 c = some res) : zM l yy_String_checkIndex ww_String_checkIndex 1 22 0 0 [.int a0, .int a1] c (fun D cid B => zQv D cid B res c.length 0) := by
  refine z_met (cc := bb_String_checkIndex) (maxL := 2) (ret := none) (by decide +kernel) rfl (Nat.le_of_ble_eq_true rfl) ?_
  intro p e s m args below meth cd D cid B X h1 h2 h3 h4
  have X : zX p s m args cd D cid B bb_String_checkIndex 2 rr_String zT := X
  have H : zH s meth B c.length none "checkIndex" := ⟨h1, h2, h4, h3⟩
  unfold f_String_checkIndex at h
  show Zz p l e (zRm 1 22 0 0) s m args below meth cd _ D cid B 2 0 0 c 0 [(0, .int a0), (1, .int a1)] []
  refine z_iload_n X dd_String_checkIndex_0 rfl 0 rfl ?_
  refine z_iload_n X dd_String_checkIndex_1 rfl 1 rfl ?_
  refine z_getsF X dd_String_checkIndex_2 km_923 ?_ ?_
  · obtain ⟨q1, eq1, h⟩ := zb h
    refine z_callSi X [.int a0, .int a1,  .null] rfl dd_String_checkIndex_5 (c_Preconditions_checkIndex_n l eq1) (va_cwS 3 X.1.2.2.2.2 (zg_S km_975 km_976 km_143 km_977) rfl rfl rfl (by decide +kernel) ⟨Nat.le_of_ble_eq_true rfl, Nat.le_of_ble_eq_true rfl⟩) rfl (Nat.le_of_ble_eq_true rfl) ⟨Nat.le_of_ble_eq_true rfl, Nat.le_of_ble_eq_true rfl⟩ ?_
    refine z_pop X dd_String_checkIndex_8 rfl ?_
    obtain rfl := Option.some.inj h
    exact z_vret X H.1 H.2.1 H.2.2.1 dd_String_checkIndex_9
  · obtain ⟨q1, eq1, h⟩ := zb h
    refine z_callSi X [.int a0, .int a1,  (.retAddr 99)] rfl dd_String_checkIndex_5 (c_Preconditions_checkIndex_r l eq1) (va_cwS 3 X.1.2.2.2.2 (zg_S km_975 km_976 km_143 km_977) rfl rfl rfl (by decide +kernel) ⟨Nat.le_of_ble_eq_true rfl, Nat.le_of_ble_eq_true rfl⟩) rfl (Nat.le_of_ble_eq_true rfl) ⟨Nat.le_of_ble_eq_true rfl, Nat.le_of_ble_eq_true rfl⟩ ?_
    refine z_pop X dd_String_checkIndex_8 rfl ?_
    obtain rfl := Option.some.inj h
    exact z_vret X H.1 H.2.1 H.2.2.1 dd_String_checkIndex_9
theorem dd_StringLatin1_charAt_0 : decode bb_StringLatin1_charAt 0 = .ok (.iload_n 1, 1) := by decide +kernel
theorem dd_StringLatin1_charAt_1 : decode bb_StringLatin1_charAt 1 = .ok (.aload_n 0, 1) := by decide +kernel
theorem dd_StringLatin1_charAt_2 : decode bb_StringLatin1_charAt 2 = .ok (.arraylength, 1) := by decide +kernel
theorem dd_StringLatin1_charAt_3 : decode bb_StringLatin1_charAt 3 = .ok (.invokestatic 9, 3) := by decide +kernel
theorem dd_StringLatin1_charAt_6 : decode bb_StringLatin1_charAt 6 = .ok (.aload_n 0, 1) := by decide +kernel
theorem dd_StringLatin1_charAt_7 : decode bb_StringLatin1_charAt 7 = .ok (.iload_n 1, 1) := by decide +kernel
theorem dd_StringLatin1_charAt_8 : decode bb_StringLatin1_charAt 8 = .ok (.baload, 1) := by decide +kernel
theorem dd_StringLatin1_charAt_9 : decode bb_StringLatin1_charAt 9 = .ok (.sipush 255, 3) := by decide +kernel
theorem dd_StringLatin1_charAt_12 : decode bb_StringLatin1_charAt 12 = .ok (.iand, 1) := by decide +kernel
theorem dd_StringLatin1_charAt_13 : decode bb_StringLatin1_charAt 13 = .ok (.i2c, 1) := by decide +kernel
theorem dd_StringLatin1_charAt_14 : decode bb_StringLatin1_charAt 14 = .ok (.ireturn, 1) := by decide +kernel
set_option maxRecDepth 100000 in
set_option maxHeartbeats 4000000 in
theorem c_StringLatin1_charAt (l : Launch) {nf : Nat} {a0 : Nat} {a1 : Int32} {c : Zc} {res : Int32 × Zc} (h : f_StringLatin1_charAt nf a0 a1 c = some res) : zM l yy_StringLatin1_charAt ww_StringLatin1_charAt 2 43 0 0 [zfb a0, .int a1] c (fun D cid B => zQi D cid B res.1 res.2 c.length 0) := by
  refine z_met (cc := bb_StringLatin1_charAt) (maxL := 2) (ret := (some (.char))) (by decide +kernel) rfl (Nat.le_of_ble_eq_true rfl) ?_
  intro p e s m args below meth cd D cid B X h1 h2 h3 h4
  have X : zX p s m args cd D cid B bb_StringLatin1_charAt 2 rr_StringLatin1 zT := X
  have H : zH s meth B c.length (some (.char)) "charAt" := ⟨h1, h2, h4, h3⟩
  unfold f_StringLatin1_charAt at h
  show Zz p l e (zRm 2 43 0 0) s m args below meth cd _ D cid B 2 0 0 c 0 [(0, zfb a0), (1, .int a1)] []
  refine z_iload_n X dd_StringLatin1_charAt_0 rfl 1 rfl ?_
  refine z_aloadT_n X dd_StringLatin1_charAt_1 rfl 0 rfl ?_
  obtain ⟨u1, eu1, h⟩ := zb h
  refine z_alenS X dd_StringLatin1_charAt_2 (zst_s eu1) rfl ?_
  obtain ⟨q2, eq2, h⟩ := zb h
  refine z_callSv X [.int a1, .int (Int32.ofNat (zs_len.getD a0 0))] rfl dd_StringLatin1_charAt_3 (c_String_checkIndex l eq2) (va_cwS 2 X.1.2.2.2.2 (zg_S km_972 km_973 km_140 km_974) rfl rfl rfl (by decide +kernel) ⟨Nat.le_of_ble_eq_true rfl, Nat.le_of_ble_eq_true rfl⟩) rfl (Nat.le_of_ble_eq_true rfl) ⟨Nat.le_of_ble_eq_true rfl, Nat.le_of_ble_eq_true rfl⟩ ?_
  refine z_aloadT_n X dd_StringLatin1_charAt_6 rfl 0 rfl ?_
  refine z_iload_n X dd_StringLatin1_charAt_7 rfl 1 rfl ?_
  obtain ⟨v3, ev3, h⟩ := zb h
  refine z_baldS X dd_StringLatin1_charAt_8 ev3 ?_
  refine z_sipush (v := 255) X dd_StringLatin1_charAt_9 (by decide) ?_
  refine z_iand X dd_StringLatin1_charAt_12 ?_
  refine z_i2c X dd_StringLatin1_charAt_13 ?_
  obtain ⟨hz, h⟩ := zrn_s h
  obtain rfl := h
  exact z_zret X H.1 (zn_c hz) H.2.1 H.2.2.1 dd_StringLatin1_charAt_14
theorem dd_String_charAt_0 : decode bb_String_charAt 0 = .ok (.aload_n 0, 1) := by decide +kernel
theorem dd_String_charAt_1 : decode bb_String_charAt 1 = .ok (.invokevirtual 492, 3) := by decide +kernel
theorem dd_String_charAt_4 : decode bb_String_charAt 4 = .ok (.ifCond .eq 12, 3) := by decide +kernel
theorem dd_String_charAt_7 : decode bb_String_charAt 7 = .ok (.aload_n 0, 1) := by decide +kernel
theorem dd_String_charAt_8 : decode bb_String_charAt 8 = .ok (.getfield 9, 3) := by decide +kernel
theorem dd_String_charAt_11 : decode bb_String_charAt 11 = .ok (.iload_n 1, 1) := by decide +kernel
theorem dd_String_charAt_12 : decode bb_String_charAt 12 = .ok (.invokestatic 495, 3) := by decide +kernel
theorem dd_String_charAt_15 : decode bb_String_charAt 15 = .ok (.ireturn, 1) := by decide +kernel
theorem dd_String_charAt_16 : decode bb_String_charAt 16 = .ok (.aload_n 0, 1) := by decide +kernel
theorem dd_String_charAt_17 : decode bb_String_charAt 17 = .ok (.getfield 9, 3) := by decide +kernel
theorem dd_String_charAt_20 : decode bb_String_charAt 20 = .ok (.iload_n 1, 1) := by decide +kernel
theorem dd_String_charAt_21 : decode bb_String_charAt 21 = .ok (.invokestatic 498, 3) := by decide +kernel
theorem dd_String_charAt_24 : decode bb_String_charAt 24 = .ok (.ireturn, 1) := by decide +kernel
set_option maxRecDepth 100000 in
set_option maxHeartbeats 4000000 in
theorem c_String_charAt (l : Launch) {nf : Nat} {a0 : Nat} {a1 : Int32} {c : Zc} {res : Int32 × Zc} (h : f_String_charAt nf a0 a1 c = some res) : zM l yy_String_charAt ww_String_charAt 3 64 0 0 [zfs a0, .int a1] c (fun D cid B => zQi D cid B res.1 res.2 c.length 0) := by
  refine z_met (cc := bb_String_charAt) (maxL := 2) (ret := (some (.char))) (by decide +kernel) rfl (Nat.le_of_ble_eq_true rfl) ?_
  intro p e s m args below meth cd D cid B X h1 h2 h3 h4
  have X : zX p s m args cd D cid B bb_String_charAt 2 rr_String zT := X
  have H : zH s meth B c.length (some (.char)) "charAt" := ⟨h1, h2, h4, h3⟩
  unfold f_String_charAt at h
  show Zz p l e (zRm 3 64 0 0) s m args below meth cd _ D cid B 2 0 0 c 0 [(0, zfs a0), (1, .int a1)] []
  refine z_aloadS_n X dd_String_charAt_0 rfl 0 rfl ?_
  obtain ⟨w2, ew2, h⟩ := zb h
  obtain ⟨q1, eq1, h⟩ := zb h
  refine z_callXi X [] rfl dd_String_charAt_1 (c_String_isLatin1 l eq1) (cwV 0 X.1.2.2.2.2 (zg_V km_878 km_879 km_880 km_140 km_881) rfl rfl rfl (by decide +kernel) ⟨Nat.le_of_ble_eq_true rfl, Nat.le_of_ble_eq_true rfl⟩) (zst_s ew2) rfl (Nat.le_of_ble_eq_true rfl) ⟨Nat.le_of_ble_eq_true rfl, Nat.le_of_ble_eq_true rfl⟩ ?_
  refine z_if_eq (tgt := 16) X dd_String_charAt_4 (by decide) (fun q3 => ?_) (fun q3 => ?_)
  · rw [if_pos q3] at h
    refine z_aloadS_n X dd_String_charAt_16 rfl 0 rfl ?_
    obtain ⟨u4, eu4, h⟩ := zb h
    refine z_getSv X dd_String_charAt_17 (zst_s eu4) km_2177 ?_
    refine z_iload_n X dd_String_charAt_20 rfl 1 rfl ?_
    cases h
  · rw [if_neg q3] at h
    refine z_aloadS_n X dd_String_charAt_7 rfl 0 rfl ?_
    obtain ⟨u5, eu5, h⟩ := zb h
    refine z_getSv X dd_String_charAt_8 (zst_s eu5) km_2177 ?_
    refine z_iload_n X dd_String_charAt_11 rfl 1 rfl ?_
    obtain ⟨q6, eq6, h⟩ := zb h
    refine z_callSi X [zfb a0, .int a1] rfl dd_String_charAt_12 (c_StringLatin1_charAt l eq6) (va_cwS 2 X.1.2.2.2.2 (zg_S km_969 km_970 km_141 km_971) rfl rfl rfl (by decide +kernel) ⟨Nat.le_of_ble_eq_true rfl, Nat.le_of_ble_eq_true rfl⟩) rfl (Nat.le_of_ble_eq_true rfl) ⟨Nat.le_of_ble_eq_true rfl, Nat.le_of_ble_eq_true rfl⟩ ?_
    obtain ⟨hz, h⟩ := zrn_s h
    obtain rfl := h
    exact z_zret X H.1 (zn_c hz) H.2.1 H.2.2.1 dd_String_charAt_15
theorem dd_Tokens_isSame_0 : decode bb_Tokens_isSame 0 = .ok (.iload_n 1, 1) := by decide +kernel
theorem dd_Tokens_isSame_1 : decode bb_Tokens_isSame 1 = .ok (.istore 4, 2) := by decide +kernel
theorem dd_Tokens_isSame_3 : decode bb_Tokens_isSame 3 = .ok (.iload 4, 2) := by decide +kernel
theorem dd_Tokens_isSame_5 : decode bb_Tokens_isSame 5 = .ok (.iload_n 2, 1) := by decide +kernel
theorem dd_Tokens_isSame_6 : decode bb_Tokens_isSame 6 = .ok (.if_icmp .ge 32, 3) := by decide +kernel
theorem dd_Tokens_isSame_9 : decode bb_Tokens_isSame 9 = .ok (.ldc 83, 2) := by decide +kernel
theorem dd_Tokens_isSame_11 : decode bb_Tokens_isSame 11 = .ok (.iload_n 3, 1) := by decide +kernel
theorem dd_Tokens_isSame_12 : decode bb_Tokens_isSame 12 = .ok (.iload 4, 2) := by decide +kernel
theorem dd_Tokens_isSame_14 : decode bb_Tokens_isSame 14 = .ok (.iadd, 1) := by decide +kernel
theorem dd_Tokens_isSame_15 : decode bb_Tokens_isSame 15 = .ok (.iload_n 1, 1) := by decide +kernel
theorem dd_Tokens_isSame_16 : decode bb_Tokens_isSame 16 = .ok (.isub, 1) := by decide +kernel
theorem dd_Tokens_isSame_17 : decode bb_Tokens_isSame 17 = .ok (.invokevirtual 88, 3) := by decide +kernel
theorem dd_Tokens_isSame_20 : decode bb_Tokens_isSame 20 = .ok (.aload_n 0, 1) := by decide +kernel
theorem dd_Tokens_isSame_21 : decode bb_Tokens_isSame 21 = .ok (.getfield 25, 3) := by decide +kernel
theorem dd_Tokens_isSame_24 : decode bb_Tokens_isSame 24 = .ok (.iload 4, 2) := by decide +kernel
theorem dd_Tokens_isSame_26 : decode bb_Tokens_isSame 26 = .ok (.baload, 1) := by decide +kernel
theorem dd_Tokens_isSame_27 : decode bb_Tokens_isSame 27 = .ok (.if_icmp .eq 5, 3) := by decide +kernel
theorem dd_Tokens_isSame_30 : decode bb_Tokens_isSame 30 = .ok (.iconst 0, 1) := by decide +kernel
theorem dd_Tokens_isSame_31 : decode bb_Tokens_isSame 31 = .ok (.ireturn, 1) := by decide +kernel
theorem dd_Tokens_isSame_32 : decode bb_Tokens_isSame 32 = .ok (.iinc 4 1, 3) := by decide +kernel
theorem dd_Tokens_isSame_35 : decode bb_Tokens_isSame 35 = .ok (.goto (-32), 3) := by decide +kernel
theorem dd_Tokens_isSame_38 : decode bb_Tokens_isSame 38 = .ok (.iconst 1, 1) := by decide +kernel
theorem dd_Tokens_isSame_39 : decode bb_Tokens_isSame 39 = .ok (.ireturn, 1) := by decide +kernel
set_option maxRecDepth 100000 in
set_option maxHeartbeats 4000000 in
theorem u_Tokens_isSame_3  (X : zX p s m args cd D cid B bb_Tokens_isSame 5 rr_Tokens zT) (H : zH s meth B n0 (some (.boolean)) "isSame") {nf : Nat} {x0 : Nat} {x1 : Int32} {x2 : Int32} {x3 : Int32} {x4 : Int32} {c : Zc} {r : (Nat × Int32 × Int32 × Int32 × Int32 × Zc) ⊕ ((Zc) ⊕ (Zc))} (h : g_Tokens_isSame_3 nf x0 x1 x2 x3 x4 c = some r) (k0 : ∀ a, r = .inl a → (fun a : Nat × Int32 × Int32 × Int32 × Int32 × Zc => Zz p l e (zRm 4 85 0 0) s m args below meth cd Q D cid B 5 0 0 a.2.2.2.2.2 3 [(0, .ref a.1), (1, .int a.2.1), (2, .int a.2.2.1), (3, .int a.2.2.2.1), (4, .int a.2.2.2.2.1)] []) a) (k1 : ∀ b, r = .inr b → (fun b : (Zc) ⊕ (Zc) => Sum.elim (fun b => Zz p l e (zRm 4 85 0 0) s m args below meth cd Q D cid B 5 0 0 b 30 [] []) (fun b => Zz p l e (zRm 4 85 0 0) s m args below meth cd Q D cid B 5 0 0 b 38 [] []) b) b) : Zz p l e (zRm 4 85 0 0) s m args below meth cd Q D cid B 5 0 0 c 3 [(0, .ref x0), (1, .int x1), (2, .int x2), (3, .int x3), (4, .int x4)] [] := by
  unfold g_Tokens_isSame_3 at h
  refine z_iload X dd_Tokens_isSame_3 4 rfl ?_
  refine z_iload_n X dd_Tokens_isSame_5 rfl 2 rfl ?_
  refine z_icmp_ge (tgt := 38) X dd_Tokens_isSame_6 (by decide) (fun q1 => ?_) (fun q1 => ?_)
  · rw [if_pos q1] at h
    refine z_sub [] rfl ?_
    obtain rfl := Option.some.inj h
    exact k1 _ rfl
  · rw [if_neg q1] at h
    refine z_ldcS (i := 2) X dd_Tokens_isSame_9 (by decide) rfl rfl ?_
    refine z_iload_n X dd_Tokens_isSame_11 rfl 3 rfl ?_
    refine z_iload X dd_Tokens_isSame_12 4 rfl ?_
    refine z_iadd X dd_Tokens_isSame_14 ?_
    refine z_iload_n X dd_Tokens_isSame_15 rfl 1 rfl ?_
    refine z_isub X dd_Tokens_isSame_16 ?_
    obtain ⟨w3, ew3, h⟩ := zb h
    obtain ⟨q2, eq2, h⟩ := zb h
    refine z_callXi X [.int ((x3 + x4) - x1)] rfl dd_Tokens_isSame_17 (c_String_charAt l eq2) (cwV 1 X.1.2.2.2.2 (zg_V km_965 km_966 km_967 km_140 km_968) rfl rfl rfl (by decide +kernel) ⟨Nat.le_of_ble_eq_true rfl, Nat.le_of_ble_eq_true rfl⟩) (zst_s ew3) rfl (Nat.le_of_ble_eq_true rfl) ⟨Nat.le_of_ble_eq_true rfl, Nat.le_of_ble_eq_true rfl⟩ ?_
    refine z_aload_n X dd_Tokens_isSame_20 rfl 0 rfl ?_
    obtain ⟨v4, ev4, h⟩ := zb h
    refine z_get (j := 4) X dd_Tokens_isSame_21 kc_3 ki_3 (by decide) km_424 (zgr_v ev4) ?_
    refine z_iload X dd_Tokens_isSame_24 4 rfl ?_
    obtain ⟨v5, ev5, h⟩ := zb h
    refine z_baload X dd_Tokens_isSame_26 rfl ev5 ?_
    refine z_icmp_eq (tgt := 32) X dd_Tokens_isSame_27 (by decide) (fun q6 => ?_) (fun q6 => ?_)
    · rw [if_pos q6] at h
      refine z_iinc (v := (x4 + 1)) (lv' := [(4, .int (x4 + 1)), (0, .ref x0), (1, .int x1), (2, .int x2), (3, .int x3)]) X dd_Tokens_isSame_32 4 rfl rfl (by decide) rfl ?_
      refine z_goto (tgt := 3) X dd_Tokens_isSame_35 (by decide) ?_
      refine z_sub [1, 2, 3, 4, 0] rfl ?_
      obtain rfl := Option.some.inj h
      exact k0 _ rfl
    · rw [if_neg q6] at h
      refine z_sub [] rfl ?_
      obtain rfl := Option.some.inj h
      exact k1 _ rfl
set_option maxRecDepth 100000 in
set_option maxHeartbeats 4000000 in
theorem t_Tokens_isSame_3  (X : zX p s m args cd D cid B bb_Tokens_isSame 5 rr_Tokens zT) (H : zH s meth B n0 (some (.boolean)) "isSame") {nf : Nat} {x0 : Nat} {x1 : Int32} {x2 : Int32} {x3 : Int32} {x4 : Int32} {c : Zc} {res : Int32 × Zc} (h : f_Tokens_isSame_3 nf x0 x1 x2 x3 x4 c = some res) : Zz p l e (zRm 4 85 0 0) s m args below meth cd (MQ below (zQi D cid B res.1 res.2 n0 0) args s 0 0 (fun q => B ≤ q)) D cid B 5 0 0 c 3 [(0, .ref x0), (1, .int x1), (2, .int x2), (3, .int x3), (4, .int x4)] [] := by
  unfold f_Tokens_isSame_3 at h
  obtain ⟨b, eb, h⟩ := zb h
  refine zlp_ok (P := fun a : Nat × Int32 × Int32 × Int32 × Int32 × Zc => Zz p l e (zRm 4 85 0 0) s m args below meth cd _ D cid B 5 0 0 a.2.2.2.2.2 3 [(0, .ref a.1), (1, .int a.2.1), (2, .int a.2.2.1), (3, .int a.2.2.2.1), (4, .int a.2.2.2.2.1)] []) (G := fun b : (Zc) ⊕ (Zc) => Sum.elim (fun b => Zz p l e (zRm 4 85 0 0) s m args below meth cd _ D cid B 5 0 0 b 30 [] []) (fun b => Zz p l e (zRm 4 85 0 0) s m args below meth cd _ D cid B 5 0 0 b 38 [] []) b) (fun a r ha k0 k1 => u_Tokens_isSame_3 X H ha k0 k1) nf _ b eb ?_
  rcases b with b | b
  · simp only [Sum.elim_inl] at h ⊢
    refine z_iconst (v := 0) X dd_Tokens_isSame_30 (by decide) ?_
    obtain ⟨hz, h⟩ := zrz_s h
    obtain rfl := h
    exact z_zret X H.1 (zn_z hz) H.2.1 H.2.2.1 dd_Tokens_isSame_31
  · simp only [Sum.elim_inr] at h ⊢
    refine z_iconst (v := 1) X dd_Tokens_isSame_38 (by decide) ?_
    obtain ⟨hz, h⟩ := zrz_s h
    obtain rfl := h
    exact z_zret X H.1 (zn_z hz) H.2.1 H.2.2.1 dd_Tokens_isSame_39
set_option maxRecDepth 100000 in
set_option maxHeartbeats 4000000 in
theorem c_Tokens_isSame (l : Launch) {nf : Nat} {a0 : Nat} {a1 : Int32} {a2 : Int32} {a3 : Int32} {c : Zc} {res : Int32 × Zc} (h : f_Tokens_isSame nf a0 a1 a2 a3 c = some res) : zM l yy_Tokens_isSame ww_Tokens_isSame 4 85 0 0 [.ref a0, .int a1, .int a2, .int a3] c (fun D cid B => zQi D cid B res.1 res.2 c.length 0) := by
  refine z_met (cc := bb_Tokens_isSame) (maxL := 5) (ret := (some (.boolean))) (by decide +kernel) rfl (Nat.le_of_ble_eq_true rfl) ?_
  intro p e s m args below meth cd D cid B X h1 h2 h3 h4
  have X : zX p s m args cd D cid B bb_Tokens_isSame 5 rr_Tokens zT := X
  have H : zH s meth B c.length (some (.boolean)) "isSame" := ⟨h1, h2, h4, h3⟩
  unfold f_Tokens_isSame at h
  show Zz p l e (zRm 4 85 0 0) s m args below meth cd _ D cid B 5 0 0 c 0 [(0, .ref a0), (1, .int a1), (2, .int a2), (3, .int a3)] []
  refine z_iload_n X dd_Tokens_isSame_0 rfl 1 rfl ?_
  refine z_istore (lv' := [(4, .int a1), (0, .ref a0), (1, .int a1), (2, .int a2), (3, .int a3)]) X dd_Tokens_isSame_1 (by decide) rfl ?_
  refine z_sub [1, 2, 3, 4, 0] rfl ?_
  exact t_Tokens_isSame_3 X H h
theorem dd_Tokens_wordKind_0 : decode bb_Tokens_wordKind 0 = .ok (.bipush 10, 2) := by decide +kernel
theorem dd_Tokens_wordKind_2 : decode bb_Tokens_wordKind 2 = .ok (.istore_n 3, 1) := by decide +kernel
theorem dd_Tokens_wordKind_3 : decode bb_Tokens_wordKind 3 = .ok (.iconst 0, 1) := by decide +kernel
theorem dd_Tokens_wordKind_4 : decode bb_Tokens_wordKind 4 = .ok (.istore 4, 2) := by decide +kernel
theorem dd_Tokens_wordKind_6 : decode bb_Tokens_wordKind 6 = .ok (.iconst 0, 1) := by decide +kernel
theorem dd_Tokens_wordKind_7 : decode bb_Tokens_wordKind 7 = .ok (.istore 5, 2) := by decide +kernel
theorem dd_Tokens_wordKind_9 : decode bb_Tokens_wordKind 9 = .ok (.iload 5, 2) := by decide +kernel
theorem dd_Tokens_wordKind_11 : decode bb_Tokens_wordKind 11 = .ok (.ldc 83, 2) := by decide +kernel
theorem dd_Tokens_wordKind_13 : decode bb_Tokens_wordKind 13 = .ok (.invokevirtual 85, 3) := by decide +kernel
theorem dd_Tokens_wordKind_16 : decode bb_Tokens_wordKind 16 = .ok (.if_icmp .ge 54, 3) := by decide +kernel
theorem dd_Tokens_wordKind_19 : decode bb_Tokens_wordKind 19 = .ok (.ldc 83, 2) := by decide +kernel
theorem dd_Tokens_wordKind_21 : decode bb_Tokens_wordKind 21 = .ok (.iload 5, 2) := by decide +kernel
theorem dd_Tokens_wordKind_23 : decode bb_Tokens_wordKind 23 = .ok (.invokevirtual 88, 3) := by decide +kernel
theorem dd_Tokens_wordKind_26 : decode bb_Tokens_wordKind 26 = .ok (.bipush 32, 2) := by decide +kernel
theorem dd_Tokens_wordKind_28 : decode bb_Tokens_wordKind 28 = .ok (.if_icmp .ne 36, 3) := by decide +kernel
theorem dd_Tokens_wordKind_31 : decode bb_Tokens_wordKind 31 = .ok (.iload 5, 2) := by decide +kernel
theorem dd_Tokens_wordKind_33 : decode bb_Tokens_wordKind 33 = .ok (.iload 4, 2) := by decide +kernel
theorem dd_Tokens_wordKind_35 : decode bb_Tokens_wordKind 35 = .ok (.isub, 1) := by decide +kernel
theorem dd_Tokens_wordKind_36 : decode bb_Tokens_wordKind 36 = .ok (.iload_n 2, 1) := by decide +kernel
theorem dd_Tokens_wordKind_37 : decode bb_Tokens_wordKind 37 = .ok (.iload_n 1, 1) := by decide +kernel
theorem dd_Tokens_wordKind_38 : decode bb_Tokens_wordKind 38 = .ok (.isub, 1) := by decide +kernel
theorem dd_Tokens_wordKind_39 : decode bb_Tokens_wordKind 39 = .ok (.if_icmp .ne 16, 3) := by decide +kernel
theorem dd_Tokens_wordKind_42 : decode bb_Tokens_wordKind 42 = .ok (.aload_n 0, 1) := by decide +kernel
theorem dd_Tokens_wordKind_43 : decode bb_Tokens_wordKind 43 = .ok (.iload_n 1, 1) := by decide +kernel
theorem dd_Tokens_wordKind_44 : decode bb_Tokens_wordKind 44 = .ok (.iload_n 2, 1) := by decide +kernel
theorem dd_Tokens_wordKind_45 : decode bb_Tokens_wordKind 45 = .ok (.iload 4, 2) := by decide +kernel
theorem dd_Tokens_wordKind_47 : decode bb_Tokens_wordKind 47 = .ok (.invokevirtual 92, 3) := by decide +kernel
theorem dd_Tokens_wordKind_50 : decode bb_Tokens_wordKind 50 = .ok (.ifCond .eq 5, 3) := by decide +kernel
theorem dd_Tokens_wordKind_53 : decode bb_Tokens_wordKind 53 = .ok (.iload_n 3, 1) := by decide +kernel
theorem dd_Tokens_wordKind_54 : decode bb_Tokens_wordKind 54 = .ok (.ireturn, 1) := by decide +kernel
theorem dd_Tokens_wordKind_55 : decode bb_Tokens_wordKind 55 = .ok (.iinc 3 1, 3) := by decide +kernel
theorem dd_Tokens_wordKind_58 : decode bb_Tokens_wordKind 58 = .ok (.iload 5, 2) := by decide +kernel
theorem dd_Tokens_wordKind_60 : decode bb_Tokens_wordKind 60 = .ok (.iconst 1, 1) := by decide +kernel
theorem dd_Tokens_wordKind_61 : decode bb_Tokens_wordKind 61 = .ok (.iadd, 1) := by decide +kernel
theorem dd_Tokens_wordKind_62 : decode bb_Tokens_wordKind 62 = .ok (.istore 4, 2) := by decide +kernel
theorem dd_Tokens_wordKind_64 : decode bb_Tokens_wordKind 64 = .ok (.iinc 5 1, 3) := by decide +kernel
theorem dd_Tokens_wordKind_67 : decode bb_Tokens_wordKind 67 = .ok (.goto (-58), 3) := by decide +kernel
theorem dd_Tokens_wordKind_70 : decode bb_Tokens_wordKind 70 = .ok (.iconst 0, 1) := by decide +kernel
theorem dd_Tokens_wordKind_71 : decode bb_Tokens_wordKind 71 = .ok (.ireturn, 1) := by decide +kernel
set_option maxRecDepth 100000 in
set_option maxHeartbeats 4000000 in
theorem t_Tokens_wordKind_64  (X : zX p s m args cd D cid B bb_Tokens_wordKind 6 rr_Tokens zT) (H : zH s meth B n0 (some (.int)) "wordKind") {nf : Nat} {x0 : Nat} {x1 : Int32} {x2 : Int32} {x3 : Int32} {x4 : Int32} {x5 : Int32} {c : Zc} {r : (Nat × Int32 × Int32 × Int32 × Int32 × Int32 × Zc) ⊕ ((Int32 × Zc) ⊕ (Zc))} (h : f_Tokens_wordKind_64 nf x0 x1 x2 x3 x4 x5 c = some r) (k0 : ∀ a, r = .inl a → (fun a : Nat × Int32 × Int32 × Int32 × Int32 × Int32 × Zc => Zz p l e (zRm 5 109 0 0) s m args below meth cd Q D cid B 6 0 0 a.2.2.2.2.2.2 9 [(0, .ref a.1), (1, .int a.2.1), (2, .int a.2.2.1), (3, .int a.2.2.2.1), (4, .int a.2.2.2.2.1), (5, .int a.2.2.2.2.2.1)] []) a) (k1 : ∀ b, r = .inr b → (fun b : (Int32 × Zc) ⊕ (Zc) => Sum.elim (fun b => Zz p l e (zRm 5 109 0 0) s m args below meth cd Q D cid B 6 0 0 b.2 53 [(3, .int b.1)] []) (fun b => Zz p l e (zRm 5 109 0 0) s m args below meth cd Q D cid B 6 0 0 b 70 [] []) b) b) : Zz p l e (zRm 5 109 0 0) s m args below meth cd Q D cid B 6 0 0 c 64 [(0, .ref x0), (1, .int x1), (2, .int x2), (3, .int x3), (4, .int x4), (5, .int x5)] [] := by
  unfold f_Tokens_wordKind_64 at h
  refine z_iinc (v := (x5 + 1)) (lv' := [(5, .int (x5 + 1)), (0, .ref x0), (1, .int x1), (2, .int x2), (3, .int x3), (4, .int x4)]) X dd_Tokens_wordKind_64 5 rfl rfl (by decide) rfl ?_
  refine z_goto (tgt := 9) X dd_Tokens_wordKind_67 (by decide) ?_
  refine z_sub [1, 2, 3, 4, 5, 0] rfl ?_
  obtain rfl := Option.some.inj h
  exact k0 _ rfl
set_option maxRecDepth 100000 in
set_option maxHeartbeats 4000000 in
theorem t_Tokens_wordKind_55  (X : zX p s m args cd D cid B bb_Tokens_wordKind 6 rr_Tokens zT) (H : zH s meth B n0 (some (.int)) "wordKind") {nf : Nat} {x0 : Nat} {x1 : Int32} {x2 : Int32} {x3 : Int32} {x5 : Int32} {c : Zc} {r : (Nat × Int32 × Int32 × Int32 × Int32 × Int32 × Zc) ⊕ ((Int32 × Zc) ⊕ (Zc))} (h : f_Tokens_wordKind_55 nf x0 x1 x2 x3 x5 c = some r) (k0 : ∀ a, r = .inl a → (fun a : Nat × Int32 × Int32 × Int32 × Int32 × Int32 × Zc => Zz p l e (zRm 5 109 0 0) s m args below meth cd Q D cid B 6 0 0 a.2.2.2.2.2.2 9 [(0, .ref a.1), (1, .int a.2.1), (2, .int a.2.2.1), (3, .int a.2.2.2.1), (4, .int a.2.2.2.2.1), (5, .int a.2.2.2.2.2.1)] []) a) (k1 : ∀ b, r = .inr b → (fun b : (Int32 × Zc) ⊕ (Zc) => Sum.elim (fun b => Zz p l e (zRm 5 109 0 0) s m args below meth cd Q D cid B 6 0 0 b.2 53 [(3, .int b.1)] []) (fun b => Zz p l e (zRm 5 109 0 0) s m args below meth cd Q D cid B 6 0 0 b 70 [] []) b) b) : Zz p l e (zRm 5 109 0 0) s m args below meth cd Q D cid B 6 0 0 c 55 [(0, .ref x0), (1, .int x1), (2, .int x2), (3, .int x3), (5, .int x5)] [] := by
  unfold f_Tokens_wordKind_55 at h
  refine z_iinc (v := (x3 + 1)) (lv' := [(3, .int (x3 + 1)), (0, .ref x0), (1, .int x1), (2, .int x2), (5, .int x5)]) X dd_Tokens_wordKind_55 3 rfl rfl (by decide) rfl ?_
  refine z_iload X dd_Tokens_wordKind_58 4 rfl ?_
  refine z_iconst (v := 1) X dd_Tokens_wordKind_60 (by decide) ?_
  refine z_iadd X dd_Tokens_wordKind_61 ?_
  refine z_istore (lv' := [(4, .int (x5 + 1)), (3, .int (x3 + 1)), (0, .ref x0), (1, .int x1), (2, .int x2), (5, .int x5)]) X dd_Tokens_wordKind_62 (by decide) rfl ?_
  refine z_sub [2, 3, 4, 1, 0, 5] rfl ?_
  exact t_Tokens_wordKind_64 X H h k0 k1
set_option maxRecDepth 100000 in
set_option maxHeartbeats 4000000 in
theorem u_Tokens_wordKind_9  (X : zX p s m args cd D cid B bb_Tokens_wordKind 6 rr_Tokens zT) (H : zH s meth B n0 (some (.int)) "wordKind") {nf : Nat} {x0 : Nat} {x1 : Int32} {x2 : Int32} {x3 : Int32} {x4 : Int32} {x5 : Int32} {c : Zc} {r : (Nat × Int32 × Int32 × Int32 × Int32 × Int32 × Zc) ⊕ ((Int32 × Zc) ⊕ (Zc))} (h : g_Tokens_wordKind_9 nf x0 x1 x2 x3 x4 x5 c = some r) (k0 : ∀ a, r = .inl a → (fun a : Nat × Int32 × Int32 × Int32 × Int32 × Int32 × Zc => Zz p l e (zRm 5 109 0 0) s m args below meth cd Q D cid B 6 0 0 a.2.2.2.2.2.2 9 [(0, .ref a.1), (1, .int a.2.1), (2, .int a.2.2.1), (3, .int a.2.2.2.1), (4, .int a.2.2.2.2.1), (5, .int a.2.2.2.2.2.1)] []) a) (k1 : ∀ b, r = .inr b → (fun b : (Int32 × Zc) ⊕ (Zc) => Sum.elim (fun b => Zz p l e (zRm 5 109 0 0) s m args below meth cd Q D cid B 6 0 0 b.2 53 [(3, .int b.1)] []) (fun b => Zz p l e (zRm 5 109 0 0) s m args below meth cd Q D cid B 6 0 0 b 70 [] []) b) b) : Zz p l e (zRm 5 109 0 0) s m args below meth cd Q D cid B 6 0 0 c 9 [(0, .ref x0), (1, .int x1), (2, .int x2), (3, .int x3), (4, .int x4), (5, .int x5)] [] := by
  unfold g_Tokens_wordKind_9 at h
  refine z_iload X dd_Tokens_wordKind_9 5 rfl ?_
  refine z_ldcS (i := 2) X dd_Tokens_wordKind_11 (by decide) rfl rfl ?_
  obtain ⟨w2, ew2, h⟩ := zb h
  obtain ⟨q1, eq1, h⟩ := zb h
  refine z_callXi X [] rfl dd_Tokens_wordKind_13 (c_String_length l eq1) (cwV 0 X.1.2.2.2.2 (zg_V km_964 km_885 km_886 km_140 km_887) rfl rfl rfl (by decide +kernel) ⟨Nat.le_of_ble_eq_true rfl, Nat.le_of_ble_eq_true rfl⟩) (zst_s ew2) rfl (Nat.le_of_ble_eq_true rfl) ⟨Nat.le_of_ble_eq_true rfl, Nat.le_of_ble_eq_true rfl⟩ ?_
  refine z_icmp_ge (tgt := 70) X dd_Tokens_wordKind_16 (by decide) (fun q3 => ?_) (fun q3 => ?_)
  · rw [if_pos q3] at h
    refine z_sub [] rfl ?_
    obtain rfl := Option.some.inj h
    exact k1 _ rfl
  · rw [if_neg q3] at h
    refine z_ldcS (i := 2) X dd_Tokens_wordKind_19 (by decide) rfl rfl ?_
    refine z_iload X dd_Tokens_wordKind_21 5 rfl ?_
    obtain ⟨w5, ew5, h⟩ := zb h
    obtain ⟨q4, eq4, h⟩ := zb h
    refine z_callXi X [.int x5] rfl dd_Tokens_wordKind_23 (c_String_charAt l eq4) (cwV 1 X.1.2.2.2.2 (zg_V km_965 km_966 km_967 km_140 km_968) rfl rfl rfl (by decide +kernel) ⟨Nat.le_of_ble_eq_true rfl, Nat.le_of_ble_eq_true rfl⟩) (zst_s ew5) rfl (Nat.le_of_ble_eq_true rfl) ⟨Nat.le_of_ble_eq_true rfl, Nat.le_of_ble_eq_true rfl⟩ ?_
    refine z_bipush (v := 32) X dd_Tokens_wordKind_26 (by decide) ?_
    refine z_icmp_ne (tgt := 64) X dd_Tokens_wordKind_28 (by decide) (fun q6 => ?_) (fun q6 => ?_)
    · rw [if_neg q6] at h
      exact t_Tokens_wordKind_64 X H h k0 k1
    · rw [if_pos q6] at h
      refine z_iload X dd_Tokens_wordKind_31 5 rfl ?_
      refine z_iload X dd_Tokens_wordKind_33 4 rfl ?_
      refine z_isub X dd_Tokens_wordKind_35 ?_
      refine z_iload_n X dd_Tokens_wordKind_36 rfl 2 rfl ?_
      refine z_iload_n X dd_Tokens_wordKind_37 rfl 1 rfl ?_
      refine z_isub X dd_Tokens_wordKind_38 ?_
      refine z_icmp_ne (tgt := 55) X dd_Tokens_wordKind_39 (by decide) (fun q7 => ?_) (fun q7 => ?_)
      · rw [if_neg q7] at h
        refine z_sub [0, 1, 2, 3, 5] rfl ?_
        exact t_Tokens_wordKind_55 X H h k0 k1
      · rw [if_pos q7] at h
        refine z_aload_n X dd_Tokens_wordKind_42 rfl 0 rfl ?_
        refine z_iload_n X dd_Tokens_wordKind_43 rfl 1 rfl ?_
        refine z_iload_n X dd_Tokens_wordKind_44 rfl 2 rfl ?_
        refine z_iload X dd_Tokens_wordKind_45 4 rfl ?_
        obtain ⟨w9, ew9, h⟩ := zb h
        obtain ⟨q8, eq8, h⟩ := zb h
        refine z_callVi X [.int x1, .int x2, .int x4] rfl dd_Tokens_wordKind_47 (c_Tokens_isSame l eq8) (cwV 3 X.1.2.2.2.2 (zg_V km_985 km_987 km_8 km_131 km_988) rfl rfl rfl (by decide +kernel) ⟨Nat.le_of_ble_eq_true rfl, Nat.le_of_ble_eq_true rfl⟩) (zob_s ew9) kc_3 rfl (Nat.le_of_ble_eq_true rfl) ⟨Nat.le_of_ble_eq_true rfl, Nat.le_of_ble_eq_true rfl⟩ ?_
        refine z_if_eq (tgt := 55) X dd_Tokens_wordKind_50 (by decide) (fun q10 => ?_) (fun q10 => ?_)
        · rw [if_pos q10] at h
          refine z_sub [0, 1, 2, 3, 5] rfl ?_
          exact t_Tokens_wordKind_55 X H h k0 k1
        · rw [if_neg q10] at h
          refine z_sub [3] rfl ?_
          obtain rfl := Option.some.inj h
          exact k1 _ rfl
set_option maxRecDepth 100000 in
set_option maxHeartbeats 4000000 in
theorem t_Tokens_wordKind_9  (X : zX p s m args cd D cid B bb_Tokens_wordKind 6 rr_Tokens zT) (H : zH s meth B n0 (some (.int)) "wordKind") {nf : Nat} {x0 : Nat} {x1 : Int32} {x2 : Int32} {x3 : Int32} {x4 : Int32} {x5 : Int32} {c : Zc} {res : Int32 × Zc} (h : f_Tokens_wordKind_9 nf x0 x1 x2 x3 x4 x5 c = some res) : Zz p l e (zRm 5 109 0 0) s m args below meth cd (MQ below (zQi D cid B res.1 res.2 n0 0) args s 0 0 (fun q => B ≤ q)) D cid B 6 0 0 c 9 [(0, .ref x0), (1, .int x1), (2, .int x2), (3, .int x3), (4, .int x4), (5, .int x5)] [] := by
  unfold f_Tokens_wordKind_9 at h
  obtain ⟨b, eb, h⟩ := zb h
  refine zlp_ok (P := fun a : Nat × Int32 × Int32 × Int32 × Int32 × Int32 × Zc => Zz p l e (zRm 5 109 0 0) s m args below meth cd _ D cid B 6 0 0 a.2.2.2.2.2.2 9 [(0, .ref a.1), (1, .int a.2.1), (2, .int a.2.2.1), (3, .int a.2.2.2.1), (4, .int a.2.2.2.2.1), (5, .int a.2.2.2.2.2.1)] []) (G := fun b : (Int32 × Zc) ⊕ (Zc) => Sum.elim (fun b => Zz p l e (zRm 5 109 0 0) s m args below meth cd _ D cid B 6 0 0 b.2 53 [(3, .int b.1)] []) (fun b => Zz p l e (zRm 5 109 0 0) s m args below meth cd _ D cid B 6 0 0 b 70 [] []) b) (fun a r ha k0 k1 => u_Tokens_wordKind_9 X H ha k0 k1) nf _ b eb ?_
  rcases b with b | b
  · simp only [Sum.elim_inl] at h ⊢
    refine z_iload_n X dd_Tokens_wordKind_53 rfl 0 rfl ?_
    obtain rfl := Option.some.inj h
    exact z_iret X H.1 H.2.1 H.2.2.1 dd_Tokens_wordKind_54
  · simp only [Sum.elim_inr] at h ⊢
    refine z_iconst (v := 0) X dd_Tokens_wordKind_70 (by decide) ?_
    obtain rfl := Option.some.inj h
    exact z_iret X H.1 H.2.1 H.2.2.1 dd_Tokens_wordKind_71
set_option maxRecDepth 100000 in
set_option maxHeartbeats 4000000 in
theorem c_Tokens_wordKind (l : Launch) {nf : Nat} {a0 : Nat} {a1 : Int32} {a2 : Int32} {c : Zc} {res : Int32 × Zc} (h : f_Tokens_wordKind nf a0 a1 a2 c = some res) : zM l yy_Tokens_wordKind ww_Tokens_wordKind 5 109 0 0 [.ref a0, .int a1, .int a2] c (fun D cid B => zQi D cid B res.1 res.2 c.length 0) := by
  refine z_met (cc := bb_Tokens_wordKind) (maxL := 6) (ret := (some (.int))) (by decide +kernel) rfl (Nat.le_of_ble_eq_true rfl) ?_
  intro p e s m args below meth cd D cid B X h1 h2 h3 h4
  have X : zX p s m args cd D cid B bb_Tokens_wordKind 6 rr_Tokens zT := X
  have H : zH s meth B c.length (some (.int)) "wordKind" := ⟨h1, h2, h4, h3⟩
  unfold f_Tokens_wordKind at h
  show Zz p l e (zRm 5 109 0 0) s m args below meth cd _ D cid B 6 0 0 c 0 [(0, .ref a0), (1, .int a1), (2, .int a2)] []
  refine z_bipush (v := 10) X dd_Tokens_wordKind_0 (by decide) ?_
  refine z_istore_n (lv' := [(3, .int 10), (0, .ref a0), (1, .int a1), (2, .int a2)]) X dd_Tokens_wordKind_2 rfl (by decide) rfl ?_
  refine z_iconst (v := 0) X dd_Tokens_wordKind_3 (by decide) ?_
  refine z_istore (lv' := [(4, .int 0), (3, .int 10), (0, .ref a0), (1, .int a1), (2, .int a2)]) X dd_Tokens_wordKind_4 (by decide) rfl ?_
  refine z_iconst (v := 0) X dd_Tokens_wordKind_6 (by decide) ?_
  refine z_istore (lv' := [(5, .int 0), (4, .int 0), (3, .int 10), (0, .ref a0), (1, .int a1), (2, .int a2)]) X dd_Tokens_wordKind_7 (by decide) rfl ?_
  refine z_sub [3, 4, 5, 2, 1, 0] rfl ?_
  exact t_Tokens_wordKind_9 X H h
theorem dd_Tokens_nameKind_0 : decode bb_Tokens_nameKind 0 = .ok (.aload_n 0, 1) := by decide +kernel
theorem dd_Tokens_nameKind_1 : decode bb_Tokens_nameKind 1 = .ok (.getfield 15, 3) := by decide +kernel
theorem dd_Tokens_nameKind_4 : decode bb_Tokens_nameKind 4 = .ok (.aload_n 0, 1) := by decide +kernel
theorem dd_Tokens_nameKind_5 : decode bb_Tokens_nameKind 5 = .ok (.getfield 21, 3) := by decide +kernel
theorem dd_Tokens_nameKind_8 : decode bb_Tokens_nameKind 8 = .ok (.iconst 0, 1) := by decide +kernel
theorem dd_Tokens_nameKind_9 : decode bb_Tokens_nameKind 9 = .ok (.iastore, 1) := by decide +kernel
theorem dd_Tokens_nameKind_10 : decode bb_Tokens_nameKind 10 = .ok (.aload_n 0, 1) := by decide +kernel
theorem dd_Tokens_nameKind_11 : decode bb_Tokens_nameKind 11 = .ok (.getfield 25, 3) := by decide +kernel
theorem dd_Tokens_nameKind_14 : decode bb_Tokens_nameKind 14 = .ok (.iload_n 1, 1) := by decide +kernel
theorem dd_Tokens_nameKind_15 : decode bb_Tokens_nameKind 15 = .ok (.baload, 1) := by decide +kernel
theorem dd_Tokens_nameKind_16 : decode bb_Tokens_nameKind 16 = .ok (.invokestatic 49, 3) := by decide +kernel
theorem dd_Tokens_nameKind_19 : decode bb_Tokens_nameKind 19 = .ok (.ifCond .eq 10, 3) := by decide +kernel
theorem dd_Tokens_nameKind_22 : decode bb_Tokens_nameKind 22 = .ok (.aload_n 0, 1) := by decide +kernel
theorem dd_Tokens_nameKind_23 : decode bb_Tokens_nameKind 23 = .ok (.iload_n 1, 1) := by decide +kernel
theorem dd_Tokens_nameKind_24 : decode bb_Tokens_nameKind 24 = .ok (.iload_n 2, 1) := by decide +kernel
theorem dd_Tokens_nameKind_25 : decode bb_Tokens_nameKind 25 = .ok (.invokevirtual 65, 3) := by decide +kernel
theorem dd_Tokens_nameKind_28 : decode bb_Tokens_nameKind 28 = .ok (.ireturn, 1) := by decide +kernel
theorem dd_Tokens_nameKind_29 : decode bb_Tokens_nameKind 29 = .ok (.iload_n 2, 1) := by decide +kernel
theorem dd_Tokens_nameKind_30 : decode bb_Tokens_nameKind 30 = .ok (.iload_n 1, 1) := by decide +kernel
theorem dd_Tokens_nameKind_31 : decode bb_Tokens_nameKind 31 = .ok (.isub, 1) := by decide +kernel
theorem dd_Tokens_nameKind_32 : decode bb_Tokens_nameKind 32 = .ok (.iconst 1, 1) := by decide +kernel
theorem dd_Tokens_nameKind_33 : decode bb_Tokens_nameKind 33 = .ok (.if_icmp .ne 15, 3) := by decide +kernel
theorem dd_Tokens_nameKind_36 : decode bb_Tokens_nameKind 36 = .ok (.aload_n 0, 1) := by decide +kernel
theorem dd_Tokens_nameKind_37 : decode bb_Tokens_nameKind 37 = .ok (.aload_n 0, 1) := by decide +kernel
theorem dd_Tokens_nameKind_38 : decode bb_Tokens_nameKind 38 = .ok (.getfield 25, 3) := by decide +kernel
theorem dd_Tokens_nameKind_41 : decode bb_Tokens_nameKind 41 = .ok (.iload_n 1, 1) := by decide +kernel
theorem dd_Tokens_nameKind_42 : decode bb_Tokens_nameKind 42 = .ok (.baload, 1) := by decide +kernel
theorem dd_Tokens_nameKind_43 : decode bb_Tokens_nameKind 43 = .ok (.i2c, 1) := by decide +kernel
theorem dd_Tokens_nameKind_44 : decode bb_Tokens_nameKind 44 = .ok (.invokevirtual 68, 3) := by decide +kernel
theorem dd_Tokens_nameKind_47 : decode bb_Tokens_nameKind 47 = .ok (.ireturn, 1) := by decide +kernel
theorem dd_Tokens_nameKind_48 : decode bb_Tokens_nameKind 48 = .ok (.iload_n 2, 1) := by decide +kernel
theorem dd_Tokens_nameKind_49 : decode bb_Tokens_nameKind 49 = .ok (.iload_n 1, 1) := by decide +kernel
theorem dd_Tokens_nameKind_50 : decode bb_Tokens_nameKind 50 = .ok (.isub, 1) := by decide +kernel
theorem dd_Tokens_nameKind_51 : decode bb_Tokens_nameKind 51 = .ok (.iconst 2, 1) := by decide +kernel
theorem dd_Tokens_nameKind_52 : decode bb_Tokens_nameKind 52 = .ok (.if_icmp .ne 40, 3) := by decide +kernel
theorem dd_Tokens_nameKind_55 : decode bb_Tokens_nameKind 55 = .ok (.aload_n 0, 1) := by decide +kernel
theorem dd_Tokens_nameKind_56 : decode bb_Tokens_nameKind 56 = .ok (.getfield 25, 3) := by decide +kernel
theorem dd_Tokens_nameKind_59 : decode bb_Tokens_nameKind 59 = .ok (.iload_n 1, 1) := by decide +kernel
theorem dd_Tokens_nameKind_60 : decode bb_Tokens_nameKind 60 = .ok (.iconst 1, 1) := by decide +kernel
theorem dd_Tokens_nameKind_61 : decode bb_Tokens_nameKind 61 = .ok (.iadd, 1) := by decide +kernel
theorem dd_Tokens_nameKind_62 : decode bb_Tokens_nameKind 62 = .ok (.baload, 1) := by decide +kernel
theorem dd_Tokens_nameKind_63 : decode bb_Tokens_nameKind 63 = .ok (.invokestatic 49, 3) := by decide +kernel
theorem dd_Tokens_nameKind_66 : decode bb_Tokens_nameKind 66 = .ok (.ifCond .eq 26, 3) := by decide +kernel
theorem dd_Tokens_nameKind_69 : decode bb_Tokens_nameKind 69 = .ok (.aload_n 0, 1) := by decide +kernel
theorem dd_Tokens_nameKind_70 : decode bb_Tokens_nameKind 70 = .ok (.aload_n 0, 1) := by decide +kernel
theorem dd_Tokens_nameKind_71 : decode bb_Tokens_nameKind 71 = .ok (.getfield 25, 3) := by decide +kernel
theorem dd_Tokens_nameKind_74 : decode bb_Tokens_nameKind 74 = .ok (.iload_n 1, 1) := by decide +kernel
theorem dd_Tokens_nameKind_75 : decode bb_Tokens_nameKind 75 = .ok (.baload, 1) := by decide +kernel
theorem dd_Tokens_nameKind_76 : decode bb_Tokens_nameKind 76 = .ok (.i2c, 1) := by decide +kernel
theorem dd_Tokens_nameKind_77 : decode bb_Tokens_nameKind 77 = .ok (.aload_n 0, 1) := by decide +kernel
theorem dd_Tokens_nameKind_78 : decode bb_Tokens_nameKind 78 = .ok (.getfield 25, 3) := by decide +kernel
theorem dd_Tokens_nameKind_81 : decode bb_Tokens_nameKind 81 = .ok (.iload_n 1, 1) := by decide +kernel
theorem dd_Tokens_nameKind_82 : decode bb_Tokens_nameKind 82 = .ok (.iconst 1, 1) := by decide +kernel
theorem dd_Tokens_nameKind_83 : decode bb_Tokens_nameKind 83 = .ok (.iadd, 1) := by decide +kernel
theorem dd_Tokens_nameKind_84 : decode bb_Tokens_nameKind 84 = .ok (.baload, 1) := by decide +kernel
theorem dd_Tokens_nameKind_85 : decode bb_Tokens_nameKind 85 = .ok (.bipush 48, 2) := by decide +kernel
theorem dd_Tokens_nameKind_87 : decode bb_Tokens_nameKind 87 = .ok (.isub, 1) := by decide +kernel
theorem dd_Tokens_nameKind_88 : decode bb_Tokens_nameKind 88 = .ok (.invokevirtual 72, 3) := by decide +kernel
theorem dd_Tokens_nameKind_91 : decode bb_Tokens_nameKind 91 = .ok (.ireturn, 1) := by decide +kernel
theorem dd_Tokens_nameKind_92 : decode bb_Tokens_nameKind 92 = .ok (.aload_n 0, 1) := by decide +kernel
theorem dd_Tokens_nameKind_93 : decode bb_Tokens_nameKind 93 = .ok (.iload_n 1, 1) := by decide +kernel
theorem dd_Tokens_nameKind_94 : decode bb_Tokens_nameKind 94 = .ok (.iload_n 2, 1) := by decide +kernel
theorem dd_Tokens_nameKind_95 : decode bb_Tokens_nameKind 95 = .ok (.invokevirtual 76, 3) := by decide +kernel
theorem dd_Tokens_nameKind_98 : decode bb_Tokens_nameKind 98 = .ok (.ireturn, 1) := by decide +kernel
set_option maxRecDepth 100000 in
set_option maxHeartbeats 4000000 in
theorem t_Tokens_nameKind_92  (X : zX p s m args cd D cid B bb_Tokens_nameKind 3 rr_Tokens zT) (H : zH s meth B n0 (some (.int)) "nameKind") {nf : Nat} {x0 : Nat} {x1 : Int32} {x2 : Int32} {c : Zc} {res : Int32 × Zc} (h : f_Tokens_nameKind_92 nf x0 x1 x2 c = some res) : Zz p l e (zRm 6 134 0 0) s m args below meth cd (MQ below (zQi D cid B res.1 res.2 n0 0) args s 0 0 (fun q => B ≤ q)) D cid B 3 0 0 c 92 [(0, .ref x0), (1, .int x1), (2, .int x2)] [] := by
  unfold f_Tokens_nameKind_92 at h
  refine z_aload_n X dd_Tokens_nameKind_92 rfl 0 rfl ?_
  refine z_iload_n X dd_Tokens_nameKind_93 rfl 1 rfl ?_
  refine z_iload_n X dd_Tokens_nameKind_94 rfl 2 rfl ?_
  obtain ⟨w11, ew11, h⟩ := zb h
  obtain ⟨q10, eq10, h⟩ := zb h
  refine z_callVi X [.int x1, .int x2] rfl dd_Tokens_nameKind_95 (c_Tokens_wordKind l eq10) (cwV 2 X.1.2.2.2.2 (zg_V km_959 km_961 km_7 km_131 km_962) rfl rfl rfl (by decide +kernel) ⟨Nat.le_of_ble_eq_true rfl, Nat.le_of_ble_eq_true rfl⟩) (zob_s ew11) kc_3 rfl (Nat.le_of_ble_eq_true rfl) ⟨Nat.le_of_ble_eq_true rfl, Nat.le_of_ble_eq_true rfl⟩ ?_
  obtain rfl := Option.some.inj h
  exact z_iret X H.1 H.2.1 H.2.2.1 dd_Tokens_nameKind_98
set_option maxRecDepth 100000 in
set_option maxHeartbeats 4000000 in
theorem c_Tokens_nameKind (l : Launch) {nf : Nat} {a0 : Nat} {a1 : Int32} {a2 : Int32} {c : Zc} {res : Int32 × Zc} (h : f_Tokens_nameKind nf a0 a1 a2 c = some res) : zM l yy_Tokens_nameKind ww_Tokens_nameKind 6 134 0 0 [.ref a0, .int a1, .int a2] c (fun D cid B => zQi D cid B res.1 res.2 c.length 0) := by
  refine z_met (cc := bb_Tokens_nameKind) (maxL := 3) (ret := (some (.int))) (by decide +kernel) rfl (Nat.le_of_ble_eq_true rfl) ?_
  intro p e s m args below meth cd D cid B X h1 h2 h3 h4
  have X : zX p s m args cd D cid B bb_Tokens_nameKind 3 rr_Tokens zT := X
  have H : zH s meth B c.length (some (.int)) "nameKind" := ⟨h1, h2, h4, h3⟩
  unfold f_Tokens_nameKind at h
  show Zz p l e (zRm 6 134 0 0) s m args below meth cd _ D cid B 3 0 0 c 0 [(0, .ref a0), (1, .int a1), (2, .int a2)] []
  refine z_aload_n X dd_Tokens_nameKind_0 rfl 0 rfl ?_
  obtain ⟨v1, ev1, h⟩ := zb h
  refine z_get (j := 1) X dd_Tokens_nameKind_1 kc_3 ki_3 (by decide) km_418 (zgr_v ev1) ?_
  refine z_aload_n X dd_Tokens_nameKind_4 rfl 0 rfl ?_
  obtain ⟨v2, ev2, h⟩ := zb h
  refine z_get (j := 3) X dd_Tokens_nameKind_5 kc_3 ki_3 (by decide) km_422 (zgi_v ev2) ?_
  refine z_iconst (v := 0) X dd_Tokens_nameKind_8 (by decide) ?_
  obtain ⟨c3, ec3, h⟩ := zb h
  refine z_iastore X dd_Tokens_nameKind_9 rfl ec3 ?_
  refine z_aload_n X dd_Tokens_nameKind_10 rfl 0 rfl ?_
  obtain ⟨v4, ev4, h⟩ := zb h
  refine z_get (j := 4) X dd_Tokens_nameKind_11 kc_3 ki_3 (by decide) km_424 (zgr_v ev4) ?_
  refine z_iload_n X dd_Tokens_nameKind_14 rfl 1 rfl ?_
  obtain ⟨v5, ev5, h⟩ := zb h
  refine z_baload X dd_Tokens_nameKind_15 rfl ev5 ?_
  obtain ⟨q6, eq6, h⟩ := zb h
  refine z_callSi X [.int v5] rfl dd_Tokens_nameKind_16 (c_Tokens_isDigit l eq6) (va_cwS 1 X.1.2.2.2.2 (zg_S km_854 km_855 km_131 km_856) rfl rfl rfl (by decide +kernel) ⟨Nat.le_of_ble_eq_true rfl, Nat.le_of_ble_eq_true rfl⟩) rfl (Nat.le_of_ble_eq_true rfl) ⟨Nat.le_of_ble_eq_true rfl, Nat.le_of_ble_eq_true rfl⟩ ?_
  refine z_if_eq (tgt := 29) X dd_Tokens_nameKind_19 (by decide) (fun q7 => ?_) (fun q7 => ?_)
  · rw [if_pos q7] at h
    refine z_iload_n X dd_Tokens_nameKind_29 rfl 2 rfl ?_
    refine z_iload_n X dd_Tokens_nameKind_30 rfl 1 rfl ?_
    refine z_isub X dd_Tokens_nameKind_31 ?_
    refine z_iconst (v := 1) X dd_Tokens_nameKind_32 (by decide) ?_
    refine z_icmp_ne (tgt := 48) X dd_Tokens_nameKind_33 (by decide) (fun q8 => ?_) (fun q8 => ?_)
    · rw [if_neg q8] at h
      refine z_iload_n X dd_Tokens_nameKind_48 rfl 2 rfl ?_
      refine z_iload_n X dd_Tokens_nameKind_49 rfl 1 rfl ?_
      refine z_isub X dd_Tokens_nameKind_50 ?_
      refine z_iconst (v := 2) X dd_Tokens_nameKind_51 (by decide) ?_
      refine z_icmp_ne (tgt := 92) X dd_Tokens_nameKind_52 (by decide) (fun q9 => ?_) (fun q9 => ?_)
      · rw [if_neg q9] at h
        exact t_Tokens_nameKind_92 X H h
      · rw [if_pos q9] at h
        refine z_aload_n X dd_Tokens_nameKind_55 rfl 0 rfl ?_
        obtain ⟨v12, ev12, h⟩ := zb h
        refine z_get (j := 4) X dd_Tokens_nameKind_56 kc_3 ki_3 (by decide) km_424 (zgr_v ev12) ?_
        refine z_iload_n X dd_Tokens_nameKind_59 rfl 1 rfl ?_
        refine z_iconst (v := 1) X dd_Tokens_nameKind_60 (by decide) ?_
        refine z_iadd X dd_Tokens_nameKind_61 ?_
        obtain ⟨v13, ev13, h⟩ := zb h
        refine z_baload X dd_Tokens_nameKind_62 rfl ev13 ?_
        obtain ⟨q14, eq14, h⟩ := zb h
        refine z_callSi X [.int v13] rfl dd_Tokens_nameKind_63 (c_Tokens_isDigit l eq14) (va_cwS 1 X.1.2.2.2.2 (zg_S km_854 km_855 km_131 km_856) rfl rfl rfl (by decide +kernel) ⟨Nat.le_of_ble_eq_true rfl, Nat.le_of_ble_eq_true rfl⟩) rfl (Nat.le_of_ble_eq_true rfl) ⟨Nat.le_of_ble_eq_true rfl, Nat.le_of_ble_eq_true rfl⟩ ?_
        refine z_if_eq (tgt := 92) X dd_Tokens_nameKind_66 (by decide) (fun q15 => ?_) (fun q15 => ?_)
        · rw [if_pos q15] at h
          exact t_Tokens_nameKind_92 X H h
        · rw [if_neg q15] at h
          refine z_aload_n X dd_Tokens_nameKind_69 rfl 0 rfl ?_
          refine z_aload_n X dd_Tokens_nameKind_70 rfl 0 rfl ?_
          obtain ⟨v16, ev16, h⟩ := zb h
          refine z_get (j := 4) X dd_Tokens_nameKind_71 kc_3 ki_3 (by decide) km_424 (zgr_v ev16) ?_
          refine z_iload_n X dd_Tokens_nameKind_74 rfl 1 rfl ?_
          obtain ⟨v17, ev17, h⟩ := zb h
          refine z_baload X dd_Tokens_nameKind_75 rfl ev17 ?_
          refine z_i2c X dd_Tokens_nameKind_76 ?_
          refine z_aload_n X dd_Tokens_nameKind_77 rfl 0 rfl ?_
          obtain ⟨v18, ev18, h⟩ := zb h
          refine z_get (j := 4) X dd_Tokens_nameKind_78 kc_3 ki_3 (by decide) km_424 (zgr_v ev18) ?_
          refine z_iload_n X dd_Tokens_nameKind_81 rfl 1 rfl ?_
          refine z_iconst (v := 1) X dd_Tokens_nameKind_82 (by decide) ?_
          refine z_iadd X dd_Tokens_nameKind_83 ?_
          obtain ⟨v19, ev19, h⟩ := zb h
          refine z_baload X dd_Tokens_nameKind_84 rfl ev19 ?_
          refine z_bipush (v := 48) X dd_Tokens_nameKind_85 (by decide) ?_
          refine z_isub X dd_Tokens_nameKind_87 ?_
          obtain ⟨w21, ew21, h⟩ := zb h
          obtain ⟨q20, eq20, h⟩ := zb h
          refine z_callVi X [.int (UInt32.toInt32 (Int32.toUInt32 v17 % 65536)), .int (v19 - 48)] rfl dd_Tokens_nameKind_88 (c_Tokens_numberedKind l eq20) (cwV 2 X.1.2.2.2.2 (zg_V km_955 km_957 km_6 km_131 km_958) rfl rfl rfl (by decide +kernel) ⟨Nat.le_of_ble_eq_true rfl, Nat.le_of_ble_eq_true rfl⟩) (zob_s ew21) kc_3 rfl (Nat.le_of_ble_eq_true rfl) ⟨Nat.le_of_ble_eq_true rfl, Nat.le_of_ble_eq_true rfl⟩ ?_
          obtain rfl := Option.some.inj h
          exact z_iret X H.1 H.2.1 H.2.2.1 dd_Tokens_nameKind_91
    · rw [if_pos q8] at h
      refine z_aload_n X dd_Tokens_nameKind_36 rfl 0 rfl ?_
      refine z_aload_n X dd_Tokens_nameKind_37 rfl 0 rfl ?_
      obtain ⟨v22, ev22, h⟩ := zb h
      refine z_get (j := 4) X dd_Tokens_nameKind_38 kc_3 ki_3 (by decide) km_424 (zgr_v ev22) ?_
      refine z_iload_n X dd_Tokens_nameKind_41 rfl 1 rfl ?_
      obtain ⟨v23, ev23, h⟩ := zb h
      refine z_baload X dd_Tokens_nameKind_42 rfl ev23 ?_
      refine z_i2c X dd_Tokens_nameKind_43 ?_
      obtain ⟨w25, ew25, h⟩ := zb h
      obtain ⟨q24, eq24, h⟩ := zb h
      refine z_callVi X [.int (UInt32.toInt32 (Int32.toUInt32 v23 % 65536))] rfl dd_Tokens_nameKind_44 (c_Tokens_letterKind l eq24) (cwV 1 X.1.2.2.2.2 (zg_V km_865 km_867 km_5 km_131 km_868) rfl rfl rfl (by decide +kernel) ⟨Nat.le_of_ble_eq_true rfl, Nat.le_of_ble_eq_true rfl⟩) (zob_s ew25) kc_3 rfl (Nat.le_of_ble_eq_true rfl) ⟨Nat.le_of_ble_eq_true rfl, Nat.le_of_ble_eq_true rfl⟩ ?_
      obtain rfl := Option.some.inj h
      exact z_iret X H.1 H.2.1 H.2.2.1 dd_Tokens_nameKind_47
  · rw [if_neg q7] at h
    refine z_aload_n X dd_Tokens_nameKind_22 rfl 0 rfl ?_
    refine z_iload_n X dd_Tokens_nameKind_23 rfl 1 rfl ?_
    refine z_iload_n X dd_Tokens_nameKind_24 rfl 2 rfl ?_
    obtain ⟨w27, ew27, h⟩ := zb h
    obtain ⟨q26, eq26, h⟩ := zb h
    refine z_callVi X [.int a1, .int a2] rfl dd_Tokens_nameKind_25 (c_Tokens_numberKind l eq26) (cwV 2 X.1.2.2.2.2 (zg_V km_861 km_863 km_4 km_131 km_864) rfl rfl rfl (by decide +kernel) ⟨Nat.le_of_ble_eq_true rfl, Nat.le_of_ble_eq_true rfl⟩) (zob_s ew27) kc_3 rfl (Nat.le_of_ble_eq_true rfl) ⟨Nat.le_of_ble_eq_true rfl, Nat.le_of_ble_eq_true rfl⟩ ?_
    obtain rfl := Option.some.inj h
    exact z_iret X H.1 H.2.1 H.2.2.1 dd_Tokens_nameKind_28
theorem dd_Tokens_signKind_0 : decode bb_Tokens_signKind 0 = .ok (.aload_n 0, 1) := by decide +kernel
theorem dd_Tokens_signKind_1 : decode bb_Tokens_signKind 1 = .ok (.getfield 25, 3) := by decide +kernel
theorem dd_Tokens_signKind_4 : decode bb_Tokens_signKind 4 = .ok (.iload_n 1, 1) := by decide +kernel
theorem dd_Tokens_signKind_5 : decode bb_Tokens_signKind 5 = .ok (.baload, 1) := by decide +kernel
theorem dd_Tokens_signKind_6 : decode bb_Tokens_signKind 6 = .ok (.istore_n 2, 1) := by decide +kernel
theorem dd_Tokens_signKind_7 : decode bb_Tokens_signKind 7 = .ok (.iload_n 1, 1) := by decide +kernel
theorem dd_Tokens_signKind_8 : decode bb_Tokens_signKind 8 = .ok (.iconst 1, 1) := by decide +kernel
theorem dd_Tokens_signKind_9 : decode bb_Tokens_signKind 9 = .ok (.iadd, 1) := by decide +kernel
theorem dd_Tokens_signKind_10 : decode bb_Tokens_signKind 10 = .ok (.aload_n 0, 1) := by decide +kernel
theorem dd_Tokens_signKind_11 : decode bb_Tokens_signKind 11 = .ok (.getfield 29, 3) := by decide +kernel
theorem dd_Tokens_signKind_14 : decode bb_Tokens_signKind 14 = .ok (.if_icmp .ge 14, 3) := by decide +kernel
theorem dd_Tokens_signKind_17 : decode bb_Tokens_signKind 17 = .ok (.aload_n 0, 1) := by decide +kernel
theorem dd_Tokens_signKind_18 : decode bb_Tokens_signKind 18 = .ok (.getfield 25, 3) := by decide +kernel
theorem dd_Tokens_signKind_21 : decode bb_Tokens_signKind 21 = .ok (.iload_n 1, 1) := by decide +kernel
theorem dd_Tokens_signKind_22 : decode bb_Tokens_signKind 22 = .ok (.iconst 1, 1) := by decide +kernel
theorem dd_Tokens_signKind_23 : decode bb_Tokens_signKind 23 = .ok (.iadd, 1) := by decide +kernel
theorem dd_Tokens_signKind_24 : decode bb_Tokens_signKind 24 = .ok (.baload, 1) := by decide +kernel
theorem dd_Tokens_signKind_25 : decode bb_Tokens_signKind 25 = .ok (.goto 4, 3) := by decide +kernel
theorem dd_Tokens_signKind_28 : decode bb_Tokens_signKind 28 = .ok (.iconst 0, 1) := by decide +kernel
theorem dd_Tokens_signKind_29 : decode bb_Tokens_signKind 29 = .ok (.istore_n 3, 1) := by decide +kernel
theorem dd_Tokens_signKind_30 : decode bb_Tokens_signKind 30 = .ok (.aload_n 0, 1) := by decide +kernel
theorem dd_Tokens_signKind_31 : decode bb_Tokens_signKind 31 = .ok (.getfield 15, 3) := by decide +kernel
theorem dd_Tokens_signKind_34 : decode bb_Tokens_signKind 34 = .ok (.aload_n 0, 1) := by decide +kernel
theorem dd_Tokens_signKind_35 : decode bb_Tokens_signKind 35 = .ok (.getfield 21, 3) := by decide +kernel
theorem dd_Tokens_signKind_38 : decode bb_Tokens_signKind 38 = .ok (.iconst 0, 1) := by decide +kernel
theorem dd_Tokens_signKind_39 : decode bb_Tokens_signKind 39 = .ok (.iastore, 1) := by decide +kernel
theorem dd_Tokens_signKind_40 : decode bb_Tokens_signKind 40 = .ok (.iload_n 2, 1) := by decide +kernel
theorem dd_Tokens_signKind_41 : decode bb_Tokens_signKind 41 = .ok (.bipush 45, 2) := by decide +kernel
theorem dd_Tokens_signKind_43 : decode bb_Tokens_signKind 43 = .ok (.if_icmp .ne 13, 3) := by decide +kernel
theorem dd_Tokens_signKind_46 : decode bb_Tokens_signKind 46 = .ok (.iload_n 3, 1) := by decide +kernel
theorem dd_Tokens_signKind_47 : decode bb_Tokens_signKind 47 = .ok (.bipush 62, 2) := by decide +kernel
theorem dd_Tokens_signKind_49 : decode bb_Tokens_signKind 49 = .ok (.if_icmp .ne 7, 3) := by decide +kernel
theorem dd_Tokens_signKind_52 : decode bb_Tokens_signKind 52 = .ok (.sipush 256, 3) := by decide +kernel
theorem dd_Tokens_signKind_55 : decode bb_Tokens_signKind 55 = .ok (.ireturn, 1) := by decide +kernel
theorem dd_Tokens_signKind_56 : decode bb_Tokens_signKind 56 = .ok (.iload_n 2, 1) := by decide +kernel
theorem dd_Tokens_signKind_57 : decode bb_Tokens_signKind 57 = .ok (.bipush 60, 2) := by decide +kernel
theorem dd_Tokens_signKind_59 : decode bb_Tokens_signKind 59 = .ok (.if_icmp .ne 13, 3) := by decide +kernel
theorem dd_Tokens_signKind_62 : decode bb_Tokens_signKind 62 = .ok (.iload_n 3, 1) := by decide +kernel
theorem dd_Tokens_signKind_63 : decode bb_Tokens_signKind 63 = .ok (.bipush 45, 2) := by decide +kernel
theorem dd_Tokens_signKind_65 : decode bb_Tokens_signKind 65 = .ok (.if_icmp .ne 7, 3) := by decide +kernel
theorem dd_Tokens_signKind_68 : decode bb_Tokens_signKind 68 = .ok (.sipush 257, 3) := by decide +kernel
theorem dd_Tokens_signKind_71 : decode bb_Tokens_signKind 71 = .ok (.ireturn, 1) := by decide +kernel
theorem dd_Tokens_signKind_72 : decode bb_Tokens_signKind 72 = .ok (.iload_n 3, 1) := by decide +kernel
theorem dd_Tokens_signKind_73 : decode bb_Tokens_signKind 73 = .ok (.bipush 61, 2) := by decide +kernel
theorem dd_Tokens_signKind_75 : decode bb_Tokens_signKind 75 = .ok (.if_icmp .ne 49, 3) := by decide +kernel
theorem dd_Tokens_signKind_78 : decode bb_Tokens_signKind 78 = .ok (.iload_n 2, 1) := by decide +kernel
theorem dd_Tokens_signKind_79 : decode bb_Tokens_signKind 79 = .ok (.bipush 33, 2) := by decide +kernel
theorem dd_Tokens_signKind_81 : decode bb_Tokens_signKind 81 = .ok (.if_icmp .eq 15, 3) := by decide +kernel
theorem dd_Tokens_signKind_84 : decode bb_Tokens_signKind 84 = .ok (.iload_n 2, 1) := by decide +kernel
theorem dd_Tokens_signKind_85 : decode bb_Tokens_signKind 85 = .ok (.bipush 60, 2) := by decide +kernel
theorem dd_Tokens_signKind_87 : decode bb_Tokens_signKind 87 = .ok (.if_icmp .eq 9, 3) := by decide +kernel
theorem dd_Tokens_signKind_90 : decode bb_Tokens_signKind 90 = .ok (.iload_n 2, 1) := by decide +kernel
theorem dd_Tokens_signKind_91 : decode bb_Tokens_signKind 91 = .ok (.bipush 62, 2) := by decide +kernel
theorem dd_Tokens_signKind_93 : decode bb_Tokens_signKind 93 = .ok (.if_icmp .ne 31, 3) := by decide +kernel
theorem dd_Tokens_signKind_96 : decode bb_Tokens_signKind 96 = .ok (.iload_n 2, 1) := by decide +kernel
theorem dd_Tokens_signKind_97 : decode bb_Tokens_signKind 97 = .ok (.bipush 33, 2) := by decide +kernel
theorem dd_Tokens_signKind_99 : decode bb_Tokens_signKind 99 = .ok (.if_icmp .ne 9, 3) := by decide +kernel
theorem dd_Tokens_signKind_102 : decode bb_Tokens_signKind 102 = .ok (.sipush 258, 3) := by decide +kernel
theorem dd_Tokens_signKind_105 : decode bb_Tokens_signKind 105 = .ok (.goto 18, 3) := by decide +kernel
theorem dd_Tokens_signKind_108 : decode bb_Tokens_signKind 108 = .ok (.iload_n 2, 1) := by decide +kernel
theorem dd_Tokens_signKind_109 : decode bb_Tokens_signKind 109 = .ok (.bipush 60, 2) := by decide +kernel
theorem dd_Tokens_signKind_111 : decode bb_Tokens_signKind 111 = .ok (.if_icmp .ne 9, 3) := by decide +kernel
theorem dd_Tokens_signKind_114 : decode bb_Tokens_signKind 114 = .ok (.sipush 259, 3) := by decide +kernel
theorem dd_Tokens_signKind_117 : decode bb_Tokens_signKind 117 = .ok (.goto 6, 3) := by decide +kernel
theorem dd_Tokens_signKind_120 : decode bb_Tokens_signKind 120 = .ok (.sipush 260, 3) := by decide +kernel
theorem dd_Tokens_signKind_123 : decode bb_Tokens_signKind 123 = .ok (.ireturn, 1) := by decide +kernel
theorem dd_Tokens_signKind_124 : decode bb_Tokens_signKind 124 = .ok (.iload_n 2, 1) := by decide +kernel
theorem dd_Tokens_signKind_125 : decode bb_Tokens_signKind 125 = .ok (.ifCond .le 17, 3) := by decide +kernel
theorem dd_Tokens_signKind_128 : decode bb_Tokens_signKind 128 = .ok (.ldc 58, 2) := by decide +kernel
theorem dd_Tokens_signKind_130 : decode bb_Tokens_signKind 130 = .ok (.iload_n 2, 1) := by decide +kernel
theorem dd_Tokens_signKind_131 : decode bb_Tokens_signKind 131 = .ok (.i2c, 1) := by decide +kernel
theorem dd_Tokens_signKind_132 : decode bb_Tokens_signKind 132 = .ok (.invokevirtual 60, 3) := by decide +kernel
theorem dd_Tokens_signKind_135 : decode bb_Tokens_signKind 135 = .ok (.ifCond .lt 7, 3) := by decide +kernel
theorem dd_Tokens_signKind_138 : decode bb_Tokens_signKind 138 = .ok (.iload_n 2, 1) := by decide +kernel
theorem dd_Tokens_signKind_139 : decode bb_Tokens_signKind 139 = .ok (.goto 4, 3) := by decide +kernel
theorem dd_Tokens_signKind_142 : decode bb_Tokens_signKind 142 = .ok (.iconst 0, 1) := by decide +kernel
theorem dd_Tokens_signKind_143 : decode bb_Tokens_signKind 143 = .ok (.ireturn, 1) := by decide +kernel
set_option maxRecDepth 100000 in
set_option maxHeartbeats 4000000 in
theorem t_Tokens_signKind_143  (X : zX p s m args cd D cid B bb_Tokens_signKind 4 rr_Tokens zT) (H : zH s meth B n0 (some (.int)) "signKind") {nf : Nat} {s0 : Int32} {c : Zc} {res : Int32 × Zc} (h : f_Tokens_signKind_143 nf s0 c = some res) : Zz p l e (zRm 4 91 0 0) s m args below meth cd (MQ below (zQi D cid B res.1 res.2 n0 0) args s 0 0 (fun q => B ≤ q)) D cid B 4 0 0 c 143 [] [.int s0] := by
  unfold f_Tokens_signKind_143 at h
  obtain rfl := Option.some.inj h
  exact z_iret X H.1 H.2.1 H.2.2.1 dd_Tokens_signKind_143
set_option maxRecDepth 100000 in
set_option maxHeartbeats 4000000 in
theorem t_Tokens_signKind_142  (X : zX p s m args cd D cid B bb_Tokens_signKind 4 rr_Tokens zT) (H : zH s meth B n0 (some (.int)) "signKind") {nf : Nat}  {c : Zc} {res : Int32 × Zc} (h : f_Tokens_signKind_142 nf  c = some res) : Zz p l e (zRm 4 91 0 0) s m args below meth cd (MQ below (zQi D cid B res.1 res.2 n0 0) args s 0 0 (fun q => B ≤ q)) D cid B 4 0 0 c 142 [] [] := by
  unfold f_Tokens_signKind_142 at h
  refine z_iconst (v := 0) X dd_Tokens_signKind_142 (by decide) ?_
  exact t_Tokens_signKind_143 X H h
set_option maxRecDepth 100000 in
set_option maxHeartbeats 4000000 in
theorem t_Tokens_signKind_124  (X : zX p s m args cd D cid B bb_Tokens_signKind 4 rr_Tokens zT) (H : zH s meth B n0 (some (.int)) "signKind") {nf : Nat} {x2 : Int32} {c : Zc} {res : Int32 × Zc} (h : f_Tokens_signKind_124 nf x2 c = some res) : Zz p l e (zRm 4 91 0 0) s m args below meth cd (MQ below (zQi D cid B res.1 res.2 n0 0) args s 0 0 (fun q => B ≤ q)) D cid B 4 0 0 c 124 [(2, .int x2)] [] := by
  unfold f_Tokens_signKind_124 at h
  refine z_iload_n X dd_Tokens_signKind_124 rfl 0 rfl ?_
  refine z_if_le (tgt := 142) X dd_Tokens_signKind_125 (by decide) (fun q11 => ?_) (fun q11 => ?_)
  · rw [if_pos q11] at h
    refine z_sub [] rfl ?_
    exact t_Tokens_signKind_142 X H h
  · rw [if_neg q11] at h
    refine z_ldcS (i := 3) X dd_Tokens_signKind_128 (by decide) rfl rfl ?_
    refine z_iload_n X dd_Tokens_signKind_130 rfl 0 rfl ?_
    refine z_i2c X dd_Tokens_signKind_131 ?_
    obtain ⟨w13, ew13, h⟩ := zb h
    obtain ⟨q12, eq12, h⟩ := zb h
    refine z_callXi X [.int (UInt32.toInt32 (Int32.toUInt32 x2 % 65536))] rfl dd_Tokens_signKind_132 (c_String_indexOf_0 l eq12) (cwV 1 X.1.2.2.2.2 (zg_V km_870 km_871 km_872 km_140 km_873) rfl rfl rfl (by decide +kernel) ⟨Nat.le_of_ble_eq_true rfl, Nat.le_of_ble_eq_true rfl⟩) (zst_s ew13) rfl (Nat.le_of_ble_eq_true rfl) ⟨Nat.le_of_ble_eq_true rfl, Nat.le_of_ble_eq_true rfl⟩ ?_
    refine z_if_lt (tgt := 142) X dd_Tokens_signKind_135 (by decide) (fun q14 => ?_) (fun q14 => ?_)
    · rw [if_pos q14] at h
      refine z_sub [] rfl ?_
      exact t_Tokens_signKind_142 X H h
    · rw [if_neg q14] at h
      refine z_iload_n X dd_Tokens_signKind_138 rfl 0 rfl ?_
      refine z_goto (tgt := 143) X dd_Tokens_signKind_139 (by decide) ?_
      refine z_sub [] rfl ?_
      exact t_Tokens_signKind_143 X H h
set_option maxRecDepth 100000 in
set_option maxHeartbeats 4000000 in
theorem t_Tokens_signKind_123  (X : zX p s m args cd D cid B bb_Tokens_signKind 4 rr_Tokens zT) (H : zH s meth B n0 (some (.int)) "signKind") {nf : Nat} {s0 : Int32} {c : Zc} {res : Int32 × Zc} (h : f_Tokens_signKind_123 nf s0 c = some res) : Zz p l e (zRm 4 91 0 0) s m args below meth cd (MQ below (zQi D cid B res.1 res.2 n0 0) args s 0 0 (fun q => B ≤ q)) D cid B 4 0 0 c 123 [] [.int s0] := by
  unfold f_Tokens_signKind_123 at h
  obtain rfl := Option.some.inj h
  exact z_iret X H.1 H.2.1 H.2.2.1 dd_Tokens_signKind_123
set_option maxRecDepth 100000 in
set_option maxHeartbeats 4000000 in
theorem t_Tokens_signKind_96  (X : zX p s m args cd D cid B bb_Tokens_signKind 4 rr_Tokens zT) (H : zH s meth B n0 (some (.int)) "signKind") {nf : Nat} {x2 : Int32} {c : Zc} {res : Int32 × Zc} (h : f_Tokens_signKind_96 nf x2 c = some res) : Zz p l e (zRm 4 91 0 0) s m args below meth cd (MQ below (zQi D cid B res.1 res.2 n0 0) args s 0 0 (fun q => B ≤ q)) D cid B 4 0 0 c 96 [(2, .int x2)] [] := by
  unfold f_Tokens_signKind_96 at h
  refine z_iload_n X dd_Tokens_signKind_96 rfl 0 rfl ?_
  refine z_bipush (v := 33) X dd_Tokens_signKind_97 (by decide) ?_
  refine z_icmp_ne (tgt := 108) X dd_Tokens_signKind_99 (by decide) (fun q16 => ?_) (fun q16 => ?_)
  · rw [if_neg q16] at h
    refine z_iload_n X dd_Tokens_signKind_108 rfl 0 rfl ?_
    refine z_bipush (v := 60) X dd_Tokens_signKind_109 (by decide) ?_
    refine z_icmp_ne (tgt := 120) X dd_Tokens_signKind_111 (by decide) (fun q17 => ?_) (fun q17 => ?_)
    · rw [if_neg q17] at h
      refine z_sipush (v := 260) X dd_Tokens_signKind_120 (by decide) ?_
      refine z_sub [] rfl ?_
      exact t_Tokens_signKind_123 X H h
    · rw [if_pos q17] at h
      refine z_sipush (v := 259) X dd_Tokens_signKind_114 (by decide) ?_
      refine z_goto (tgt := 123) X dd_Tokens_signKind_117 (by decide) ?_
      refine z_sub [] rfl ?_
      exact t_Tokens_signKind_123 X H h
  · rw [if_pos q16] at h
    refine z_sipush (v := 258) X dd_Tokens_signKind_102 (by decide) ?_
    refine z_goto (tgt := 123) X dd_Tokens_signKind_105 (by decide) ?_
    refine z_sub [] rfl ?_
    exact t_Tokens_signKind_123 X H h
set_option maxRecDepth 100000 in
set_option maxHeartbeats 4000000 in
theorem t_Tokens_signKind_72  (X : zX p s m args cd D cid B bb_Tokens_signKind 4 rr_Tokens zT) (H : zH s meth B n0 (some (.int)) "signKind") {nf : Nat} {x2 : Int32} {x3 : Int32} {c : Zc} {res : Int32 × Zc} (h : f_Tokens_signKind_72 nf x2 x3 c = some res) : Zz p l e (zRm 4 91 0 0) s m args below meth cd (MQ below (zQi D cid B res.1 res.2 n0 0) args s 0 0 (fun q => B ≤ q)) D cid B 4 0 0 c 72 [(2, .int x2), (3, .int x3)] [] := by
  unfold f_Tokens_signKind_72 at h
  refine z_iload_n X dd_Tokens_signKind_72 rfl 1 rfl ?_
  refine z_bipush (v := 61) X dd_Tokens_signKind_73 (by decide) ?_
  refine z_icmp_ne (tgt := 124) X dd_Tokens_signKind_75 (by decide) (fun q10 => ?_) (fun q10 => ?_)
  · rw [if_neg q10] at h
    refine z_sub [0] rfl ?_
    exact t_Tokens_signKind_124 X H h
  · rw [if_pos q10] at h
    refine z_iload_n X dd_Tokens_signKind_78 rfl 0 rfl ?_
    refine z_bipush (v := 33) X dd_Tokens_signKind_79 (by decide) ?_
    refine z_icmp_eq (tgt := 96) X dd_Tokens_signKind_81 (by decide) (fun q15 => ?_) (fun q15 => ?_)
    · rw [if_pos q15] at h
      refine z_sub [0] rfl ?_
      exact t_Tokens_signKind_96 X H h
    · rw [if_neg q15] at h
      refine z_iload_n X dd_Tokens_signKind_84 rfl 0 rfl ?_
      refine z_bipush (v := 60) X dd_Tokens_signKind_85 (by decide) ?_
      refine z_icmp_eq (tgt := 96) X dd_Tokens_signKind_87 (by decide) (fun q18 => ?_) (fun q18 => ?_)
      · rw [if_pos q18] at h
        refine z_sub [0] rfl ?_
        exact t_Tokens_signKind_96 X H h
      · rw [if_neg q18] at h
        refine z_iload_n X dd_Tokens_signKind_90 rfl 0 rfl ?_
        refine z_bipush (v := 62) X dd_Tokens_signKind_91 (by decide) ?_
        refine z_icmp_ne (tgt := 124) X dd_Tokens_signKind_93 (by decide) (fun q19 => ?_) (fun q19 => ?_)
        · rw [if_neg q19] at h
          refine z_sub [0] rfl ?_
          exact t_Tokens_signKind_124 X H h
        · rw [if_pos q19] at h
          refine z_sub [0] rfl ?_
          exact t_Tokens_signKind_96 X H h
set_option maxRecDepth 100000 in
set_option maxHeartbeats 4000000 in
theorem t_Tokens_signKind_56  (X : zX p s m args cd D cid B bb_Tokens_signKind 4 rr_Tokens zT) (H : zH s meth B n0 (some (.int)) "signKind") {nf : Nat} {x2 : Int32} {x3 : Int32} {c : Zc} {res : Int32 × Zc} (h : f_Tokens_signKind_56 nf x2 x3 c = some res) : Zz p l e (zRm 4 91 0 0) s m args below meth cd (MQ below (zQi D cid B res.1 res.2 n0 0) args s 0 0 (fun q => B ≤ q)) D cid B 4 0 0 c 56 [(2, .int x2), (3, .int x3)] [] := by
  unfold f_Tokens_signKind_56 at h
  refine z_iload_n X dd_Tokens_signKind_56 rfl 0 rfl ?_
  refine z_bipush (v := 60) X dd_Tokens_signKind_57 (by decide) ?_
  refine z_icmp_ne (tgt := 72) X dd_Tokens_signKind_59 (by decide) (fun q9 => ?_) (fun q9 => ?_)
  · rw [if_neg q9] at h
    exact t_Tokens_signKind_72 X H h
  · rw [if_pos q9] at h
    refine z_iload_n X dd_Tokens_signKind_62 rfl 1 rfl ?_
    refine z_bipush (v := 45) X dd_Tokens_signKind_63 (by decide) ?_
    refine z_icmp_ne (tgt := 72) X dd_Tokens_signKind_65 (by decide) (fun q20 => ?_) (fun q20 => ?_)
    · rw [if_neg q20] at h
      exact t_Tokens_signKind_72 X H h
    · rw [if_pos q20] at h
      refine z_sipush (v := 257) X dd_Tokens_signKind_68 (by decide) ?_
      obtain rfl := Option.some.inj h
      exact z_iret X H.1 H.2.1 H.2.2.1 dd_Tokens_signKind_71
set_option maxRecDepth 100000 in
set_option maxHeartbeats 4000000 in
theorem t_Tokens_signKind_29  (X : zX p s m args cd D cid B bb_Tokens_signKind 4 rr_Tokens zT) (H : zH s meth B n0 (some (.int)) "signKind") {nf : Nat} {x0 : Nat} {x2 : Int32} {s0 : Int32} {c : Zc} {res : Int32 × Zc} (h : f_Tokens_signKind_29 nf x0 x2 s0 c = some res) : Zz p l e (zRm 4 91 0 0) s m args below meth cd (MQ below (zQi D cid B res.1 res.2 n0 0) args s 0 0 (fun q => B ≤ q)) D cid B 4 0 0 c 29 [(0, .ref x0), (2, .int x2)] [.int s0] := by
  unfold f_Tokens_signKind_29 at h
  refine z_istore_n (lv' := [(3, .int s0), (0, .ref x0), (2, .int x2)]) X dd_Tokens_signKind_29 rfl (by decide) rfl ?_
  refine z_aload_n X dd_Tokens_signKind_30 rfl 1 rfl ?_
  obtain ⟨v5, ev5, h⟩ := zb h
  refine z_get (j := 1) X dd_Tokens_signKind_31 kc_3 ki_3 (by decide) km_418 (zgr_v ev5) ?_
  refine z_aload_n X dd_Tokens_signKind_34 rfl 1 rfl ?_
  obtain ⟨v6, ev6, h⟩ := zb h
  refine z_get (j := 3) X dd_Tokens_signKind_35 kc_3 ki_3 (by decide) km_422 (zgi_v ev6) ?_
  refine z_iconst (v := 0) X dd_Tokens_signKind_38 (by decide) ?_
  obtain ⟨c7, ec7, h⟩ := zb h
  refine z_iastore X dd_Tokens_signKind_39 rfl ec7 ?_
  refine z_iload_n X dd_Tokens_signKind_40 rfl 2 rfl ?_
  refine z_bipush (v := 45) X dd_Tokens_signKind_41 (by decide) ?_
  refine z_icmp_ne (tgt := 56) X dd_Tokens_signKind_43 (by decide) (fun q8 => ?_) (fun q8 => ?_)
  · rw [if_neg q8] at h
    refine z_sub [2, 0] rfl ?_
    exact t_Tokens_signKind_56 X H h
  · rw [if_pos q8] at h
    refine z_iload_n X dd_Tokens_signKind_46 rfl 0 rfl ?_
    refine z_bipush (v := 62) X dd_Tokens_signKind_47 (by decide) ?_
    refine z_icmp_ne (tgt := 56) X dd_Tokens_signKind_49 (by decide) (fun q21 => ?_) (fun q21 => ?_)
    · rw [if_neg q21] at h
      refine z_sub [2, 0] rfl ?_
      exact t_Tokens_signKind_56 X H h
    · rw [if_pos q21] at h
      refine z_sipush (v := 256) X dd_Tokens_signKind_52 (by decide) ?_
      obtain rfl := Option.some.inj h
      exact z_iret X H.1 H.2.1 H.2.2.1 dd_Tokens_signKind_55
set_option maxRecDepth 100000 in
set_option maxHeartbeats 4000000 in
theorem c_Tokens_signKind (l : Launch) {nf : Nat} {a0 : Nat} {a1 : Int32} {c : Zc} {res : Int32 × Zc} (h : f_Tokens_signKind nf a0 a1 c = some res) : zM l yy_Tokens_signKind ww_Tokens_signKind 4 91 0 0 [.ref a0, .int a1] c (fun D cid B => zQi D cid B res.1 res.2 c.length 0) := by
  refine z_met (cc := bb_Tokens_signKind) (maxL := 4) (ret := (some (.int))) (by decide +kernel) rfl (Nat.le_of_ble_eq_true rfl) ?_
  intro p e s m args below meth cd D cid B X h1 h2 h3 h4
  have X : zX p s m args cd D cid B bb_Tokens_signKind 4 rr_Tokens zT := X
  have H : zH s meth B c.length (some (.int)) "signKind" := ⟨h1, h2, h4, h3⟩
  unfold f_Tokens_signKind at h
  show Zz p l e (zRm 4 91 0 0) s m args below meth cd _ D cid B 4 0 0 c 0 [(0, .ref a0), (1, .int a1)] []
  refine z_aload_n X dd_Tokens_signKind_0 rfl 0 rfl ?_
  obtain ⟨v1, ev1, h⟩ := zb h
  refine z_get (j := 4) X dd_Tokens_signKind_1 kc_3 ki_3 (by decide) km_424 (zgr_v ev1) ?_
  refine z_iload_n X dd_Tokens_signKind_4 rfl 1 rfl ?_
  obtain ⟨v2, ev2, h⟩ := zb h
  refine z_baload X dd_Tokens_signKind_5 rfl ev2 ?_
  refine z_istore_n (lv' := [(2, .int v2), (0, .ref a0), (1, .int a1)]) X dd_Tokens_signKind_6 rfl (by decide) rfl ?_
  refine z_iload_n X dd_Tokens_signKind_7 rfl 2 rfl ?_
  refine z_iconst (v := 1) X dd_Tokens_signKind_8 (by decide) ?_
  refine z_iadd X dd_Tokens_signKind_9 ?_
  refine z_aload_n X dd_Tokens_signKind_10 rfl 1 rfl ?_
  obtain ⟨v3, ev3, h⟩ := zb h
  refine z_get (j := 5) X dd_Tokens_signKind_11 kc_3 ki_3 (by decide) km_425 (zgi_v ev3) ?_
  refine z_icmp_ge (tgt := 28) X dd_Tokens_signKind_14 (by decide) (fun q4 => ?_) (fun q4 => ?_)
  · rw [if_pos q4] at h
    refine z_iconst (v := 0) X dd_Tokens_signKind_28 (by decide) ?_
    refine z_sub [1, 0] rfl ?_
    exact t_Tokens_signKind_29 X H h
  · rw [if_neg q4] at h
    refine z_aload_n X dd_Tokens_signKind_17 rfl 1 rfl ?_
    obtain ⟨v22, ev22, h⟩ := zb h
    refine z_get (j := 4) X dd_Tokens_signKind_18 kc_3 ki_3 (by decide) km_424 (zgr_v ev22) ?_
    refine z_iload_n X dd_Tokens_signKind_21 rfl 2 rfl ?_
    refine z_iconst (v := 1) X dd_Tokens_signKind_22 (by decide) ?_
    refine z_iadd X dd_Tokens_signKind_23 ?_
    obtain ⟨v23, ev23, h⟩ := zb h
    refine z_baload X dd_Tokens_signKind_24 rfl ev23 ?_
    refine z_goto (tgt := 29) X dd_Tokens_signKind_25 (by decide) ?_
    refine z_sub [1, 0] rfl ?_
    exact t_Tokens_signKind_29 X H h
end ZzM
