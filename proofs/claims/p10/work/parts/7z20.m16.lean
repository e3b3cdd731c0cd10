section ZzM
variable {p : Program} {l : Launch} {e : Env} {s : State} {m : MethodId} {args : Array Value} {below : List Frame} {meth : Method} {cd : Code} {Q : State → Prop} {D : va_G} {cid : Nat → ClassId} {B n0 : Nat}
theorem dd_Mo_isWordByte_0 : decode bb_Mo_isWordByte 0 = .ok (.iload_n 0, 1) := by decide +kernel
theorem dd_Mo_isWordByte_1 : decode bb_Mo_isWordByte 1 = .ok (.invokestatic 235, 3) := by decide +kernel
theorem dd_Mo_isWordByte_4 : decode bb_Mo_isWordByte 4 = .ok (.ifCond .ne 22, 3) := by decide +kernel
theorem dd_Mo_isWordByte_7 : decode bb_Mo_isWordByte 7 = .ok (.iload_n 0, 1) := by decide +kernel
theorem dd_Mo_isWordByte_8 : decode bb_Mo_isWordByte 8 = .ok (.bipush 65, 2) := by decide +kernel
theorem dd_Mo_isWordByte_10 : decode bb_Mo_isWordByte 10 = .ok (.if_icmp .lt 9, 3) := by decide +kernel
theorem dd_Mo_isWordByte_13 : decode bb_Mo_isWordByte 13 = .ok (.iload_n 0, 1) := by decide +kernel
theorem dd_Mo_isWordByte_14 : decode bb_Mo_isWordByte 14 = .ok (.bipush 90, 2) := by decide +kernel
theorem dd_Mo_isWordByte_16 : decode bb_Mo_isWordByte 16 = .ok (.if_icmp .le 10, 3) := by decide +kernel
theorem dd_Mo_isWordByte_19 : decode bb_Mo_isWordByte 19 = .ok (.iload_n 0, 1) := by decide +kernel
theorem dd_Mo_isWordByte_20 : decode bb_Mo_isWordByte 20 = .ok (.invokestatic 239, 3) := by decide +kernel
theorem dd_Mo_isWordByte_23 : decode bb_Mo_isWordByte 23 = .ok (.ifCond .eq 7, 3) := by decide +kernel
theorem dd_Mo_isWordByte_26 : decode bb_Mo_isWordByte 26 = .ok (.iconst 1, 1) := by decide +kernel
theorem dd_Mo_isWordByte_27 : decode bb_Mo_isWordByte 27 = .ok (.goto 4, 3) := by decide +kernel
theorem dd_Mo_isWordByte_30 : decode bb_Mo_isWordByte 30 = .ok (.iconst 0, 1) := by decide +kernel
theorem dd_Mo_isWordByte_31 : decode bb_Mo_isWordByte 31 = .ok (.ireturn, 1) := by decide +kernel
set_option maxRecDepth 100000 in
set_option maxHeartbeats 4000000 in
theorem t_Mo_isWordByte_31  (X : zX p s m args cd D cid B bb_Mo_isWordByte 1 rr_Mo zT) (H : zH s meth B n0 (some (.boolean)) "isWordByte") {nf : Nat} {s0 : Int32} {c : Zc} {res : Int32 × Zc} (h : f_Mo_isWordByte_31 nf s0 c = some res) : Zz p l e (zRm 1 20 0 0) s m args below meth cd (MQ below (zQi D cid B res.1 res.2 n0 0) args s 0 0 (fun q => B ≤ q)) D cid B 1 0 0 c 31 [] [.int s0] := by
  unfold f_Mo_isWordByte_31 at h
  obtain ⟨hz, h⟩ := zrz_s h
  obtain rfl := h
  exact z_zret X H.1 (zn_z hz) H.2.1 H.2.2.1 dd_Mo_isWordByte_31
set_option maxRecDepth 100000 in
set_option maxHeartbeats 4000000 in
theorem t_Mo_isWordByte_26  (X : zX p s m args cd D cid B bb_Mo_isWordByte 1 rr_Mo zT) (H : zH s meth B n0 (some (.boolean)) "isWordByte") {nf : Nat}  {c : Zc} {res : Int32 × Zc} (h : f_Mo_isWordByte_26 nf  c = some res) : Zz p l e (zRm 1 20 0 0) s m args below meth cd (MQ below (zQi D cid B res.1 res.2 n0 0) args s 0 0 (fun q => B ≤ q)) D cid B 1 0 0 c 26 [] [] := by
  unfold f_Mo_isWordByte_26 at h
  refine z_iconst (v := 1) X dd_Mo_isWordByte_26 (by decide) ?_
  refine z_goto (tgt := 31) X dd_Mo_isWordByte_27 (by decide) ?_
  exact t_Mo_isWordByte_31 X H h
set_option maxRecDepth 100000 in
set_option maxHeartbeats 4000000 in
theorem t_Mo_isWordByte_19  (X : zX p s m args cd D cid B bb_Mo_isWordByte 1 rr_Mo zT) (H : zH s meth B n0 (some (.boolean)) "isWordByte") {nf : Nat} {x0 : Int32} {c : Zc} {res : Int32 × Zc} (h : f_Mo_isWordByte_19 nf x0 c = some res) : Zz p l e (zRm 1 20 0 0) s m args below meth cd (MQ below (zQi D cid B res.1 res.2 n0 0) args s 0 0 (fun q => B ≤ q)) D cid B 1 0 0 c 19 [(0, .int x0)] [] := by
  unfold f_Mo_isWordByte_19 at h
  refine z_iload_n X dd_Mo_isWordByte_19 rfl 0 rfl ?_
  obtain ⟨q4, eq4, h⟩ := zb h
  refine z_callSi X [.int x0] rfl dd_Mo_isWordByte_20 (c_Mo_isDigit l eq4) (va_cwS 1 X.1.2.2.2.2 (zg_S km_1870 km_1871 km_138 km_1872) rfl rfl rfl (by decide +kernel) ⟨Nat.le_of_ble_eq_true rfl, Nat.le_of_ble_eq_true rfl⟩) rfl (Nat.le_of_ble_eq_true rfl) ⟨Nat.le_of_ble_eq_true rfl, Nat.le_of_ble_eq_true rfl⟩ ?_
  refine z_if_eq (tgt := 30) X dd_Mo_isWordByte_23 (by decide) (fun q5 => ?_) (fun q5 => ?_)
  · rw [if_pos q5] at h
    refine z_iconst (v := 0) X dd_Mo_isWordByte_30 (by decide) ?_
    refine z_sub [] rfl ?_
    exact t_Mo_isWordByte_31 X H h
  · rw [if_neg q5] at h
    refine z_sub [] rfl ?_
    exact t_Mo_isWordByte_26 X H h
set_option maxRecDepth 100000 in
set_option maxHeartbeats 4000000 in
theorem c_Mo_isWordByte (l : Launch) {nf : Nat} {a0 : Int32} {c : Zc} {res : Int32 × Zc} (h : f_Mo_isWordByte nf a0 c = some res) : zM l yy_Mo_isWordByte ww_Mo_isWordByte 1 20 0 0 [.int a0] c (fun D cid B => zQi D cid B res.1 res.2 c.length 0) := by
  refine z_met (cc := bb_Mo_isWordByte) (maxL := 1) (ret := (some (.boolean))) (by decide +kernel) rfl (Nat.le_of_ble_eq_true rfl) ?_
  intro p e s m args below meth cd D cid B X h1 h2 h3 h4
  have X : zX p s m args cd D cid B bb_Mo_isWordByte 1 rr_Mo zT := X
  have H : zH s meth B c.length (some (.boolean)) "isWordByte" := ⟨h1, h2, h4, h3⟩
  unfold f_Mo_isWordByte at h
  show Zz p l e (zRm 1 20 0 0) s m args below meth cd _ D cid B 1 0 0 c 0 [(0, .int a0)] []
  refine z_iload_n X dd_Mo_isWordByte_0 rfl 0 rfl ?_
  obtain ⟨q1, eq1, h⟩ := zb h
  refine z_callSi X [.int a0] rfl dd_Mo_isWordByte_1 (c_Mo_isSmall l eq1) (va_cwS 1 X.1.2.2.2.2 (zg_S km_1867 km_1868 km_138 km_1869) rfl rfl rfl (by decide +kernel) ⟨Nat.le_of_ble_eq_true rfl, Nat.le_of_ble_eq_true rfl⟩) rfl (Nat.le_of_ble_eq_true rfl) ⟨Nat.le_of_ble_eq_true rfl, Nat.le_of_ble_eq_true rfl⟩ ?_
  refine z_if_ne (tgt := 26) X dd_Mo_isWordByte_4 (by decide) (fun q2 => ?_) (fun q2 => ?_)
  · rw [if_neg q2] at h
    refine z_sub [] rfl ?_
    exact t_Mo_isWordByte_26 X H h
  · rw [if_pos q2] at h
    refine z_iload_n X dd_Mo_isWordByte_7 rfl 0 rfl ?_
    refine z_bipush (v := 65) X dd_Mo_isWordByte_8 (by decide) ?_
    refine z_icmp_lt (tgt := 19) X dd_Mo_isWordByte_10 (by decide) (fun q3 => ?_) (fun q3 => ?_)
    · rw [if_pos q3] at h
      exact t_Mo_isWordByte_19 X H h
    · rw [if_neg q3] at h
      refine z_iload_n X dd_Mo_isWordByte_13 rfl 0 rfl ?_
      refine z_bipush (v := 90) X dd_Mo_isWordByte_14 (by decide) ?_
      refine z_icmp_le (tgt := 26) X dd_Mo_isWordByte_16 (by decide) (fun q6 => ?_) (fun q6 => ?_)
      · rw [if_pos q6] at h
        refine z_sub [] rfl ?_
        exact t_Mo_isWordByte_26 X H h
      · rw [if_neg q6] at h
        exact t_Mo_isWordByte_19 X H h
theorem dd_Mo_at_0 : decode bb_Mo_at 0 = .ok (.iload_n 1, 1) := by decide +kernel
theorem dd_Mo_at_1 : decode bb_Mo_at 1 = .ok (.iload_n 2, 1) := by decide +kernel
theorem dd_Mo_at_2 : decode bb_Mo_at 2 = .ok (.if_icmp .ge 16, 3) := by decide +kernel
theorem dd_Mo_at_5 : decode bb_Mo_at 5 = .ok (.aload_n 0, 1) := by decide +kernel
theorem dd_Mo_at_6 : decode bb_Mo_at 6 = .ok (.getfield 39, 3) := by decide +kernel
theorem dd_Mo_at_9 : decode bb_Mo_at 9 = .ok (.iload_n 1, 1) := by decide +kernel
theorem dd_Mo_at_10 : decode bb_Mo_at 10 = .ok (.baload, 1) := by decide +kernel
theorem dd_Mo_at_11 : decode bb_Mo_at 11 = .ok (.sipush 255, 3) := by decide +kernel
theorem dd_Mo_at_14 : decode bb_Mo_at 14 = .ok (.iand, 1) := by decide +kernel
theorem dd_Mo_at_15 : decode bb_Mo_at 15 = .ok (.goto 4, 3) := by decide +kernel
theorem dd_Mo_at_18 : decode bb_Mo_at 18 = .ok (.iconst (-1), 1) := by decide +kernel
theorem dd_Mo_at_19 : decode bb_Mo_at 19 = .ok (.ireturn, 1) := by decide +kernel
set_option maxRecDepth 100000 in
set_option maxHeartbeats 4000000 in
theorem t_Mo_at_19  (X : zX p s m args cd D cid B bb_Mo_at 3 rr_Mo zT) (H : zH s meth B n0 (some (.int)) "at") {nf : Nat} {s0 : Int32} {c : Zc} {res : Int32 × Zc} (h : f_Mo_at_19 nf s0 c = some res) : Zz p l e (zRm 0 0 0 0) s m args below meth cd (MQ below (zQi D cid B res.1 res.2 n0 0) args s 0 0 (fun q => B ≤ q)) D cid B 3 0 0 c 19 [] [.int s0] := by
  unfold f_Mo_at_19 at h
  obtain rfl := Option.some.inj h
  exact z_iret X H.1 H.2.1 H.2.2.1 dd_Mo_at_19
set_option maxRecDepth 100000 in
set_option maxHeartbeats 4000000 in
theorem c_Mo_at (l : Launch) {nf : Nat} {a0 : Nat} {a1 : Int32} {a2 : Int32} {c : Zc} {res : Int32 × Zc} (h : f_Mo_at nf a0 a1 a2 c = some res) : zM l yy_Mo_at ww_Mo_at 0 0 0 0 [.ref a0, .int a1, .int a2] c (fun D cid B => zQi D cid B res.1 res.2 c.length 0) := by
  refine z_met (cc := bb_Mo_at) (maxL := 3) (ret := (some (.int))) (by decide +kernel) rfl (Nat.le_of_ble_eq_true rfl) ?_
  intro p e s m args below meth cd D cid B X h1 h2 h3 h4
  have X : zX p s m args cd D cid B bb_Mo_at 3 rr_Mo zT := X
  have H : zH s meth B c.length (some (.int)) "at" := ⟨h1, h2, h4, h3⟩
  unfold f_Mo_at at h
  show Zz p l e (zRm 0 0 0 0) s m args below meth cd _ D cid B 3 0 0 c 0 [(0, .ref a0), (1, .int a1), (2, .int a2)] []
  refine z_iload_n X dd_Mo_at_0 rfl 1 rfl ?_
  refine z_iload_n X dd_Mo_at_1 rfl 2 rfl ?_
  refine z_icmp_ge (tgt := 18) X dd_Mo_at_2 (by decide) (fun q1 => ?_) (fun q1 => ?_)
  · rw [if_pos q1] at h
    refine z_iconst (v := (-1)) X dd_Mo_at_18 (by decide) ?_
    refine z_sub [] rfl ?_
    exact t_Mo_at_19 X H h
  · rw [if_neg q1] at h
    refine z_aload_n X dd_Mo_at_5 rfl 0 rfl ?_
    obtain ⟨v2, ev2, h⟩ := zb h
    refine z_get (j := 12) X dd_Mo_at_6 kc_12 ki_12 (by decide) km_1533 (zgr_v ev2) ?_
    refine z_iload_n X dd_Mo_at_9 rfl 1 rfl ?_
    obtain ⟨v3, ev3, h⟩ := zb h
    refine z_baload X dd_Mo_at_10 rfl ev3 ?_
    refine z_sipush (v := 255) X dd_Mo_at_11 (by decide) ?_
    refine z_iand X dd_Mo_at_14 ?_
    refine z_goto (tgt := 19) X dd_Mo_at_15 (by decide) ?_
    refine z_sub [] rfl ?_
    exact t_Mo_at_19 X H h
theorem dd_Mo_isVariable_0 : decode bb_Mo_isVariable 0 = .ok (.iload_n 0, 1) := by decide +kernel
theorem dd_Mo_isVariable_1 : decode bb_Mo_isVariable 1 = .ok (.bipush 117, 2) := by decide +kernel
theorem dd_Mo_isVariable_3 : decode bb_Mo_isVariable 3 = .ok (.if_icmp .lt 13, 3) := by decide +kernel
theorem dd_Mo_isVariable_6 : decode bb_Mo_isVariable 6 = .ok (.iload_n 0, 1) := by decide +kernel
theorem dd_Mo_isVariable_7 : decode bb_Mo_isVariable 7 = .ok (.bipush 122, 2) := by decide +kernel
theorem dd_Mo_isVariable_9 : decode bb_Mo_isVariable 9 = .ok (.if_icmp .gt 7, 3) := by decide +kernel
theorem dd_Mo_isVariable_12 : decode bb_Mo_isVariable 12 = .ok (.iconst 1, 1) := by decide +kernel
theorem dd_Mo_isVariable_13 : decode bb_Mo_isVariable 13 = .ok (.goto 4, 3) := by decide +kernel
theorem dd_Mo_isVariable_16 : decode bb_Mo_isVariable 16 = .ok (.iconst 0, 1) := by decide +kernel
theorem dd_Mo_isVariable_17 : decode bb_Mo_isVariable 17 = .ok (.ireturn, 1) := by decide +kernel
set_option maxRecDepth 100000 in
set_option maxHeartbeats 4000000 in
theorem t_Mo_isVariable_17  (X : zX p s m args cd D cid B bb_Mo_isVariable 1 rr_Mo zT) (H : zH s meth B n0 (some (.boolean)) "isVariable") {nf : Nat} {s0 : Int32} {c : Zc} {res : Int32 × Zc} (h : f_Mo_isVariable_17 nf s0 c = some res) : Zz p l e (zRm 0 0 0 0) s m args below meth cd (MQ below (zQi D cid B res.1 res.2 n0 0) args s 0 0 (fun q => B ≤ q)) D cid B 1 0 0 c 17 [] [.int s0] := by
  unfold f_Mo_isVariable_17 at h
  obtain ⟨hz, h⟩ := zrz_s h
  obtain rfl := h
  exact z_zret X H.1 (zn_z hz) H.2.1 H.2.2.1 dd_Mo_isVariable_17
set_option maxRecDepth 100000 in
set_option maxHeartbeats 4000000 in
theorem t_Mo_isVariable_16  (X : zX p s m args cd D cid B bb_Mo_isVariable 1 rr_Mo zT) (H : zH s meth B n0 (some (.boolean)) "isVariable") {nf : Nat}  {c : Zc} {res : Int32 × Zc} (h : f_Mo_isVariable_16 nf  c = some res) : Zz p l e (zRm 0 0 0 0) s m args below meth cd (MQ below (zQi D cid B res.1 res.2 n0 0) args s 0 0 (fun q => B ≤ q)) D cid B 1 0 0 c 16 [] [] := by
  unfold f_Mo_isVariable_16 at h
  refine z_iconst (v := 0) X dd_Mo_isVariable_16 (by decide) ?_
  exact t_Mo_isVariable_17 X H h
set_option maxRecDepth 100000 in
set_option maxHeartbeats 4000000 in
theorem c_Mo_isVariable (l : Launch) {nf : Nat} {a0 : Int32} {c : Zc} {res : Int32 × Zc} (h : f_Mo_isVariable nf a0 c = some res) : zM l yy_Mo_isVariable ww_Mo_isVariable 0 0 0 0 [.int a0] c (fun D cid B => zQi D cid B res.1 res.2 c.length 0) := by
  refine z_met (cc := bb_Mo_isVariable) (maxL := 1) (ret := (some (.boolean))) (by decide +kernel) rfl (Nat.le_of_ble_eq_true rfl) ?_
  intro p e s m args below meth cd D cid B X h1 h2 h3 h4
  have X : zX p s m args cd D cid B bb_Mo_isVariable 1 rr_Mo zT := X
  have H : zH s meth B c.length (some (.boolean)) "isVariable" := ⟨h1, h2, h4, h3⟩
  unfold f_Mo_isVariable at h
  show Zz p l e (zRm 0 0 0 0) s m args below meth cd _ D cid B 1 0 0 c 0 [(0, .int a0)] []
  refine z_iload_n X dd_Mo_isVariable_0 rfl 0 rfl ?_
  refine z_bipush (v := 117) X dd_Mo_isVariable_1 (by decide) ?_
  refine z_icmp_lt (tgt := 16) X dd_Mo_isVariable_3 (by decide) (fun q1 => ?_) (fun q1 => ?_)
  · rw [if_pos q1] at h
    refine z_sub [] rfl ?_
    exact t_Mo_isVariable_16 X H h
  · rw [if_neg q1] at h
    refine z_iload_n X dd_Mo_isVariable_6 rfl 0 rfl ?_
    refine z_bipush (v := 122) X dd_Mo_isVariable_7 (by decide) ?_
    refine z_icmp_gt (tgt := 16) X dd_Mo_isVariable_9 (by decide) (fun q2 => ?_) (fun q2 => ?_)
    · rw [if_pos q2] at h
      refine z_sub [] rfl ?_
      exact t_Mo_isVariable_16 X H h
    · rw [if_neg q2] at h
      refine z_iconst (v := 1) X dd_Mo_isVariable_12 (by decide) ?_
      refine z_goto (tgt := 17) X dd_Mo_isVariable_13 (by decide) ?_
      refine z_sub [] rfl ?_
      exact t_Mo_isVariable_17 X H h
theorem dd_Mo_wordKind_0 : decode bb_Mo_wordKind 0 = .ok (.lload_n 0, 1) := by decide +kernel
theorem dd_Mo_wordKind_1 : decode bb_Mo_wordKind 1 = .ok (.ldc2_w 252, 3) := by decide +kernel
theorem dd_Mo_wordKind_4 : decode bb_Mo_wordKind 4 = .ok (.lcmp, 1) := by decide +kernel
theorem dd_Mo_wordKind_5 : decode bb_Mo_wordKind 5 = .ok (.ifCond .ne 6, 3) := by decide +kernel
theorem dd_Mo_wordKind_8 : decode bb_Mo_wordKind 8 = .ok (.bipush 100, 2) := by decide +kernel
theorem dd_Mo_wordKind_10 : decode bb_Mo_wordKind 10 = .ok (.ireturn, 1) := by decide +kernel
theorem dd_Mo_wordKind_11 : decode bb_Mo_wordKind 11 = .ok (.lload_n 0, 1) := by decide +kernel
theorem dd_Mo_wordKind_12 : decode bb_Mo_wordKind 12 = .ok (.ldc2_w 254, 3) := by decide +kernel
theorem dd_Mo_wordKind_15 : decode bb_Mo_wordKind 15 = .ok (.lcmp, 1) := by decide +kernel
theorem dd_Mo_wordKind_16 : decode bb_Mo_wordKind 16 = .ok (.ifCond .ne 6, 3) := by decide +kernel
theorem dd_Mo_wordKind_19 : decode bb_Mo_wordKind 19 = .ok (.bipush 101, 2) := by decide +kernel
theorem dd_Mo_wordKind_21 : decode bb_Mo_wordKind 21 = .ok (.ireturn, 1) := by decide +kernel
theorem dd_Mo_wordKind_22 : decode bb_Mo_wordKind 22 = .ok (.lload_n 0, 1) := by decide +kernel
theorem dd_Mo_wordKind_23 : decode bb_Mo_wordKind 23 = .ok (.ldc2_w 256, 3) := by decide +kernel
theorem dd_Mo_wordKind_26 : decode bb_Mo_wordKind 26 = .ok (.lcmp, 1) := by decide +kernel
theorem dd_Mo_wordKind_27 : decode bb_Mo_wordKind 27 = .ok (.ifCond .ne 6, 3) := by decide +kernel
theorem dd_Mo_wordKind_30 : decode bb_Mo_wordKind 30 = .ok (.bipush 102, 2) := by decide +kernel
theorem dd_Mo_wordKind_32 : decode bb_Mo_wordKind 32 = .ok (.ireturn, 1) := by decide +kernel
theorem dd_Mo_wordKind_33 : decode bb_Mo_wordKind 33 = .ok (.lload_n 0, 1) := by decide +kernel
theorem dd_Mo_wordKind_34 : decode bb_Mo_wordKind 34 = .ok (.ldc2_w 258, 3) := by decide +kernel
theorem dd_Mo_wordKind_37 : decode bb_Mo_wordKind 37 = .ok (.lcmp, 1) := by decide +kernel
theorem dd_Mo_wordKind_38 : decode bb_Mo_wordKind 38 = .ok (.ifCond .ne 6, 3) := by decide +kernel
theorem dd_Mo_wordKind_41 : decode bb_Mo_wordKind 41 = .ok (.bipush 103, 2) := by decide +kernel
theorem dd_Mo_wordKind_43 : decode bb_Mo_wordKind 43 = .ok (.ireturn, 1) := by decide +kernel
theorem dd_Mo_wordKind_44 : decode bb_Mo_wordKind 44 = .ok (.lload_n 0, 1) := by decide +kernel
theorem dd_Mo_wordKind_45 : decode bb_Mo_wordKind 45 = .ok (.ldc2_w 260, 3) := by decide +kernel
theorem dd_Mo_wordKind_48 : decode bb_Mo_wordKind 48 = .ok (.lcmp, 1) := by decide +kernel
theorem dd_Mo_wordKind_49 : decode bb_Mo_wordKind 49 = .ok (.ifCond .ne 6, 3) := by decide +kernel
theorem dd_Mo_wordKind_52 : decode bb_Mo_wordKind 52 = .ok (.bipush 104, 2) := by decide +kernel
theorem dd_Mo_wordKind_54 : decode bb_Mo_wordKind 54 = .ok (.ireturn, 1) := by decide +kernel
theorem dd_Mo_wordKind_55 : decode bb_Mo_wordKind 55 = .ok (.lload_n 0, 1) := by decide +kernel
theorem dd_Mo_wordKind_56 : decode bb_Mo_wordKind 56 = .ok (.ldc2_w 262, 3) := by decide +kernel
theorem dd_Mo_wordKind_59 : decode bb_Mo_wordKind 59 = .ok (.lcmp, 1) := by decide +kernel
theorem dd_Mo_wordKind_60 : decode bb_Mo_wordKind 60 = .ok (.ifCond .ne 6, 3) := by decide +kernel
theorem dd_Mo_wordKind_63 : decode bb_Mo_wordKind 63 = .ok (.bipush 105, 2) := by decide +kernel
theorem dd_Mo_wordKind_65 : decode bb_Mo_wordKind 65 = .ok (.ireturn, 1) := by decide +kernel
theorem dd_Mo_wordKind_66 : decode bb_Mo_wordKind 66 = .ok (.lload_n 0, 1) := by decide +kernel
theorem dd_Mo_wordKind_67 : decode bb_Mo_wordKind 67 = .ok (.ldc2_w 264, 3) := by decide +kernel
theorem dd_Mo_wordKind_70 : decode bb_Mo_wordKind 70 = .ok (.lcmp, 1) := by decide +kernel
theorem dd_Mo_wordKind_71 : decode bb_Mo_wordKind 71 = .ok (.ifCond .ne 6, 3) := by decide +kernel
theorem dd_Mo_wordKind_74 : decode bb_Mo_wordKind 74 = .ok (.bipush 106, 2) := by decide +kernel
theorem dd_Mo_wordKind_76 : decode bb_Mo_wordKind 76 = .ok (.ireturn, 1) := by decide +kernel
theorem dd_Mo_wordKind_77 : decode bb_Mo_wordKind 77 = .ok (.lload_n 0, 1) := by decide +kernel
theorem dd_Mo_wordKind_78 : decode bb_Mo_wordKind 78 = .ok (.ldc2_w 266, 3) := by decide +kernel
theorem dd_Mo_wordKind_81 : decode bb_Mo_wordKind 81 = .ok (.lcmp, 1) := by decide +kernel
theorem dd_Mo_wordKind_82 : decode bb_Mo_wordKind 82 = .ok (.ifCond .ne 6, 3) := by decide +kernel
theorem dd_Mo_wordKind_85 : decode bb_Mo_wordKind 85 = .ok (.bipush 107, 2) := by decide +kernel
theorem dd_Mo_wordKind_87 : decode bb_Mo_wordKind 87 = .ok (.ireturn, 1) := by decide +kernel
theorem dd_Mo_wordKind_88 : decode bb_Mo_wordKind 88 = .ok (.lload_n 0, 1) := by decide +kernel
theorem dd_Mo_wordKind_89 : decode bb_Mo_wordKind 89 = .ok (.ldc2_w 268, 3) := by decide +kernel
theorem dd_Mo_wordKind_92 : decode bb_Mo_wordKind 92 = .ok (.lcmp, 1) := by decide +kernel
theorem dd_Mo_wordKind_93 : decode bb_Mo_wordKind 93 = .ok (.ifCond .ne 6, 3) := by decide +kernel
theorem dd_Mo_wordKind_96 : decode bb_Mo_wordKind 96 = .ok (.bipush 108, 2) := by decide +kernel
theorem dd_Mo_wordKind_98 : decode bb_Mo_wordKind 98 = .ok (.ireturn, 1) := by decide +kernel
theorem dd_Mo_wordKind_99 : decode bb_Mo_wordKind 99 = .ok (.lload_n 0, 1) := by decide +kernel
theorem dd_Mo_wordKind_100 : decode bb_Mo_wordKind 100 = .ok (.ldc2_w 270, 3) := by decide +kernel
theorem dd_Mo_wordKind_103 : decode bb_Mo_wordKind 103 = .ok (.lcmp, 1) := by decide +kernel
theorem dd_Mo_wordKind_104 : decode bb_Mo_wordKind 104 = .ok (.ifCond .ne 6, 3) := by decide +kernel
theorem dd_Mo_wordKind_107 : decode bb_Mo_wordKind 107 = .ok (.bipush 109, 2) := by decide +kernel
theorem dd_Mo_wordKind_109 : decode bb_Mo_wordKind 109 = .ok (.ireturn, 1) := by decide +kernel
theorem dd_Mo_wordKind_110 : decode bb_Mo_wordKind 110 = .ok (.lload_n 0, 1) := by decide +kernel
theorem dd_Mo_wordKind_111 : decode bb_Mo_wordKind 111 = .ok (.ldc2_w 272, 3) := by decide +kernel
theorem dd_Mo_wordKind_114 : decode bb_Mo_wordKind 114 = .ok (.lcmp, 1) := by decide +kernel
theorem dd_Mo_wordKind_115 : decode bb_Mo_wordKind 115 = .ok (.ifCond .ne 6, 3) := by decide +kernel
theorem dd_Mo_wordKind_118 : decode bb_Mo_wordKind 118 = .ok (.bipush 110, 2) := by decide +kernel
theorem dd_Mo_wordKind_120 : decode bb_Mo_wordKind 120 = .ok (.ireturn, 1) := by decide +kernel
theorem dd_Mo_wordKind_121 : decode bb_Mo_wordKind 121 = .ok (.lload_n 0, 1) := by decide +kernel
theorem dd_Mo_wordKind_122 : decode bb_Mo_wordKind 122 = .ok (.ldc2_w 274, 3) := by decide +kernel
theorem dd_Mo_wordKind_125 : decode bb_Mo_wordKind 125 = .ok (.lcmp, 1) := by decide +kernel
theorem dd_Mo_wordKind_126 : decode bb_Mo_wordKind 126 = .ok (.ifCond .ne 6, 3) := by decide +kernel
theorem dd_Mo_wordKind_129 : decode bb_Mo_wordKind 129 = .ok (.bipush 111, 2) := by decide +kernel
theorem dd_Mo_wordKind_131 : decode bb_Mo_wordKind 131 = .ok (.ireturn, 1) := by decide +kernel
theorem dd_Mo_wordKind_132 : decode bb_Mo_wordKind 132 = .ok (.lload_n 0, 1) := by decide +kernel
theorem dd_Mo_wordKind_133 : decode bb_Mo_wordKind 133 = .ok (.ldc2_w 276, 3) := by decide +kernel
theorem dd_Mo_wordKind_136 : decode bb_Mo_wordKind 136 = .ok (.lcmp, 1) := by decide +kernel
theorem dd_Mo_wordKind_137 : decode bb_Mo_wordKind 137 = .ok (.ifCond .ne 6, 3) := by decide +kernel
theorem dd_Mo_wordKind_140 : decode bb_Mo_wordKind 140 = .ok (.bipush 112, 2) := by decide +kernel
theorem dd_Mo_wordKind_142 : decode bb_Mo_wordKind 142 = .ok (.ireturn, 1) := by decide +kernel
theorem dd_Mo_wordKind_143 : decode bb_Mo_wordKind 143 = .ok (.lload_n 0, 1) := by decide +kernel
theorem dd_Mo_wordKind_144 : decode bb_Mo_wordKind 144 = .ok (.ldc2_w 278, 3) := by decide +kernel
theorem dd_Mo_wordKind_147 : decode bb_Mo_wordKind 147 = .ok (.lcmp, 1) := by decide +kernel
theorem dd_Mo_wordKind_148 : decode bb_Mo_wordKind 148 = .ok (.ifCond .ne 6, 3) := by decide +kernel
theorem dd_Mo_wordKind_151 : decode bb_Mo_wordKind 151 = .ok (.bipush 113, 2) := by decide +kernel
theorem dd_Mo_wordKind_153 : decode bb_Mo_wordKind 153 = .ok (.ireturn, 1) := by decide +kernel
theorem dd_Mo_wordKind_154 : decode bb_Mo_wordKind 154 = .ok (.iconst 1, 1) := by decide +kernel
theorem dd_Mo_wordKind_155 : decode bb_Mo_wordKind 155 = .ok (.ireturn, 1) := by decide +kernel
set_option maxRecDepth 100000 in
set_option maxHeartbeats 4000000 in
theorem c_Mo_wordKind (l : Launch) {nf : Nat} {a0 : Int64} {c : Zc} {res : Int32 × Zc} (h : f_Mo_wordKind nf a0 c = some res) : zM l yy_Mo_wordKind ww_Mo_wordKind 0 0 0 0 [.long a0] c (fun D cid B => zQi D cid B res.1 res.2 c.length 0) := by
  refine z_met (cc := bb_Mo_wordKind) (maxL := 2) (ret := (some (.int))) (by decide +kernel) rfl (Nat.le_of_ble_eq_true rfl) ?_
  intro p e s m args below meth cd D cid B X h1 h2 h3 h4
  have X : zX p s m args cd D cid B bb_Mo_wordKind 2 rr_Mo zT := X
  have H : zH s meth B c.length (some (.int)) "wordKind" := ⟨h1, h2, h4, h3⟩
  unfold f_Mo_wordKind at h
  show Zz p l e (zRm 0 0 0 0) s m args below meth cd _ D cid B 2 0 0 c 0 [(0, .long a0)] []
  refine z_lload_n X dd_Mo_wordKind_0 rfl 0 rfl ?_
  refine z_ldc2 (v := 469786452840) X dd_Mo_wordKind_1 km_1883 ?_
  refine z_lcmp X dd_Mo_wordKind_4 ?_
  refine z_if_ne (tgt := 11) X dd_Mo_wordKind_5 (by decide) (fun q1 => ?_) (fun q1 => ?_)
  · rw [if_neg q1] at h
    refine z_lload_n X dd_Mo_wordKind_11 rfl 0 rfl ?_
    refine z_ldc2 (v := 512852587109) X dd_Mo_wordKind_12 km_1884 ?_
    refine z_lcmp X dd_Mo_wordKind_15 ?_
    refine z_if_ne (tgt := 22) X dd_Mo_wordKind_16 (by decide) (fun q2 => ?_) (fun q2 => ?_)
    · rw [if_neg q2] at h
      refine z_lload_n X dd_Mo_wordKind_22 rfl 0 rfl ?_
      refine z_ldc2 (v := 1734964837) X dd_Mo_wordKind_23 km_1885 ?_
      refine z_lcmp X dd_Mo_wordKind_26 ?_
      refine z_if_ne (tgt := 33) X dd_Mo_wordKind_27 (by decide) (fun q3 => ?_) (fun q3 => ?_)
      · rw [if_neg q3] at h
        refine z_lload_n X dd_Mo_wordKind_33 rfl 0 rfl ?_
        refine z_ldc2 (v := 465625246068) X dd_Mo_wordKind_34 km_1886 ?_
        refine z_lcmp X dd_Mo_wordKind_37 ?_
        refine z_if_ne (tgt := 44) X dd_Mo_wordKind_38 (by decide) (fun q4 => ?_) (fun q4 => ?_)
        · rw [if_neg q4] at h
          refine z_lload_n X dd_Mo_wordKind_44 rfl 0 rfl ?_
          refine z_ldc2 (v := 6385252) X dd_Mo_wordKind_45 km_1887 ?_
          refine z_lcmp X dd_Mo_wordKind_48 ?_
          refine z_if_ne (tgt := 55) X dd_Mo_wordKind_49 (by decide) (fun q5 => ?_) (fun q5 => ?_)
          · rw [if_neg q5] at h
            refine z_lload_n X dd_Mo_wordKind_55 rfl 0 rfl ?_
            refine z_ldc2 (v := 28530) X dd_Mo_wordKind_56 km_1888 ?_
            refine z_lcmp X dd_Mo_wordKind_59 ?_
            refine z_if_ne (tgt := 66) X dd_Mo_wordKind_60 (by decide) (fun q6 => ?_) (fun q6 => ?_)
            · rw [if_neg q6] at h
              refine z_lload_n X dd_Mo_wordKind_66 rfl 0 rfl ?_
              refine z_ldc2 (v := 7237492) X dd_Mo_wordKind_67 km_1889 ?_
              refine z_lcmp X dd_Mo_wordKind_70 ?_
              refine z_if_ne (tgt := 77) X dd_Mo_wordKind_71 (by decide) (fun q7 => ?_) (fun q7 => ?_)
              · rw [if_neg q7] at h
                refine z_lload_n X dd_Mo_wordKind_77 rfl 0 rfl ?_
                refine z_ldc2 (v := 28271) X dd_Mo_wordKind_78 km_1890 ?_
                refine z_lcmp X dd_Mo_wordKind_81 ?_
                refine z_if_ne (tgt := 88) X dd_Mo_wordKind_82 (by decide) (fun q8 => ?_) (fun q8 => ?_)
                · rw [if_neg q8] at h
                  refine z_lload_n X dd_Mo_wordKind_88 rfl 0 rfl ?_
                  refine z_ldc2 (v := 465557353332) X dd_Mo_wordKind_89 km_1891 ?_
                  refine z_lcmp X dd_Mo_wordKind_92 ?_
                  refine z_if_ne (tgt := 99) X dd_Mo_wordKind_93 (by decide) (fun q9 => ?_) (fun q9 => ?_)
                  · rw [if_neg q9] at h
                    refine z_lload_n X dd_Mo_wordKind_99 rfl 0 rfl ?_
                    refine z_ldc2 (v := 427071729268) X dd_Mo_wordKind_100 km_1892 ?_
                    refine z_lcmp X dd_Mo_wordKind_103 ?_
                    refine z_if_ne (tgt := 110) X dd_Mo_wordKind_104 (by decide) (fun q10 => ?_) (fun q10 => ?_)
                    · rw [if_neg q10] at h
                      refine z_lload_n X dd_Mo_wordKind_110 rfl 0 rfl ?_
                      refine z_ldc2 (v := 7566701) X dd_Mo_wordKind_111 km_1893 ?_
                      refine z_lcmp X dd_Mo_wordKind_114 ?_
                      refine z_if_ne (tgt := 121) X dd_Mo_wordKind_115 (by decide) (fun q11 => ?_) (fun q11 => ?_)
                      · rw [if_neg q11] at h
                        refine z_lload_n X dd_Mo_wordKind_121 rfl 0 rfl ?_
                        refine z_ldc2 (v := 7170414) X dd_Mo_wordKind_122 km_1894 ?_
                        refine z_lcmp X dd_Mo_wordKind_125 ?_
                        refine z_if_ne (tgt := 132) X dd_Mo_wordKind_126 (by decide) (fun q12 => ?_) (fun q12 => ?_)
                        · rw [if_neg q12] at h
                          refine z_lload_n X dd_Mo_wordKind_132 rfl 0 rfl ?_
                          refine z_ldc2 (v := 7168376) X dd_Mo_wordKind_133 km_1895 ?_
                          refine z_lcmp X dd_Mo_wordKind_136 ?_
                          refine z_if_ne (tgt := 143) X dd_Mo_wordKind_137 (by decide) (fun q13 => ?_) (fun q13 => ?_)
                          · rw [if_neg q13] at h
                            refine z_lload_n X dd_Mo_wordKind_143 rfl 0 rfl ?_
                            refine z_ldc2 (v := 1920298085) X dd_Mo_wordKind_144 km_1896 ?_
                            refine z_lcmp X dd_Mo_wordKind_147 ?_
                            refine z_if_ne (tgt := 154) X dd_Mo_wordKind_148 (by decide) (fun q14 => ?_) (fun q14 => ?_)
                            · rw [if_neg q14] at h
                              refine z_iconst (v := 1) X dd_Mo_wordKind_154 (by decide) ?_
                              obtain rfl := Option.some.inj h
                              exact z_iret X H.1 H.2.1 H.2.2.1 dd_Mo_wordKind_155
                            · rw [if_pos q14] at h
                              refine z_bipush (v := 113) X dd_Mo_wordKind_151 (by decide) ?_
                              obtain rfl := Option.some.inj h
                              exact z_iret X H.1 H.2.1 H.2.2.1 dd_Mo_wordKind_153
                          · rw [if_pos q13] at h
                            refine z_bipush (v := 112) X dd_Mo_wordKind_140 (by decide) ?_
                            obtain rfl := Option.some.inj h
                            exact z_iret X H.1 H.2.1 H.2.2.1 dd_Mo_wordKind_142
                        · rw [if_pos q12] at h
                          refine z_bipush (v := 111) X dd_Mo_wordKind_129 (by decide) ?_
                          obtain rfl := Option.some.inj h
                          exact z_iret X H.1 H.2.1 H.2.2.1 dd_Mo_wordKind_131
                      · rw [if_pos q11] at h
                        refine z_bipush (v := 110) X dd_Mo_wordKind_118 (by decide) ?_
                        obtain rfl := Option.some.inj h
                        exact z_iret X H.1 H.2.1 H.2.2.1 dd_Mo_wordKind_120
                    · rw [if_pos q10] at h
                      refine z_bipush (v := 109) X dd_Mo_wordKind_107 (by decide) ?_
                      obtain rfl := Option.some.inj h
                      exact z_iret X H.1 H.2.1 H.2.2.1 dd_Mo_wordKind_109
                  · rw [if_pos q9] at h
                    refine z_bipush (v := 108) X dd_Mo_wordKind_96 (by decide) ?_
                    obtain rfl := Option.some.inj h
                    exact z_iret X H.1 H.2.1 H.2.2.1 dd_Mo_wordKind_98
                · rw [if_pos q8] at h
                  refine z_bipush (v := 107) X dd_Mo_wordKind_85 (by decide) ?_
                  obtain rfl := Option.some.inj h
                  exact z_iret X H.1 H.2.1 H.2.2.1 dd_Mo_wordKind_87
              · rw [if_pos q7] at h
                refine z_bipush (v := 106) X dd_Mo_wordKind_74 (by decide) ?_
                obtain rfl := Option.some.inj h
                exact z_iret X H.1 H.2.1 H.2.2.1 dd_Mo_wordKind_76
            · rw [if_pos q6] at h
              refine z_bipush (v := 105) X dd_Mo_wordKind_63 (by decide) ?_
              obtain rfl := Option.some.inj h
              exact z_iret X H.1 H.2.1 H.2.2.1 dd_Mo_wordKind_65
          · rw [if_pos q5] at h
            refine z_bipush (v := 104) X dd_Mo_wordKind_52 (by decide) ?_
            obtain rfl := Option.some.inj h
            exact z_iret X H.1 H.2.1 H.2.2.1 dd_Mo_wordKind_54
        · rw [if_pos q4] at h
          refine z_bipush (v := 103) X dd_Mo_wordKind_41 (by decide) ?_
          obtain rfl := Option.some.inj h
          exact z_iret X H.1 H.2.1 H.2.2.1 dd_Mo_wordKind_43
      · rw [if_pos q3] at h
        refine z_bipush (v := 102) X dd_Mo_wordKind_30 (by decide) ?_
        obtain rfl := Option.some.inj h
        exact z_iret X H.1 H.2.1 H.2.2.1 dd_Mo_wordKind_32
    · rw [if_pos q2] at h
      refine z_bipush (v := 101) X dd_Mo_wordKind_19 (by decide) ?_
      obtain rfl := Option.some.inj h
      exact z_iret X H.1 H.2.1 H.2.2.1 dd_Mo_wordKind_21
  · rw [if_pos q1] at h
    refine z_bipush (v := 100) X dd_Mo_wordKind_8 (by decide) ?_
    obtain rfl := Option.some.inj h
    exact z_iret X H.1 H.2.1 H.2.2.1 dd_Mo_wordKind_10
theorem dd_Mo_wordToken_0 : decode bb_Mo_wordToken 0 = .ok (.aload_n 0, 1) := by decide +kernel
theorem dd_Mo_wordToken_1 : decode bb_Mo_wordToken 1 = .ok (.getfield 39, 3) := by decide +kernel
theorem dd_Mo_wordToken_4 : decode bb_Mo_wordToken 4 = .ok (.iload_n 1, 1) := by decide +kernel
theorem dd_Mo_wordToken_5 : decode bb_Mo_wordToken 5 = .ok (.baload, 1) := by decide +kernel
theorem dd_Mo_wordToken_6 : decode bb_Mo_wordToken 6 = .ok (.istore_n 3, 1) := by decide +kernel
theorem dd_Mo_wordToken_7 : decode bb_Mo_wordToken 7 = .ok (.iload_n 2, 1) := by decide +kernel
theorem dd_Mo_wordToken_8 : decode bb_Mo_wordToken 8 = .ok (.iconst 1, 1) := by decide +kernel
theorem dd_Mo_wordToken_9 : decode bb_Mo_wordToken 9 = .ok (.if_icmp .le 14, 3) := by decide +kernel
theorem dd_Mo_wordToken_12 : decode bb_Mo_wordToken 12 = .ok (.aload_n 0, 1) := by decide +kernel
theorem dd_Mo_wordToken_13 : decode bb_Mo_wordToken 13 = .ok (.getfield 39, 3) := by decide +kernel
theorem dd_Mo_wordToken_16 : decode bb_Mo_wordToken 16 = .ok (.iload_n 1, 1) := by decide +kernel
theorem dd_Mo_wordToken_17 : decode bb_Mo_wordToken 17 = .ok (.iconst 1, 1) := by decide +kernel
theorem dd_Mo_wordToken_18 : decode bb_Mo_wordToken 18 = .ok (.iadd, 1) := by decide +kernel
theorem dd_Mo_wordToken_19 : decode bb_Mo_wordToken 19 = .ok (.baload, 1) := by decide +kernel
theorem dd_Mo_wordToken_20 : decode bb_Mo_wordToken 20 = .ok (.goto 4, 3) := by decide +kernel
theorem dd_Mo_wordToken_23 : decode bb_Mo_wordToken 23 = .ok (.iconst 0, 1) := by decide +kernel
theorem dd_Mo_wordToken_24 : decode bb_Mo_wordToken 24 = .ok (.istore 4, 2) := by decide +kernel
theorem dd_Mo_wordToken_26 : decode bb_Mo_wordToken 26 = .ok (.aload_n 0, 1) := by decide +kernel
theorem dd_Mo_wordToken_27 : decode bb_Mo_wordToken 27 = .ok (.getfield 43, 3) := by decide +kernel
theorem dd_Mo_wordToken_30 : decode bb_Mo_wordToken 30 = .ok (.aload_n 0, 1) := by decide +kernel
theorem dd_Mo_wordToken_31 : decode bb_Mo_wordToken 31 = .ok (.getfield 242, 3) := by decide +kernel
theorem dd_Mo_wordToken_34 : decode bb_Mo_wordToken 34 = .ok (.iconst 1, 1) := by decide +kernel
theorem dd_Mo_wordToken_35 : decode bb_Mo_wordToken 35 = .ok (.iastore, 1) := by decide +kernel
theorem dd_Mo_wordToken_36 : decode bb_Mo_wordToken 36 = .ok (.aload_n 0, 1) := by decide +kernel
theorem dd_Mo_wordToken_37 : decode bb_Mo_wordToken 37 = .ok (.getfield 46, 3) := by decide +kernel
theorem dd_Mo_wordToken_40 : decode bb_Mo_wordToken 40 = .ok (.aload_n 0, 1) := by decide +kernel
theorem dd_Mo_wordToken_41 : decode bb_Mo_wordToken 41 = .ok (.getfield 242, 3) := by decide +kernel
theorem dd_Mo_wordToken_44 : decode bb_Mo_wordToken 44 = .ok (.iconst 0, 1) := by decide +kernel
theorem dd_Mo_wordToken_45 : decode bb_Mo_wordToken 45 = .ok (.iastore, 1) := by decide +kernel
theorem dd_Mo_wordToken_46 : decode bb_Mo_wordToken 46 = .ok (.iload_n 3, 1) := by decide +kernel
theorem dd_Mo_wordToken_47 : decode bb_Mo_wordToken 47 = .ok (.invokestatic 239, 3) := by decide +kernel
theorem dd_Mo_wordToken_50 : decode bb_Mo_wordToken 50 = .ok (.ifCond .eq 104, 3) := by decide +kernel
theorem dd_Mo_wordToken_53 : decode bb_Mo_wordToken 53 = .ok (.iload_n 2, 1) := by decide +kernel
theorem dd_Mo_wordToken_54 : decode bb_Mo_wordToken 54 = .ok (.iconst 4, 1) := by decide +kernel
theorem dd_Mo_wordToken_55 : decode bb_Mo_wordToken 55 = .ok (.if_icmp .gt 7, 3) := by decide +kernel
theorem dd_Mo_wordToken_58 : decode bb_Mo_wordToken 58 = .ok (.iconst 1, 1) := by decide +kernel
theorem dd_Mo_wordToken_59 : decode bb_Mo_wordToken 59 = .ok (.goto 4, 3) := by decide +kernel
theorem dd_Mo_wordToken_62 : decode bb_Mo_wordToken 62 = .ok (.iconst 0, 1) := by decide +kernel
theorem dd_Mo_wordToken_63 : decode bb_Mo_wordToken 63 = .ok (.istore 5, 2) := by decide +kernel
theorem dd_Mo_wordToken_65 : decode bb_Mo_wordToken 65 = .ok (.iconst 0, 1) := by decide +kernel
theorem dd_Mo_wordToken_66 : decode bb_Mo_wordToken 66 = .ok (.istore 6, 2) := by decide +kernel
theorem dd_Mo_wordToken_68 : decode bb_Mo_wordToken 68 = .ok (.iconst 0, 1) := by decide +kernel
theorem dd_Mo_wordToken_69 : decode bb_Mo_wordToken 69 = .ok (.istore 7, 2) := by decide +kernel
theorem dd_Mo_wordToken_71 : decode bb_Mo_wordToken 71 = .ok (.iload 7, 2) := by decide +kernel
theorem dd_Mo_wordToken_73 : decode bb_Mo_wordToken 73 = .ok (.iload_n 2, 1) := by decide +kernel
theorem dd_Mo_wordToken_74 : decode bb_Mo_wordToken 74 = .ok (.if_icmp .ge 48, 3) := by decide +kernel
theorem dd_Mo_wordToken_77 : decode bb_Mo_wordToken 77 = .ok (.iload 5, 2) := by decide +kernel
theorem dd_Mo_wordToken_79 : decode bb_Mo_wordToken 79 = .ok (.ifCond .eq 43, 3) := by decide +kernel
theorem dd_Mo_wordToken_82 : decode bb_Mo_wordToken 82 = .ok (.aload_n 0, 1) := by decide +kernel
theorem dd_Mo_wordToken_83 : decode bb_Mo_wordToken 83 = .ok (.getfield 39, 3) := by decide +kernel
theorem dd_Mo_wordToken_86 : decode bb_Mo_wordToken 86 = .ok (.iload_n 1, 1) := by decide +kernel
theorem dd_Mo_wordToken_87 : decode bb_Mo_wordToken 87 = .ok (.iload 7, 2) := by decide +kernel
theorem dd_Mo_wordToken_89 : decode bb_Mo_wordToken 89 = .ok (.iadd, 1) := by decide +kernel
theorem dd_Mo_wordToken_90 : decode bb_Mo_wordToken 90 = .ok (.baload, 1) := by decide +kernel
theorem dd_Mo_wordToken_91 : decode bb_Mo_wordToken 91 = .ok (.invokestatic 239, 3) := by decide +kernel
theorem dd_Mo_wordToken_94 : decode bb_Mo_wordToken 94 = .ok (.istore 5, 2) := by decide +kernel
theorem dd_Mo_wordToken_96 : decode bb_Mo_wordToken 96 = .ok (.bipush 10, 2) := by decide +kernel
theorem dd_Mo_wordToken_98 : decode bb_Mo_wordToken 98 = .ok (.iload 6, 2) := by decide +kernel
theorem dd_Mo_wordToken_100 : decode bb_Mo_wordToken 100 = .ok (.imul, 1) := by decide +kernel
theorem dd_Mo_wordToken_101 : decode bb_Mo_wordToken 101 = .ok (.aload_n 0, 1) := by decide +kernel
theorem dd_Mo_wordToken_102 : decode bb_Mo_wordToken 102 = .ok (.getfield 39, 3) := by decide +kernel
theorem dd_Mo_wordToken_105 : decode bb_Mo_wordToken 105 = .ok (.iload_n 1, 1) := by decide +kernel
theorem dd_Mo_wordToken_106 : decode bb_Mo_wordToken 106 = .ok (.iload 7, 2) := by decide +kernel
theorem dd_Mo_wordToken_108 : decode bb_Mo_wordToken 108 = .ok (.iadd, 1) := by decide +kernel
theorem dd_Mo_wordToken_109 : decode bb_Mo_wordToken 109 = .ok (.baload, 1) := by decide +kernel
theorem dd_Mo_wordToken_110 : decode bb_Mo_wordToken 110 = .ok (.iadd, 1) := by decide +kernel
theorem dd_Mo_wordToken_111 : decode bb_Mo_wordToken 111 = .ok (.bipush 48, 2) := by decide +kernel
theorem dd_Mo_wordToken_113 : decode bb_Mo_wordToken 113 = .ok (.isub, 1) := by decide +kernel
theorem dd_Mo_wordToken_114 : decode bb_Mo_wordToken 114 = .ok (.istore 6, 2) := by decide +kernel
theorem dd_Mo_wordToken_116 : decode bb_Mo_wordToken 116 = .ok (.iinc 7 1, 3) := by decide +kernel
theorem dd_Mo_wordToken_119 : decode bb_Mo_wordToken 119 = .ok (.goto (-48), 3) := by decide +kernel
theorem dd_Mo_wordToken_122 : decode bb_Mo_wordToken 122 = .ok (.aload_n 0, 1) := by decide +kernel
theorem dd_Mo_wordToken_123 : decode bb_Mo_wordToken 123 = .ok (.getfield 43, 3) := by decide +kernel
theorem dd_Mo_wordToken_126 : decode bb_Mo_wordToken 126 = .ok (.aload_n 0, 1) := by decide +kernel
theorem dd_Mo_wordToken_127 : decode bb_Mo_wordToken 127 = .ok (.getfield 242, 3) := by decide +kernel
theorem dd_Mo_wordToken_130 : decode bb_Mo_wordToken 130 = .ok (.iload 5, 2) := by decide +kernel
theorem dd_Mo_wordToken_132 : decode bb_Mo_wordToken 132 = .ok (.ifCond .eq 8, 3) := by decide +kernel
theorem dd_Mo_wordToken_135 : decode bb_Mo_wordToken 135 = .ok (.bipush 6, 2) := by decide +kernel
theorem dd_Mo_wordToken_137 : decode bb_Mo_wordToken 137 = .ok (.goto 4, 3) := by decide +kernel
theorem dd_Mo_wordToken_140 : decode bb_Mo_wordToken 140 = .ok (.iconst 1, 1) := by decide +kernel
theorem dd_Mo_wordToken_141 : decode bb_Mo_wordToken 141 = .ok (.iastore, 1) := by decide +kernel
theorem dd_Mo_wordToken_142 : decode bb_Mo_wordToken 142 = .ok (.aload_n 0, 1) := by decide +kernel
theorem dd_Mo_wordToken_143 : decode bb_Mo_wordToken 143 = .ok (.getfield 46, 3) := by decide +kernel
theorem dd_Mo_wordToken_146 : decode bb_Mo_wordToken 146 = .ok (.aload_n 0, 1) := by decide +kernel
theorem dd_Mo_wordToken_147 : decode bb_Mo_wordToken 147 = .ok (.getfield 242, 3) := by decide +kernel
theorem dd_Mo_wordToken_150 : decode bb_Mo_wordToken 150 = .ok (.iload 6, 2) := by decide +kernel
theorem dd_Mo_wordToken_152 : decode bb_Mo_wordToken 152 = .ok (.iastore, 1) := by decide +kernel
theorem dd_Mo_wordToken_153 : decode bb_Mo_wordToken 153 = .ok (.return_, 1) := by decide +kernel
theorem dd_Mo_wordToken_154 : decode bb_Mo_wordToken 154 = .ok (.iload_n 2, 1) := by decide +kernel
theorem dd_Mo_wordToken_155 : decode bb_Mo_wordToken 155 = .ok (.iconst 1, 1) := by decide +kernel
theorem dd_Mo_wordToken_156 : decode bb_Mo_wordToken 156 = .ok (.if_icmp .ne 10, 3) := by decide +kernel
theorem dd_Mo_wordToken_159 : decode bb_Mo_wordToken 159 = .ok (.iload_n 3, 1) := by decide +kernel
theorem dd_Mo_wordToken_160 : decode bb_Mo_wordToken 160 = .ok (.invokestatic 245, 3) := by decide +kernel
theorem dd_Mo_wordToken_163 : decode bb_Mo_wordToken 163 = .ok (.ifCond .ne 23, 3) := by decide +kernel
theorem dd_Mo_wordToken_166 : decode bb_Mo_wordToken 166 = .ok (.iload_n 2, 1) := by decide +kernel
theorem dd_Mo_wordToken_167 : decode bb_Mo_wordToken 167 = .ok (.iconst 2, 1) := by decide +kernel
theorem dd_Mo_wordToken_168 : decode bb_Mo_wordToken 168 = .ok (.if_icmp .ne 63, 3) := by decide +kernel
theorem dd_Mo_wordToken_171 : decode bb_Mo_wordToken 171 = .ok (.iload_n 3, 1) := by decide +kernel
theorem dd_Mo_wordToken_172 : decode bb_Mo_wordToken 172 = .ok (.invokestatic 245, 3) := by decide +kernel
theorem dd_Mo_wordToken_175 : decode bb_Mo_wordToken 175 = .ok (.ifCond .eq 56, 3) := by decide +kernel
theorem dd_Mo_wordToken_178 : decode bb_Mo_wordToken 178 = .ok (.iload 4, 2) := by decide +kernel
theorem dd_Mo_wordToken_180 : decode bb_Mo_wordToken 180 = .ok (.invokestatic 239, 3) := by decide +kernel
theorem dd_Mo_wordToken_183 : decode bb_Mo_wordToken 183 = .ok (.ifCond .eq 48, 3) := by decide +kernel
theorem dd_Mo_wordToken_186 : decode bb_Mo_wordToken 186 = .ok (.aload_n 0, 1) := by decide +kernel
theorem dd_Mo_wordToken_187 : decode bb_Mo_wordToken 187 = .ok (.getfield 43, 3) := by decide +kernel
theorem dd_Mo_wordToken_190 : decode bb_Mo_wordToken 190 = .ok (.aload_n 0, 1) := by decide +kernel
theorem dd_Mo_wordToken_191 : decode bb_Mo_wordToken 191 = .ok (.getfield 242, 3) := by decide +kernel
theorem dd_Mo_wordToken_194 : decode bb_Mo_wordToken 194 = .ok (.iconst 2, 1) := by decide +kernel
theorem dd_Mo_wordToken_195 : decode bb_Mo_wordToken 195 = .ok (.iastore, 1) := by decide +kernel
theorem dd_Mo_wordToken_196 : decode bb_Mo_wordToken 196 = .ok (.aload_n 0, 1) := by decide +kernel
theorem dd_Mo_wordToken_197 : decode bb_Mo_wordToken 197 = .ok (.getfield 46, 3) := by decide +kernel
theorem dd_Mo_wordToken_200 : decode bb_Mo_wordToken 200 = .ok (.aload_n 0, 1) := by decide +kernel
theorem dd_Mo_wordToken_201 : decode bb_Mo_wordToken 201 = .ok (.getfield 242, 3) := by decide +kernel
theorem dd_Mo_wordToken_204 : decode bb_Mo_wordToken 204 = .ok (.bipush 11, 2) := by decide +kernel
theorem dd_Mo_wordToken_206 : decode bb_Mo_wordToken 206 = .ok (.iload_n 3, 1) := by decide +kernel
theorem dd_Mo_wordToken_207 : decode bb_Mo_wordToken 207 = .ok (.bipush 117, 2) := by decide +kernel
theorem dd_Mo_wordToken_209 : decode bb_Mo_wordToken 209 = .ok (.isub, 1) := by decide +kernel
theorem dd_Mo_wordToken_210 : decode bb_Mo_wordToken 210 = .ok (.imul, 1) := by decide +kernel
theorem dd_Mo_wordToken_211 : decode bb_Mo_wordToken 211 = .ok (.iload_n 2, 1) := by decide +kernel
theorem dd_Mo_wordToken_212 : decode bb_Mo_wordToken 212 = .ok (.iconst 1, 1) := by decide +kernel
theorem dd_Mo_wordToken_213 : decode bb_Mo_wordToken 213 = .ok (.if_icmp .ne 8, 3) := by decide +kernel
theorem dd_Mo_wordToken_216 : decode bb_Mo_wordToken 216 = .ok (.bipush 10, 2) := by decide +kernel
theorem dd_Mo_wordToken_218 : decode bb_Mo_wordToken 218 = .ok (.goto 8, 3) := by decide +kernel
theorem dd_Mo_wordToken_221 : decode bb_Mo_wordToken 221 = .ok (.iload 4, 2) := by decide +kernel
theorem dd_Mo_wordToken_223 : decode bb_Mo_wordToken 223 = .ok (.bipush 48, 2) := by decide +kernel
theorem dd_Mo_wordToken_225 : decode bb_Mo_wordToken 225 = .ok (.isub, 1) := by decide +kernel
theorem dd_Mo_wordToken_226 : decode bb_Mo_wordToken 226 = .ok (.iadd, 1) := by decide +kernel
theorem dd_Mo_wordToken_227 : decode bb_Mo_wordToken 227 = .ok (.iastore, 1) := by decide +kernel
theorem dd_Mo_wordToken_228 : decode bb_Mo_wordToken 228 = .ok (.goto 251, 3) := by decide +kernel
theorem dd_Mo_wordToken_231 : decode bb_Mo_wordToken 231 = .ok (.iload_n 2, 1) := by decide +kernel
theorem dd_Mo_wordToken_232 : decode bb_Mo_wordToken 232 = .ok (.iconst 1, 1) := by decide +kernel
theorem dd_Mo_wordToken_233 : decode bb_Mo_wordToken 233 = .ok (.if_icmp .ne 41, 3) := by decide +kernel
theorem dd_Mo_wordToken_236 : decode bb_Mo_wordToken 236 = .ok (.iload_n 3, 1) := by decide +kernel
theorem dd_Mo_wordToken_237 : decode bb_Mo_wordToken 237 = .ok (.bipush 97, 2) := by decide +kernel
theorem dd_Mo_wordToken_239 : decode bb_Mo_wordToken 239 = .ok (.if_icmp .lt 35, 3) := by decide +kernel
theorem dd_Mo_wordToken_242 : decode bb_Mo_wordToken 242 = .ok (.iload_n 3, 1) := by decide +kernel
theorem dd_Mo_wordToken_243 : decode bb_Mo_wordToken 243 = .ok (.bipush 104, 2) := by decide +kernel
theorem dd_Mo_wordToken_245 : decode bb_Mo_wordToken 245 = .ok (.if_icmp .gt 29, 3) := by decide +kernel
theorem dd_Mo_wordToken_248 : decode bb_Mo_wordToken 248 = .ok (.aload_n 0, 1) := by decide +kernel
theorem dd_Mo_wordToken_249 : decode bb_Mo_wordToken 249 = .ok (.getfield 43, 3) := by decide +kernel
theorem dd_Mo_wordToken_252 : decode bb_Mo_wordToken 252 = .ok (.aload_n 0, 1) := by decide +kernel
theorem dd_Mo_wordToken_253 : decode bb_Mo_wordToken 253 = .ok (.getfield 242, 3) := by decide +kernel
theorem dd_Mo_wordToken_256 : decode bb_Mo_wordToken 256 = .ok (.iconst 5, 1) := by decide +kernel
theorem dd_Mo_wordToken_257 : decode bb_Mo_wordToken 257 = .ok (.iastore, 1) := by decide +kernel
theorem dd_Mo_wordToken_258 : decode bb_Mo_wordToken 258 = .ok (.aload_n 0, 1) := by decide +kernel
theorem dd_Mo_wordToken_259 : decode bb_Mo_wordToken 259 = .ok (.getfield 46, 3) := by decide +kernel
theorem dd_Mo_wordToken_262 : decode bb_Mo_wordToken 262 = .ok (.aload_n 0, 1) := by decide +kernel
theorem dd_Mo_wordToken_263 : decode bb_Mo_wordToken 263 = .ok (.getfield 242, 3) := by decide +kernel
theorem dd_Mo_wordToken_266 : decode bb_Mo_wordToken 266 = .ok (.iload_n 3, 1) := by decide +kernel
theorem dd_Mo_wordToken_267 : decode bb_Mo_wordToken 267 = .ok (.bipush 97, 2) := by decide +kernel
theorem dd_Mo_wordToken_269 : decode bb_Mo_wordToken 269 = .ok (.isub, 1) := by decide +kernel
theorem dd_Mo_wordToken_270 : decode bb_Mo_wordToken 270 = .ok (.iastore, 1) := by decide +kernel
theorem dd_Mo_wordToken_271 : decode bb_Mo_wordToken 271 = .ok (.goto 208, 3) := by decide +kernel
theorem dd_Mo_wordToken_274 : decode bb_Mo_wordToken 274 = .ok (.iload_n 2, 1) := by decide +kernel
theorem dd_Mo_wordToken_275 : decode bb_Mo_wordToken 275 = .ok (.iconst 1, 1) := by decide +kernel
theorem dd_Mo_wordToken_276 : decode bb_Mo_wordToken 276 = .ok (.if_icmp .ne 44, 3) := by decide +kernel
theorem dd_Mo_wordToken_279 : decode bb_Mo_wordToken 279 = .ok (.iload_n 3, 1) := by decide +kernel
theorem dd_Mo_wordToken_280 : decode bb_Mo_wordToken 280 = .ok (.bipush 65, 2) := by decide +kernel
theorem dd_Mo_wordToken_282 : decode bb_Mo_wordToken 282 = .ok (.if_icmp .lt 38, 3) := by decide +kernel
theorem dd_Mo_wordToken_285 : decode bb_Mo_wordToken 285 = .ok (.iload_n 3, 1) := by decide +kernel
theorem dd_Mo_wordToken_286 : decode bb_Mo_wordToken 286 = .ok (.bipush 68, 2) := by decide +kernel
theorem dd_Mo_wordToken_288 : decode bb_Mo_wordToken 288 = .ok (.if_icmp .gt 32, 3) := by decide +kernel
theorem dd_Mo_wordToken_291 : decode bb_Mo_wordToken 291 = .ok (.aload_n 0, 1) := by decide +kernel
theorem dd_Mo_wordToken_292 : decode bb_Mo_wordToken 292 = .ok (.getfield 43, 3) := by decide +kernel
theorem dd_Mo_wordToken_295 : decode bb_Mo_wordToken 295 = .ok (.aload_n 0, 1) := by decide +kernel
theorem dd_Mo_wordToken_296 : decode bb_Mo_wordToken 296 = .ok (.getfield 242, 3) := by decide +kernel
theorem dd_Mo_wordToken_299 : decode bb_Mo_wordToken 299 = .ok (.iconst 5, 1) := by decide +kernel
theorem dd_Mo_wordToken_300 : decode bb_Mo_wordToken 300 = .ok (.iastore, 1) := by decide +kernel
theorem dd_Mo_wordToken_301 : decode bb_Mo_wordToken 301 = .ok (.aload_n 0, 1) := by decide +kernel
theorem dd_Mo_wordToken_302 : decode bb_Mo_wordToken 302 = .ok (.getfield 46, 3) := by decide +kernel
theorem dd_Mo_wordToken_305 : decode bb_Mo_wordToken 305 = .ok (.aload_n 0, 1) := by decide +kernel
theorem dd_Mo_wordToken_306 : decode bb_Mo_wordToken 306 = .ok (.getfield 242, 3) := by decide +kernel
theorem dd_Mo_wordToken_309 : decode bb_Mo_wordToken 309 = .ok (.bipush 8, 2) := by decide +kernel
theorem dd_Mo_wordToken_311 : decode bb_Mo_wordToken 311 = .ok (.iload_n 3, 1) := by decide +kernel
theorem dd_Mo_wordToken_312 : decode bb_Mo_wordToken 312 = .ok (.iadd, 1) := by decide +kernel
theorem dd_Mo_wordToken_313 : decode bb_Mo_wordToken 313 = .ok (.bipush 65, 2) := by decide +kernel
theorem dd_Mo_wordToken_315 : decode bb_Mo_wordToken 315 = .ok (.isub, 1) := by decide +kernel
theorem dd_Mo_wordToken_316 : decode bb_Mo_wordToken 316 = .ok (.iastore, 1) := by decide +kernel
theorem dd_Mo_wordToken_317 : decode bb_Mo_wordToken 317 = .ok (.goto 162, 3) := by decide +kernel
theorem dd_Mo_wordToken_320 : decode bb_Mo_wordToken 320 = .ok (.iload_n 2, 1) := by decide +kernel
theorem dd_Mo_wordToken_321 : decode bb_Mo_wordToken 321 = .ok (.iconst 2, 1) := by decide +kernel
theorem dd_Mo_wordToken_322 : decode bb_Mo_wordToken 322 = .ok (.if_icmp .ne 50, 3) := by decide +kernel
theorem dd_Mo_wordToken_325 : decode bb_Mo_wordToken 325 = .ok (.iload_n 3, 1) := by decide +kernel
theorem dd_Mo_wordToken_326 : decode bb_Mo_wordToken 326 = .ok (.bipush 109, 2) := by decide +kernel
theorem dd_Mo_wordToken_328 : decode bb_Mo_wordToken 328 = .ok (.if_icmp .ne 44, 3) := by decide +kernel
theorem dd_Mo_wordToken_331 : decode bb_Mo_wordToken 331 = .ok (.iload 4, 2) := by decide +kernel
theorem dd_Mo_wordToken_333 : decode bb_Mo_wordToken 333 = .ok (.bipush 48, 2) := by decide +kernel
theorem dd_Mo_wordToken_335 : decode bb_Mo_wordToken 335 = .ok (.if_icmp .lt 37, 3) := by decide +kernel
theorem dd_Mo_wordToken_338 : decode bb_Mo_wordToken 338 = .ok (.iload 4, 2) := by decide +kernel
theorem dd_Mo_wordToken_340 : decode bb_Mo_wordToken 340 = .ok (.bipush 55, 2) := by decide +kernel
theorem dd_Mo_wordToken_342 : decode bb_Mo_wordToken 342 = .ok (.if_icmp .gt 30, 3) := by decide +kernel
theorem dd_Mo_wordToken_345 : decode bb_Mo_wordToken 345 = .ok (.aload_n 0, 1) := by decide +kernel
theorem dd_Mo_wordToken_346 : decode bb_Mo_wordToken 346 = .ok (.getfield 43, 3) := by decide +kernel
theorem dd_Mo_wordToken_349 : decode bb_Mo_wordToken 349 = .ok (.aload_n 0, 1) := by decide +kernel
theorem dd_Mo_wordToken_350 : decode bb_Mo_wordToken 350 = .ok (.getfield 242, 3) := by decide +kernel
theorem dd_Mo_wordToken_353 : decode bb_Mo_wordToken 353 = .ok (.iconst 3, 1) := by decide +kernel
theorem dd_Mo_wordToken_354 : decode bb_Mo_wordToken 354 = .ok (.iastore, 1) := by decide +kernel
theorem dd_Mo_wordToken_355 : decode bb_Mo_wordToken 355 = .ok (.aload_n 0, 1) := by decide +kernel
theorem dd_Mo_wordToken_356 : decode bb_Mo_wordToken 356 = .ok (.getfield 46, 3) := by decide +kernel
theorem dd_Mo_wordToken_359 : decode bb_Mo_wordToken 359 = .ok (.aload_n 0, 1) := by decide +kernel
theorem dd_Mo_wordToken_360 : decode bb_Mo_wordToken 360 = .ok (.getfield 242, 3) := by decide +kernel
theorem dd_Mo_wordToken_363 : decode bb_Mo_wordToken 363 = .ok (.iload 4, 2) := by decide +kernel
theorem dd_Mo_wordToken_365 : decode bb_Mo_wordToken 365 = .ok (.bipush 48, 2) := by decide +kernel
theorem dd_Mo_wordToken_367 : decode bb_Mo_wordToken 367 = .ok (.isub, 1) := by decide +kernel
theorem dd_Mo_wordToken_368 : decode bb_Mo_wordToken 368 = .ok (.iastore, 1) := by decide +kernel
theorem dd_Mo_wordToken_369 : decode bb_Mo_wordToken 369 = .ok (.goto 110, 3) := by decide +kernel
theorem dd_Mo_wordToken_372 : decode bb_Mo_wordToken 372 = .ok (.iload_n 2, 1) := by decide +kernel
theorem dd_Mo_wordToken_373 : decode bb_Mo_wordToken 373 = .ok (.iconst 2, 1) := by decide +kernel
theorem dd_Mo_wordToken_374 : decode bb_Mo_wordToken 374 = .ok (.if_icmp .ne 50, 3) := by decide +kernel
theorem dd_Mo_wordToken_377 : decode bb_Mo_wordToken 377 = .ok (.iload_n 3, 1) := by decide +kernel
theorem dd_Mo_wordToken_378 : decode bb_Mo_wordToken 378 = .ok (.bipush 99, 2) := by decide +kernel
theorem dd_Mo_wordToken_380 : decode bb_Mo_wordToken 380 = .ok (.if_icmp .ne 44, 3) := by decide +kernel
theorem dd_Mo_wordToken_383 : decode bb_Mo_wordToken 383 = .ok (.iload 4, 2) := by decide +kernel
theorem dd_Mo_wordToken_385 : decode bb_Mo_wordToken 385 = .ok (.bipush 48, 2) := by decide +kernel
theorem dd_Mo_wordToken_387 : decode bb_Mo_wordToken 387 = .ok (.if_icmp .lt 37, 3) := by decide +kernel
theorem dd_Mo_wordToken_390 : decode bb_Mo_wordToken 390 = .ok (.iload 4, 2) := by decide +kernel
theorem dd_Mo_wordToken_392 : decode bb_Mo_wordToken 392 = .ok (.bipush 51, 2) := by decide +kernel
theorem dd_Mo_wordToken_394 : decode bb_Mo_wordToken 394 = .ok (.if_icmp .gt 30, 3) := by decide +kernel
theorem dd_Mo_wordToken_397 : decode bb_Mo_wordToken 397 = .ok (.aload_n 0, 1) := by decide +kernel
theorem dd_Mo_wordToken_398 : decode bb_Mo_wordToken 398 = .ok (.getfield 43, 3) := by decide +kernel
theorem dd_Mo_wordToken_401 : decode bb_Mo_wordToken 401 = .ok (.aload_n 0, 1) := by decide +kernel
theorem dd_Mo_wordToken_402 : decode bb_Mo_wordToken 402 = .ok (.getfield 242, 3) := by decide +kernel
theorem dd_Mo_wordToken_405 : decode bb_Mo_wordToken 405 = .ok (.iconst 4, 1) := by decide +kernel
theorem dd_Mo_wordToken_406 : decode bb_Mo_wordToken 406 = .ok (.iastore, 1) := by decide +kernel
theorem dd_Mo_wordToken_407 : decode bb_Mo_wordToken 407 = .ok (.aload_n 0, 1) := by decide +kernel
theorem dd_Mo_wordToken_408 : decode bb_Mo_wordToken 408 = .ok (.getfield 46, 3) := by decide +kernel
theorem dd_Mo_wordToken_411 : decode bb_Mo_wordToken 411 = .ok (.aload_n 0, 1) := by decide +kernel
theorem dd_Mo_wordToken_412 : decode bb_Mo_wordToken 412 = .ok (.getfield 242, 3) := by decide +kernel
theorem dd_Mo_wordToken_415 : decode bb_Mo_wordToken 415 = .ok (.iload 4, 2) := by decide +kernel
theorem dd_Mo_wordToken_417 : decode bb_Mo_wordToken 417 = .ok (.bipush 48, 2) := by decide +kernel
theorem dd_Mo_wordToken_419 : decode bb_Mo_wordToken 419 = .ok (.isub, 1) := by decide +kernel
theorem dd_Mo_wordToken_420 : decode bb_Mo_wordToken 420 = .ok (.iastore, 1) := by decide +kernel
theorem dd_Mo_wordToken_421 : decode bb_Mo_wordToken 421 = .ok (.goto 58, 3) := by decide +kernel
theorem dd_Mo_wordToken_424 : decode bb_Mo_wordToken 424 = .ok (.iload_n 2, 1) := by decide +kernel
theorem dd_Mo_wordToken_425 : decode bb_Mo_wordToken 425 = .ok (.iconst 5, 1) := by decide +kernel
theorem dd_Mo_wordToken_426 : decode bb_Mo_wordToken 426 = .ok (.if_icmp .gt 53, 3) := by decide +kernel
theorem dd_Mo_wordToken_429 : decode bb_Mo_wordToken 429 = .ok (.lconst 0, 1) := by decide +kernel
theorem dd_Mo_wordToken_430 : decode bb_Mo_wordToken 430 = .ok (.lstore 5, 2) := by decide +kernel
theorem dd_Mo_wordToken_432 : decode bb_Mo_wordToken 432 = .ok (.iconst 0, 1) := by decide +kernel
theorem dd_Mo_wordToken_433 : decode bb_Mo_wordToken 433 = .ok (.istore 7, 2) := by decide +kernel
theorem dd_Mo_wordToken_435 : decode bb_Mo_wordToken 435 = .ok (.iload 7, 2) := by decide +kernel
theorem dd_Mo_wordToken_437 : decode bb_Mo_wordToken 437 = .ok (.iload_n 2, 1) := by decide +kernel
theorem dd_Mo_wordToken_438 : decode bb_Mo_wordToken 438 = .ok (.if_icmp .ge 27, 3) := by decide +kernel
theorem dd_Mo_wordToken_441 : decode bb_Mo_wordToken 441 = .ok (.lload 5, 2) := by decide +kernel
theorem dd_Mo_wordToken_443 : decode bb_Mo_wordToken 443 = .ok (.bipush 8, 2) := by decide +kernel
theorem dd_Mo_wordToken_445 : decode bb_Mo_wordToken 445 = .ok (.lshl, 1) := by decide +kernel
theorem dd_Mo_wordToken_446 : decode bb_Mo_wordToken 446 = .ok (.aload_n 0, 1) := by decide +kernel
theorem dd_Mo_wordToken_447 : decode bb_Mo_wordToken 447 = .ok (.getfield 39, 3) := by decide +kernel
theorem dd_Mo_wordToken_450 : decode bb_Mo_wordToken 450 = .ok (.iload_n 1, 1) := by decide +kernel
theorem dd_Mo_wordToken_451 : decode bb_Mo_wordToken 451 = .ok (.iload 7, 2) := by decide +kernel
theorem dd_Mo_wordToken_453 : decode bb_Mo_wordToken 453 = .ok (.iadd, 1) := by decide +kernel
theorem dd_Mo_wordToken_454 : decode bb_Mo_wordToken 454 = .ok (.baload, 1) := by decide +kernel
theorem dd_Mo_wordToken_455 : decode bb_Mo_wordToken 455 = .ok (.i2l, 1) := by decide +kernel
theorem dd_Mo_wordToken_456 : decode bb_Mo_wordToken 456 = .ok (.lor, 1) := by decide +kernel
theorem dd_Mo_wordToken_457 : decode bb_Mo_wordToken 457 = .ok (.lstore 5, 2) := by decide +kernel
theorem dd_Mo_wordToken_459 : decode bb_Mo_wordToken 459 = .ok (.iinc 7 1, 3) := by decide +kernel
theorem dd_Mo_wordToken_462 : decode bb_Mo_wordToken 462 = .ok (.goto (-27), 3) := by decide +kernel
theorem dd_Mo_wordToken_465 : decode bb_Mo_wordToken 465 = .ok (.aload_n 0, 1) := by decide +kernel
theorem dd_Mo_wordToken_466 : decode bb_Mo_wordToken 466 = .ok (.getfield 43, 3) := by decide +kernel
theorem dd_Mo_wordToken_469 : decode bb_Mo_wordToken 469 = .ok (.aload_n 0, 1) := by decide +kernel
theorem dd_Mo_wordToken_470 : decode bb_Mo_wordToken 470 = .ok (.getfield 242, 3) := by decide +kernel
theorem dd_Mo_wordToken_473 : decode bb_Mo_wordToken 473 = .ok (.lload 5, 2) := by decide +kernel
theorem dd_Mo_wordToken_475 : decode bb_Mo_wordToken 475 = .ok (.invokestatic 248, 3) := by decide +kernel
theorem dd_Mo_wordToken_478 : decode bb_Mo_wordToken 478 = .ok (.iastore, 1) := by decide +kernel
theorem dd_Mo_wordToken_479 : decode bb_Mo_wordToken 479 = .ok (.return_, 1) := by decide +kernel
set_option maxRecDepth 100000 in
set_option maxHeartbeats 4000000 in
theorem t_Mo_wordToken_479  (X : zX p s m args cd D cid B bb_Mo_wordToken 8 rr_Mo zT) (H : zH s meth B n0 none "wordToken") {nf : Nat}  {c : Zc} {res : Zc} (h : f_Mo_wordToken_479 nf  c = some res) : Zz p l e (zRm 1 21 0 0) s m args below meth cd (MQ below (zQv D cid B res n0 0) args s 0 0 (fun q => B ≤ q)) D cid B 8 0 0 c 479 [] [] := by
  unfold f_Mo_wordToken_479 at h
  obtain rfl := Option.some.inj h
  exact z_vret X H.1 H.2.1 H.2.2.1 dd_Mo_wordToken_479
set_option maxRecDepth 100000 in
set_option maxHeartbeats 4000000 in
theorem u_Mo_wordToken_435  (X : zX p s m args cd D cid B bb_Mo_wordToken 8 rr_Mo zT) (H : zH s meth B n0 none "wordToken") {nf : Nat} {x0 : Nat} {x1 : Int32} {x2 : Int32} {x5 : Int64} {x7 : Int32} {c : Zc} {r : (Nat × Int32 × Int32 × Int64 × Int32 × Zc) ⊕ (Nat × Int64 × Zc)} (h : g_Mo_wordToken_435 nf x0 x1 x2 x5 x7 c = some r) (k0 : ∀ a, r = .inl a → (fun a : Nat × Int32 × Int32 × Int64 × Int32 × Zc => Zz p l e (zRm 1 21 0 0) s m args below meth cd Q D cid B 8 0 0 a.2.2.2.2.2 435 [(0, .ref a.1), (1, .int a.2.1), (2, .int a.2.2.1), (5, .long a.2.2.2.1), (7, .int a.2.2.2.2.1)] []) a) (k1 : ∀ b, r = .inr b → (fun b : Nat × Int64 × Zc => Zz p l e (zRm 1 21 0 0) s m args below meth cd Q D cid B 8 0 0 b.2.2 465 [(0, .ref b.1), (5, .long b.2.1)] []) b) : Zz p l e (zRm 1 21 0 0) s m args below meth cd Q D cid B 8 0 0 c 435 [(0, .ref x0), (1, .int x1), (2, .int x2), (5, .long x5), (7, .int x7)] [] := by
  unfold g_Mo_wordToken_435 at h
  refine z_iload X dd_Mo_wordToken_435 4 rfl ?_
  refine z_iload_n X dd_Mo_wordToken_437 rfl 2 rfl ?_
  refine z_icmp_ge (tgt := 465) X dd_Mo_wordToken_438 (by decide) (fun q19 => ?_) (fun q19 => ?_)
  · rw [if_pos q19] at h
    refine z_sub [0, 3] rfl ?_
    obtain rfl := Option.some.inj h
    exact k1 _ rfl
  · rw [if_neg q19] at h
    refine z_lload X dd_Mo_wordToken_441 3 rfl ?_
    refine z_bipush (v := 8) X dd_Mo_wordToken_443 (by decide) ?_
    refine z_lshl X dd_Mo_wordToken_445 ?_
    refine z_aload_n X dd_Mo_wordToken_446 rfl 0 rfl ?_
    obtain ⟨v20, ev20, h⟩ := zb h
    refine z_get (j := 12) X dd_Mo_wordToken_447 kc_12 ki_12 (by decide) km_1533 (zgr_v ev20) ?_
    refine z_iload_n X dd_Mo_wordToken_450 rfl 1 rfl ?_
    refine z_iload X dd_Mo_wordToken_451 4 rfl ?_
    refine z_iadd X dd_Mo_wordToken_453 ?_
    obtain ⟨v21, ev21, h⟩ := zb h
    refine z_baload X dd_Mo_wordToken_454 rfl ev21 ?_
    refine z_i2l X dd_Mo_wordToken_455 ?_
    refine z_lor X dd_Mo_wordToken_456 ?_
    refine z_lstore (lv' := [(5, .long ((x5 <<< (Int32.toInt64 8 &&& 63)) ||| (Int32.toInt64 v21))), (0, .ref x0), (1, .int x1), (2, .int x2), (7, .int x7)]) X dd_Mo_wordToken_457 (by decide) rfl ?_
    refine z_iinc (v := (x7 + 1)) (lv' := [(7, .int (x7 + 1)), (5, .long ((x5 <<< (Int32.toInt64 8 &&& 63)) ||| (Int32.toInt64 v21))), (0, .ref x0), (1, .int x1), (2, .int x2)]) X dd_Mo_wordToken_459 4 rfl rfl (by decide) rfl ?_
    refine z_goto (tgt := 435) X dd_Mo_wordToken_462 (by decide) ?_
    refine z_sub [2, 3, 4, 1, 0] rfl ?_
    obtain rfl := Option.some.inj h
    exact k0 _ rfl
set_option maxRecDepth 100000 in
set_option maxHeartbeats 4000000 in
theorem t_Mo_wordToken_435  (X : zX p s m args cd D cid B bb_Mo_wordToken 8 rr_Mo zT) (H : zH s meth B n0 none "wordToken") {nf : Nat} {x0 : Nat} {x1 : Int32} {x2 : Int32} {x5 : Int64} {x7 : Int32} {c : Zc} {res : Zc} (h : f_Mo_wordToken_435 nf x0 x1 x2 x5 x7 c = some res) : Zz p l e (zRm 1 21 0 0) s m args below meth cd (MQ below (zQv D cid B res n0 0) args s 0 0 (fun q => B ≤ q)) D cid B 8 0 0 c 435 [(0, .ref x0), (1, .int x1), (2, .int x2), (5, .long x5), (7, .int x7)] [] := by
  unfold f_Mo_wordToken_435 at h
  obtain ⟨b, eb, h⟩ := zb h
  refine zlp_ok (P := fun a : Nat × Int32 × Int32 × Int64 × Int32 × Zc => Zz p l e (zRm 1 21 0 0) s m args below meth cd _ D cid B 8 0 0 a.2.2.2.2.2 435 [(0, .ref a.1), (1, .int a.2.1), (2, .int a.2.2.1), (5, .long a.2.2.2.1), (7, .int a.2.2.2.2.1)] []) (G := fun b : Nat × Int64 × Zc => Zz p l e (zRm 1 21 0 0) s m args below meth cd _ D cid B 8 0 0 b.2.2 465 [(0, .ref b.1), (5, .long b.2.1)] []) (fun a r ha k0 k1 => u_Mo_wordToken_435 X H ha k0 k1) nf _ b eb ?_
  refine z_aload_n X dd_Mo_wordToken_465 rfl 0 rfl ?_
  obtain ⟨v22, ev22, h⟩ := zb h
  refine z_get (j := 14) X dd_Mo_wordToken_466 kc_12 ki_12 (by decide) km_1535 (zgr_v ev22) ?_
  refine z_aload_n X dd_Mo_wordToken_469 rfl 0 rfl ?_
  obtain ⟨v23, ev23, h⟩ := zb h
  refine z_get (j := 17) X dd_Mo_wordToken_470 kc_12 ki_12 (by decide) km_1538 (zgi_v ev23) ?_
  refine z_lload X dd_Mo_wordToken_473 1 rfl ?_
  obtain ⟨q24, eq24, h⟩ := zb h
  refine z_callSi X [.long b.2.1] rfl dd_Mo_wordToken_475 (c_Mo_wordKind l eq24) (va_cwS 1 X.1.2.2.2.2 (zg_S km_1880 km_1881 km_138 km_1882) rfl rfl rfl (by decide +kernel) ⟨Nat.le_of_ble_eq_true rfl, Nat.le_of_ble_eq_true rfl⟩) rfl (Nat.le_of_ble_eq_true rfl) ⟨Nat.le_of_ble_eq_true rfl, Nat.le_of_ble_eq_true rfl⟩ ?_
  obtain ⟨c25, ec25, h⟩ := zb h
  refine z_iastore X dd_Mo_wordToken_478 rfl ec25 ?_
  refine z_sub [] rfl ?_
  exact t_Mo_wordToken_479 X H h
set_option maxRecDepth 100000 in
set_option maxHeartbeats 4000000 in
theorem t_Mo_wordToken_424  (X : zX p s m args cd D cid B bb_Mo_wordToken 8 rr_Mo zT) (H : zH s meth B n0 none "wordToken") {nf : Nat} {x0 : Nat} {x1 : Int32} {x2 : Int32} {c : Zc} {res : Zc} (h : f_Mo_wordToken_424 nf x0 x1 x2 c = some res) : Zz p l e (zRm 1 21 0 0) s m args below meth cd (MQ below (zQv D cid B res n0 0) args s 0 0 (fun q => B ≤ q)) D cid B 8 0 0 c 424 [(0, .ref x0), (1, .int x1), (2, .int x2)] [] := by
  unfold f_Mo_wordToken_424 at h
  refine z_iload_n X dd_Mo_wordToken_424 rfl 2 rfl ?_
  refine z_iconst (v := 5) X dd_Mo_wordToken_425 (by decide) ?_
  refine z_icmp_gt (tgt := 479) X dd_Mo_wordToken_426 (by decide) (fun q18 => ?_) (fun q18 => ?_)
  · rw [if_pos q18] at h
    refine z_sub [] rfl ?_
    exact t_Mo_wordToken_479 X H h
  · rw [if_neg q18] at h
    refine z_lconst (v := 0) X dd_Mo_wordToken_429 (by decide) ?_
    refine z_lstore (lv' := [(5, .long 0), (0, .ref x0), (1, .int x1), (2, .int x2)]) X dd_Mo_wordToken_430 (by decide) rfl ?_
    refine z_iconst (v := 0) X dd_Mo_wordToken_432 (by decide) ?_
    refine z_istore (lv' := [(7, .int 0), (5, .long 0), (0, .ref x0), (1, .int x1), (2, .int x2)]) X dd_Mo_wordToken_433 (by decide) rfl ?_
    refine z_sub [2, 3, 4, 1, 0] rfl ?_
    exact t_Mo_wordToken_435 X H h
set_option maxRecDepth 100000 in
set_option maxHeartbeats 4000000 in
theorem t_Mo_wordToken_372  (X : zX p s m args cd D cid B bb_Mo_wordToken 8 rr_Mo zT) (H : zH s meth B n0 none "wordToken") {nf : Nat} {x0 : Nat} {x1 : Int32} {x2 : Int32} {x3 : Int32} {x4 : Int32} {c : Zc} {res : Zc} (h : f_Mo_wordToken_372 nf x0 x1 x2 x3 x4 c = some res) : Zz p l e (zRm 1 21 0 0) s m args below meth cd (MQ below (zQv D cid B res n0 0) args s 0 0 (fun q => B ≤ q)) D cid B 8 0 0 c 372 [(0, .ref x0), (1, .int x1), (2, .int x2), (3, .int x3), (4, .int x4)] [] := by
  unfold f_Mo_wordToken_372 at h
  refine z_iload_n X dd_Mo_wordToken_372 rfl 2 rfl ?_
  refine z_iconst (v := 2) X dd_Mo_wordToken_373 (by decide) ?_
  refine z_icmp_ne (tgt := 424) X dd_Mo_wordToken_374 (by decide) (fun q17 => ?_) (fun q17 => ?_)
  · rw [if_neg q17] at h
    refine z_sub [0, 1, 2] rfl ?_
    exact t_Mo_wordToken_424 X H h
  · rw [if_pos q17] at h
    refine z_iload_n X dd_Mo_wordToken_377 rfl 3 rfl ?_
    refine z_bipush (v := 99) X dd_Mo_wordToken_378 (by decide) ?_
    refine z_icmp_ne (tgt := 424) X dd_Mo_wordToken_380 (by decide) (fun q26 => ?_) (fun q26 => ?_)
    · rw [if_neg q26] at h
      refine z_sub [0, 1, 2] rfl ?_
      exact t_Mo_wordToken_424 X H h
    · rw [if_pos q26] at h
      refine z_iload X dd_Mo_wordToken_383 4 rfl ?_
      refine z_bipush (v := 48) X dd_Mo_wordToken_385 (by decide) ?_
      refine z_icmp_lt (tgt := 424) X dd_Mo_wordToken_387 (by decide) (fun q27 => ?_) (fun q27 => ?_)
      · rw [if_pos q27] at h
        refine z_sub [0, 1, 2] rfl ?_
        exact t_Mo_wordToken_424 X H h
      · rw [if_neg q27] at h
        refine z_iload X dd_Mo_wordToken_390 4 rfl ?_
        refine z_bipush (v := 51) X dd_Mo_wordToken_392 (by decide) ?_
        refine z_icmp_gt (tgt := 424) X dd_Mo_wordToken_394 (by decide) (fun q28 => ?_) (fun q28 => ?_)
        · rw [if_pos q28] at h
          refine z_sub [0, 1, 2] rfl ?_
          exact t_Mo_wordToken_424 X H h
        · rw [if_neg q28] at h
          refine z_aload_n X dd_Mo_wordToken_397 rfl 0 rfl ?_
          obtain ⟨v29, ev29, h⟩ := zb h
          refine z_get (j := 14) X dd_Mo_wordToken_398 kc_12 ki_12 (by decide) km_1535 (zgr_v ev29) ?_
          refine z_aload_n X dd_Mo_wordToken_401 rfl 0 rfl ?_
          obtain ⟨v30, ev30, h⟩ := zb h
          refine z_get (j := 17) X dd_Mo_wordToken_402 kc_12 ki_12 (by decide) km_1538 (zgi_v ev30) ?_
          refine z_iconst (v := 4) X dd_Mo_wordToken_405 (by decide) ?_
          obtain ⟨c31, ec31, h⟩ := zb h
          refine z_iastore X dd_Mo_wordToken_406 rfl ec31 ?_
          refine z_aload_n X dd_Mo_wordToken_407 rfl 0 rfl ?_
          obtain ⟨v32, ev32, h⟩ := zb h
          refine z_get (j := 15) X dd_Mo_wordToken_408 kc_12 ki_12 (by decide) km_1536 (zgr_v ev32) ?_
          refine z_aload_n X dd_Mo_wordToken_411 rfl 0 rfl ?_
          obtain ⟨v33, ev33, h⟩ := zb h
          refine z_get (j := 17) X dd_Mo_wordToken_412 kc_12 ki_12 (by decide) km_1538 (zgi_v ev33) ?_
          refine z_iload X dd_Mo_wordToken_415 4 rfl ?_
          refine z_bipush (v := 48) X dd_Mo_wordToken_417 (by decide) ?_
          refine z_isub X dd_Mo_wordToken_419 ?_
          obtain ⟨c34, ec34, h⟩ := zb h
          refine z_iastore X dd_Mo_wordToken_420 rfl ec34 ?_
          refine z_goto (tgt := 479) X dd_Mo_wordToken_421 (by decide) ?_
          refine z_sub [] rfl ?_
          exact t_Mo_wordToken_479 X H h
set_option maxRecDepth 100000 in
set_option maxHeartbeats 4000000 in
theorem t_Mo_wordToken_320  (X : zX p s m args cd D cid B bb_Mo_wordToken 8 rr_Mo zT) (H : zH s meth B n0 none "wordToken") {nf : Nat} {x0 : Nat} {x1 : Int32} {x2 : Int32} {x3 : Int32} {x4 : Int32} {c : Zc} {res : Zc} (h : f_Mo_wordToken_320 nf x0 x1 x2 x3 x4 c = some res) : Zz p l e (zRm 1 21 0 0) s m args below meth cd (MQ below (zQv D cid B res n0 0) args s 0 0 (fun q => B ≤ q)) D cid B 8 0 0 c 320 [(0, .ref x0), (1, .int x1), (2, .int x2), (3, .int x3), (4, .int x4)] [] := by
  unfold f_Mo_wordToken_320 at h
  refine z_iload_n X dd_Mo_wordToken_320 rfl 2 rfl ?_
  refine z_iconst (v := 2) X dd_Mo_wordToken_321 (by decide) ?_
  refine z_icmp_ne (tgt := 372) X dd_Mo_wordToken_322 (by decide) (fun q16 => ?_) (fun q16 => ?_)
  · rw [if_neg q16] at h
    exact t_Mo_wordToken_372 X H h
  · rw [if_pos q16] at h
    refine z_iload_n X dd_Mo_wordToken_325 rfl 3 rfl ?_
    refine z_bipush (v := 109) X dd_Mo_wordToken_326 (by decide) ?_
    refine z_icmp_ne (tgt := 372) X dd_Mo_wordToken_328 (by decide) (fun q35 => ?_) (fun q35 => ?_)
    · rw [if_neg q35] at h
      exact t_Mo_wordToken_372 X H h
    · rw [if_pos q35] at h
      refine z_iload X dd_Mo_wordToken_331 4 rfl ?_
      refine z_bipush (v := 48) X dd_Mo_wordToken_333 (by decide) ?_
      refine z_icmp_lt (tgt := 372) X dd_Mo_wordToken_335 (by decide) (fun q36 => ?_) (fun q36 => ?_)
      · rw [if_pos q36] at h
        exact t_Mo_wordToken_372 X H h
      · rw [if_neg q36] at h
        refine z_iload X dd_Mo_wordToken_338 4 rfl ?_
        refine z_bipush (v := 55) X dd_Mo_wordToken_340 (by decide) ?_
        refine z_icmp_gt (tgt := 372) X dd_Mo_wordToken_342 (by decide) (fun q37 => ?_) (fun q37 => ?_)
        · rw [if_pos q37] at h
          exact t_Mo_wordToken_372 X H h
        · rw [if_neg q37] at h
          refine z_aload_n X dd_Mo_wordToken_345 rfl 0 rfl ?_
          obtain ⟨v38, ev38, h⟩ := zb h
          refine z_get (j := 14) X dd_Mo_wordToken_346 kc_12 ki_12 (by decide) km_1535 (zgr_v ev38) ?_
          refine z_aload_n X dd_Mo_wordToken_349 rfl 0 rfl ?_
          obtain ⟨v39, ev39, h⟩ := zb h
          refine z_get (j := 17) X dd_Mo_wordToken_350 kc_12 ki_12 (by decide) km_1538 (zgi_v ev39) ?_
          refine z_iconst (v := 3) X dd_Mo_wordToken_353 (by decide) ?_
          obtain ⟨c40, ec40, h⟩ := zb h
          refine z_iastore X dd_Mo_wordToken_354 rfl ec40 ?_
          refine z_aload_n X dd_Mo_wordToken_355 rfl 0 rfl ?_
          obtain ⟨v41, ev41, h⟩ := zb h
          refine z_get (j := 15) X dd_Mo_wordToken_356 kc_12 ki_12 (by decide) km_1536 (zgr_v ev41) ?_
          refine z_aload_n X dd_Mo_wordToken_359 rfl 0 rfl ?_
          obtain ⟨v42, ev42, h⟩ := zb h
          refine z_get (j := 17) X dd_Mo_wordToken_360 kc_12 ki_12 (by decide) km_1538 (zgi_v ev42) ?_
          refine z_iload X dd_Mo_wordToken_363 4 rfl ?_
          refine z_bipush (v := 48) X dd_Mo_wordToken_365 (by decide) ?_
          refine z_isub X dd_Mo_wordToken_367 ?_
          obtain ⟨c43, ec43, h⟩ := zb h
          refine z_iastore X dd_Mo_wordToken_368 rfl ec43 ?_
          refine z_goto (tgt := 479) X dd_Mo_wordToken_369 (by decide) ?_
          refine z_sub [] rfl ?_
          exact t_Mo_wordToken_479 X H h
set_option maxRecDepth 100000 in
set_option maxHeartbeats 4000000 in
theorem t_Mo_wordToken_274  (X : zX p s m args cd D cid B bb_Mo_wordToken 8 rr_Mo zT) (H : zH s meth B n0 none "wordToken") {nf : Nat} {x0 : Nat} {x1 : Int32} {x2 : Int32} {x3 : Int32} {x4 : Int32} {c : Zc} {res : Zc} (h : f_Mo_wordToken_274 nf x0 x1 x2 x3 x4 c = some res) : Zz p l e (zRm 1 21 0 0) s m args below meth cd (MQ below (zQv D cid B res n0 0) args s 0 0 (fun q => B ≤ q)) D cid B 8 0 0 c 274 [(0, .ref x0), (1, .int x1), (2, .int x2), (3, .int x3), (4, .int x4)] [] := by
  unfold f_Mo_wordToken_274 at h
  refine z_iload_n X dd_Mo_wordToken_274 rfl 2 rfl ?_
  refine z_iconst (v := 1) X dd_Mo_wordToken_275 (by decide) ?_
  refine z_icmp_ne (tgt := 320) X dd_Mo_wordToken_276 (by decide) (fun q15 => ?_) (fun q15 => ?_)
  · rw [if_neg q15] at h
    exact t_Mo_wordToken_320 X H h
  · rw [if_pos q15] at h
    refine z_iload_n X dd_Mo_wordToken_279 rfl 3 rfl ?_
    refine z_bipush (v := 65) X dd_Mo_wordToken_280 (by decide) ?_
    refine z_icmp_lt (tgt := 320) X dd_Mo_wordToken_282 (by decide) (fun q44 => ?_) (fun q44 => ?_)
    · rw [if_pos q44] at h
      exact t_Mo_wordToken_320 X H h
    · rw [if_neg q44] at h
      refine z_iload_n X dd_Mo_wordToken_285 rfl 3 rfl ?_
      refine z_bipush (v := 68) X dd_Mo_wordToken_286 (by decide) ?_
      refine z_icmp_gt (tgt := 320) X dd_Mo_wordToken_288 (by decide) (fun q45 => ?_) (fun q45 => ?_)
      · rw [if_pos q45] at h
        exact t_Mo_wordToken_320 X H h
      · rw [if_neg q45] at h
        refine z_aload_n X dd_Mo_wordToken_291 rfl 0 rfl ?_
        obtain ⟨v46, ev46, h⟩ := zb h
        refine z_get (j := 14) X dd_Mo_wordToken_292 kc_12 ki_12 (by decide) km_1535 (zgr_v ev46) ?_
        refine z_aload_n X dd_Mo_wordToken_295 rfl 0 rfl ?_
        obtain ⟨v47, ev47, h⟩ := zb h
        refine z_get (j := 17) X dd_Mo_wordToken_296 kc_12 ki_12 (by decide) km_1538 (zgi_v ev47) ?_
        refine z_iconst (v := 5) X dd_Mo_wordToken_299 (by decide) ?_
        obtain ⟨c48, ec48, h⟩ := zb h
        refine z_iastore X dd_Mo_wordToken_300 rfl ec48 ?_
        refine z_aload_n X dd_Mo_wordToken_301 rfl 0 rfl ?_
        obtain ⟨v49, ev49, h⟩ := zb h
        refine z_get (j := 15) X dd_Mo_wordToken_302 kc_12 ki_12 (by decide) km_1536 (zgr_v ev49) ?_
        refine z_aload_n X dd_Mo_wordToken_305 rfl 0 rfl ?_
        obtain ⟨v50, ev50, h⟩ := zb h
        refine z_get (j := 17) X dd_Mo_wordToken_306 kc_12 ki_12 (by decide) km_1538 (zgi_v ev50) ?_
        refine z_bipush (v := 8) X dd_Mo_wordToken_309 (by decide) ?_
        refine z_iload_n X dd_Mo_wordToken_311 rfl 3 rfl ?_
        refine z_iadd X dd_Mo_wordToken_312 ?_
        refine z_bipush (v := 65) X dd_Mo_wordToken_313 (by decide) ?_
        refine z_isub X dd_Mo_wordToken_315 ?_
        obtain ⟨c51, ec51, h⟩ := zb h
        refine z_iastore X dd_Mo_wordToken_316 rfl ec51 ?_
        refine z_goto (tgt := 479) X dd_Mo_wordToken_317 (by decide) ?_
        refine z_sub [] rfl ?_
        exact t_Mo_wordToken_479 X H h
set_option maxRecDepth 100000 in
set_option maxHeartbeats 4000000 in
theorem t_Mo_wordToken_231  (X : zX p s m args cd D cid B bb_Mo_wordToken 8 rr_Mo zT) (H : zH s meth B n0 none "wordToken") {nf : Nat} {x0 : Nat} {x1 : Int32} {x2 : Int32} {x3 : Int32} {x4 : Int32} {c : Zc} {res : Zc} (h : f_Mo_wordToken_231 nf x0 x1 x2 x3 x4 c = some res) : Zz p l e (zRm 1 21 0 0) s m args below meth cd (MQ below (zQv D cid B res n0 0) args s 0 0 (fun q => B ≤ q)) D cid B 8 0 0 c 231 [(0, .ref x0), (1, .int x1), (2, .int x2), (3, .int x3), (4, .int x4)] [] := by
  unfold f_Mo_wordToken_231 at h
  refine z_iload_n X dd_Mo_wordToken_231 rfl 2 rfl ?_
  refine z_iconst (v := 1) X dd_Mo_wordToken_232 (by decide) ?_
  refine z_icmp_ne (tgt := 274) X dd_Mo_wordToken_233 (by decide) (fun q14 => ?_) (fun q14 => ?_)
  · rw [if_neg q14] at h
    exact t_Mo_wordToken_274 X H h
  · rw [if_pos q14] at h
    refine z_iload_n X dd_Mo_wordToken_236 rfl 3 rfl ?_
    refine z_bipush (v := 97) X dd_Mo_wordToken_237 (by decide) ?_
    refine z_icmp_lt (tgt := 274) X dd_Mo_wordToken_239 (by decide) (fun q52 => ?_) (fun q52 => ?_)
    · rw [if_pos q52] at h
      exact t_Mo_wordToken_274 X H h
    · rw [if_neg q52] at h
      refine z_iload_n X dd_Mo_wordToken_242 rfl 3 rfl ?_
      refine z_bipush (v := 104) X dd_Mo_wordToken_243 (by decide) ?_
      refine z_icmp_gt (tgt := 274) X dd_Mo_wordToken_245 (by decide) (fun q53 => ?_) (fun q53 => ?_)
      · rw [if_pos q53] at h
        exact t_Mo_wordToken_274 X H h
      · rw [if_neg q53] at h
        refine z_aload_n X dd_Mo_wordToken_248 rfl 0 rfl ?_
        obtain ⟨v54, ev54, h⟩ := zb h
        refine z_get (j := 14) X dd_Mo_wordToken_249 kc_12 ki_12 (by decide) km_1535 (zgr_v ev54) ?_
        refine z_aload_n X dd_Mo_wordToken_252 rfl 0 rfl ?_
        obtain ⟨v55, ev55, h⟩ := zb h
        refine z_get (j := 17) X dd_Mo_wordToken_253 kc_12 ki_12 (by decide) km_1538 (zgi_v ev55) ?_
        refine z_iconst (v := 5) X dd_Mo_wordToken_256 (by decide) ?_
        obtain ⟨c56, ec56, h⟩ := zb h
        refine z_iastore X dd_Mo_wordToken_257 rfl ec56 ?_
        refine z_aload_n X dd_Mo_wordToken_258 rfl 0 rfl ?_
        obtain ⟨v57, ev57, h⟩ := zb h
        refine z_get (j := 15) X dd_Mo_wordToken_259 kc_12 ki_12 (by decide) km_1536 (zgr_v ev57) ?_
        refine z_aload_n X dd_Mo_wordToken_262 rfl 0 rfl ?_
        obtain ⟨v58, ev58, h⟩ := zb h
        refine z_get (j := 17) X dd_Mo_wordToken_263 kc_12 ki_12 (by decide) km_1538 (zgi_v ev58) ?_
        refine z_iload_n X dd_Mo_wordToken_266 rfl 3 rfl ?_
        refine z_bipush (v := 97) X dd_Mo_wordToken_267 (by decide) ?_
        refine z_isub X dd_Mo_wordToken_269 ?_
        obtain ⟨c59, ec59, h⟩ := zb h
        refine z_iastore X dd_Mo_wordToken_270 rfl ec59 ?_
        refine z_goto (tgt := 479) X dd_Mo_wordToken_271 (by decide) ?_
        refine z_sub [] rfl ?_
        exact t_Mo_wordToken_479 X H h
set_option maxRecDepth 100000 in
set_option maxHeartbeats 4000000 in
theorem t_Mo_wordToken_226  (X : zX p s m args cd D cid B bb_Mo_wordToken 8 rr_Mo zT) (H : zH s meth B n0 none "wordToken") {nf : Nat} {s0 : Nat} {s1 : Int32} {s2 : Int32} {s3 : Int32} {c : Zc} {res : Zc} (h : f_Mo_wordToken_226 nf s0 s1 s2 s3 c = some res) : Zz p l e (zRm 1 21 0 0) s m args below meth cd (MQ below (zQv D cid B res n0 0) args s 0 0 (fun q => B ≤ q)) D cid B 8 0 0 c 226 [] [.int s3, .int s2, .int s1, .ref s0] := by
  unfold f_Mo_wordToken_226 at h
  refine z_iadd X dd_Mo_wordToken_226 ?_
  obtain ⟨c70, ec70, h⟩ := zb h
  refine z_iastore X dd_Mo_wordToken_227 rfl ec70 ?_
  refine z_goto (tgt := 479) X dd_Mo_wordToken_228 (by decide) ?_
  exact t_Mo_wordToken_479 X H h
set_option maxRecDepth 100000 in
set_option maxHeartbeats 4000000 in
theorem t_Mo_wordToken_186  (X : zX p s m args cd D cid B bb_Mo_wordToken 8 rr_Mo zT) (H : zH s meth B n0 none "wordToken") {nf : Nat} {x0 : Nat} {x2 : Int32} {x3 : Int32} {x4 : Int32} {c : Zc} {res : Zc} (h : f_Mo_wordToken_186 nf x0 x2 x3 x4 c = some res) : Zz p l e (zRm 1 21 0 0) s m args below meth cd (MQ below (zQv D cid B res n0 0) args s 0 0 (fun q => B ≤ q)) D cid B 8 0 0 c 186 [(0, .ref x0), (2, .int x2), (3, .int x3), (4, .int x4)] [] := by
  unfold f_Mo_wordToken_186 at h
  refine z_aload_n X dd_Mo_wordToken_186 rfl 0 rfl ?_
  obtain ⟨v64, ev64, h⟩ := zb h
  refine z_get (j := 14) X dd_Mo_wordToken_187 kc_12 ki_12 (by decide) km_1535 (zgr_v ev64) ?_
  refine z_aload_n X dd_Mo_wordToken_190 rfl 0 rfl ?_
  obtain ⟨v65, ev65, h⟩ := zb h
  refine z_get (j := 17) X dd_Mo_wordToken_191 kc_12 ki_12 (by decide) km_1538 (zgi_v ev65) ?_
  refine z_iconst (v := 2) X dd_Mo_wordToken_194 (by decide) ?_
  obtain ⟨c66, ec66, h⟩ := zb h
  refine z_iastore X dd_Mo_wordToken_195 rfl ec66 ?_
  refine z_aload_n X dd_Mo_wordToken_196 rfl 0 rfl ?_
  obtain ⟨v67, ev67, h⟩ := zb h
  refine z_get (j := 15) X dd_Mo_wordToken_197 kc_12 ki_12 (by decide) km_1536 (zgr_v ev67) ?_
  refine z_aload_n X dd_Mo_wordToken_200 rfl 0 rfl ?_
  obtain ⟨v68, ev68, h⟩ := zb h
  refine z_get (j := 17) X dd_Mo_wordToken_201 kc_12 ki_12 (by decide) km_1538 (zgi_v ev68) ?_
  refine z_bipush (v := 11) X dd_Mo_wordToken_204 (by decide) ?_
  refine z_iload_n X dd_Mo_wordToken_206 rfl 2 rfl ?_
  refine z_bipush (v := 117) X dd_Mo_wordToken_207 (by decide) ?_
  refine z_isub X dd_Mo_wordToken_209 ?_
  refine z_imul X dd_Mo_wordToken_210 ?_
  refine z_iload_n X dd_Mo_wordToken_211 rfl 1 rfl ?_
  refine z_iconst (v := 1) X dd_Mo_wordToken_212 (by decide) ?_
  refine z_icmp_ne (tgt := 221) X dd_Mo_wordToken_213 (by decide) (fun q69 => ?_) (fun q69 => ?_)
  · rw [if_neg q69] at h
    refine z_iload X dd_Mo_wordToken_221 3 rfl ?_
    refine z_bipush (v := 48) X dd_Mo_wordToken_223 (by decide) ?_
    refine z_isub X dd_Mo_wordToken_225 ?_
    refine z_sub [] rfl ?_
    exact t_Mo_wordToken_226 X H h
  · rw [if_pos q69] at h
    refine z_bipush (v := 10) X dd_Mo_wordToken_216 (by decide) ?_
    refine z_goto (tgt := 226) X dd_Mo_wordToken_218 (by decide) ?_
    refine z_sub [] rfl ?_
    exact t_Mo_wordToken_226 X H h
set_option maxRecDepth 100000 in
set_option maxHeartbeats 4000000 in
theorem t_Mo_wordToken_166  (X : zX p s m args cd D cid B bb_Mo_wordToken 8 rr_Mo zT) (H : zH s meth B n0 none "wordToken") {nf : Nat} {x0 : Nat} {x1 : Int32} {x2 : Int32} {x3 : Int32} {x4 : Int32} {c : Zc} {res : Zc} (h : f_Mo_wordToken_166 nf x0 x1 x2 x3 x4 c = some res) : Zz p l e (zRm 1 21 0 0) s m args below meth cd (MQ below (zQv D cid B res n0 0) args s 0 0 (fun q => B ≤ q)) D cid B 8 0 0 c 166 [(0, .ref x0), (1, .int x1), (2, .int x2), (3, .int x3), (4, .int x4)] [] := by
  unfold f_Mo_wordToken_166 at h
  refine z_iload_n X dd_Mo_wordToken_166 rfl 2 rfl ?_
  refine z_iconst (v := 2) X dd_Mo_wordToken_167 (by decide) ?_
  refine z_icmp_ne (tgt := 231) X dd_Mo_wordToken_168 (by decide) (fun q13 => ?_) (fun q13 => ?_)
  · rw [if_neg q13] at h
    exact t_Mo_wordToken_231 X H h
  · rw [if_pos q13] at h
    refine z_iload_n X dd_Mo_wordToken_171 rfl 3 rfl ?_
    obtain ⟨q60, eq60, h⟩ := zb h
    refine z_callSi X [.int x3] rfl dd_Mo_wordToken_172 (c_Mo_isVariable l eq60) (va_cwS 1 X.1.2.2.2.2 (zg_S km_1877 km_1878 km_138 km_1879) rfl rfl rfl (by decide +kernel) ⟨Nat.le_of_ble_eq_true rfl, Nat.le_of_ble_eq_true rfl⟩) rfl (Nat.le_of_ble_eq_true rfl) ⟨Nat.le_of_ble_eq_true rfl, Nat.le_of_ble_eq_true rfl⟩ ?_
    refine z_if_eq (tgt := 231) X dd_Mo_wordToken_175 (by decide) (fun q61 => ?_) (fun q61 => ?_)
    · rw [if_pos q61] at h
      exact t_Mo_wordToken_231 X H h
    · rw [if_neg q61] at h
      refine z_iload X dd_Mo_wordToken_178 4 rfl ?_
      obtain ⟨q62, eq62, h⟩ := zb h
      refine z_callSi X [.int x4] rfl dd_Mo_wordToken_180 (c_Mo_isDigit l eq62) (va_cwS 1 X.1.2.2.2.2 (zg_S km_1870 km_1871 km_138 km_1872) rfl rfl rfl (by decide +kernel) ⟨Nat.le_of_ble_eq_true rfl, Nat.le_of_ble_eq_true rfl⟩) rfl (Nat.le_of_ble_eq_true rfl) ⟨Nat.le_of_ble_eq_true rfl, Nat.le_of_ble_eq_true rfl⟩ ?_
      refine z_if_eq (tgt := 231) X dd_Mo_wordToken_183 (by decide) (fun q63 => ?_) (fun q63 => ?_)
      · rw [if_pos q63] at h
        exact t_Mo_wordToken_231 X H h
      · rw [if_neg q63] at h
        refine z_sub [0, 2, 3, 4] rfl ?_
        exact t_Mo_wordToken_186 X H h
set_option maxRecDepth 100000 in
set_option maxHeartbeats 4000000 in
theorem u_Mo_wordToken_71  (X : zX p s m args cd D cid B bb_Mo_wordToken 8 rr_Mo zT) (H : zH s meth B n0 none "wordToken") {nf : Nat} {x0 : Nat} {x1 : Int32} {x2 : Int32} {x5 : Int32} {x6 : Int32} {x7 : Int32} {c : Zc} {r : (Nat × Int32 × Int32 × Int32 × Int32 × Int32 × Zc) ⊕ (Nat × Int32 × Int32 × Zc)} (h : g_Mo_wordToken_71 nf x0 x1 x2 x5 x6 x7 c = some r) (k0 : ∀ a, r = .inl a → (fun a : Nat × Int32 × Int32 × Int32 × Int32 × Int32 × Zc => Zz p l e (zRm 1 21 0 0) s m args below meth cd Q D cid B 8 0 0 a.2.2.2.2.2.2 71 [(0, .ref a.1), (1, .int a.2.1), (2, .int a.2.2.1), (5, .int a.2.2.2.1), (6, .int a.2.2.2.2.1), (7, .int a.2.2.2.2.2.1)] []) a) (k1 : ∀ b, r = .inr b → (fun b : Nat × Int32 × Int32 × Zc => Zz p l e (zRm 1 21 0 0) s m args below meth cd Q D cid B 8 0 0 b.2.2.2 122 [(0, .ref b.1), (5, .int b.2.1), (6, .int b.2.2.1)] []) b) : Zz p l e (zRm 1 21 0 0) s m args below meth cd Q D cid B 8 0 0 c 71 [(0, .ref x0), (1, .int x1), (2, .int x2), (5, .int x5), (6, .int x6), (7, .int x7)] [] := by
  unfold g_Mo_wordToken_71 at h
  refine z_iload X dd_Mo_wordToken_71 5 rfl ?_
  refine z_iload_n X dd_Mo_wordToken_73 rfl 2 rfl ?_
  refine z_icmp_ge (tgt := 122) X dd_Mo_wordToken_74 (by decide) (fun q74 => ?_) (fun q74 => ?_)
  · rw [if_pos q74] at h
    refine z_sub [0, 3, 4] rfl ?_
    obtain rfl := Option.some.inj h
    exact k1 _ rfl
  · rw [if_neg q74] at h
    refine z_iload X dd_Mo_wordToken_77 3 rfl ?_
    refine z_if_eq (tgt := 122) X dd_Mo_wordToken_79 (by decide) (fun q75 => ?_) (fun q75 => ?_)
    · rw [if_pos q75] at h
      refine z_sub [0, 3, 4] rfl ?_
      obtain rfl := Option.some.inj h
      exact k1 _ rfl
    · rw [if_neg q75] at h
      refine z_aload_n X dd_Mo_wordToken_82 rfl 0 rfl ?_
      obtain ⟨v76, ev76, h⟩ := zb h
      refine z_get (j := 12) X dd_Mo_wordToken_83 kc_12 ki_12 (by decide) km_1533 (zgr_v ev76) ?_
      refine z_iload_n X dd_Mo_wordToken_86 rfl 1 rfl ?_
      refine z_iload X dd_Mo_wordToken_87 5 rfl ?_
      refine z_iadd X dd_Mo_wordToken_89 ?_
      obtain ⟨v77, ev77, h⟩ := zb h
      refine z_baload X dd_Mo_wordToken_90 rfl ev77 ?_
      obtain ⟨q78, eq78, h⟩ := zb h
      refine z_callSi X [.int v77] rfl dd_Mo_wordToken_91 (c_Mo_isDigit l eq78) (va_cwS 1 X.1.2.2.2.2 (zg_S km_1870 km_1871 km_138 km_1872) rfl rfl rfl (by decide +kernel) ⟨Nat.le_of_ble_eq_true rfl, Nat.le_of_ble_eq_true rfl⟩) rfl (Nat.le_of_ble_eq_true rfl) ⟨Nat.le_of_ble_eq_true rfl, Nat.le_of_ble_eq_true rfl⟩ ?_
      refine z_istore (lv' := [(5, .int q78.1), (0, .ref x0), (1, .int x1), (2, .int x2), (6, .int x6), (7, .int x7)]) X dd_Mo_wordToken_94 (by decide) rfl ?_
      refine z_bipush (v := 10) X dd_Mo_wordToken_96 (by decide) ?_
      refine z_iload X dd_Mo_wordToken_98 4 rfl ?_
      refine z_imul X dd_Mo_wordToken_100 ?_
      refine z_aload_n X dd_Mo_wordToken_101 rfl 1 rfl ?_
      obtain ⟨v79, ev79, h⟩ := zb h
      refine z_get (j := 12) X dd_Mo_wordToken_102 kc_12 ki_12 (by decide) km_1533 (zgr_v ev79) ?_
      refine z_iload_n X dd_Mo_wordToken_105 rfl 2 rfl ?_
      refine z_iload X dd_Mo_wordToken_106 5 rfl ?_
      refine z_iadd X dd_Mo_wordToken_108 ?_
      obtain ⟨v80, ev80, h⟩ := zb h
      refine z_baload X dd_Mo_wordToken_109 rfl ev80 ?_
      refine z_iadd X dd_Mo_wordToken_110 ?_
      refine z_bipush (v := 48) X dd_Mo_wordToken_111 (by decide) ?_
      refine z_isub X dd_Mo_wordToken_113 ?_
      refine z_istore (lv' := [(6, .int (((10 * x6) + v80) - 48)), (5, .int q78.1), (0, .ref x0), (1, .int x1), (2, .int x2), (7, .int x7)]) X dd_Mo_wordToken_114 (by decide) rfl ?_
      refine z_iinc (v := (x7 + 1)) (lv' := [(7, .int (x7 + 1)), (6, .int (((10 * x6) + v80) - 48)), (5, .int q78.1), (0, .ref x0), (1, .int x1), (2, .int x2)]) X dd_Mo_wordToken_116 5 rfl rfl (by decide) rfl ?_
      refine z_goto (tgt := 71) X dd_Mo_wordToken_119 (by decide) ?_
      refine z_sub [3, 4, 5, 2, 1, 0] rfl ?_
      obtain rfl := Option.some.inj h
      exact k0 _ rfl
set_option maxRecDepth 100000 in
set_option maxHeartbeats 4000000 in
theorem t_Mo_wordToken_141  (X : zX p s m args cd D cid B bb_Mo_wordToken 8 rr_Mo zT) (H : zH s meth B n0 none "wordToken") {nf : Nat} {x0 : Nat} {x6 : Int32} {s0 : Nat} {s1 : Int32} {s2 : Int32} {c : Zc} {res : Zc} (h : f_Mo_wordToken_141 nf x0 x6 s0 s1 s2 c = some res) : Zz p l e (zRm 1 21 0 0) s m args below meth cd (MQ below (zQv D cid B res n0 0) args s 0 0 (fun q => B ≤ q)) D cid B 8 0 0 c 141 [(0, .ref x0), (6, .int x6)] [.int s2, .int s1, .ref s0] := by
  unfold f_Mo_wordToken_141 at h
  obtain ⟨c84, ec84, h⟩ := zb h
  refine z_iastore X dd_Mo_wordToken_141 rfl ec84 ?_
  refine z_aload_n X dd_Mo_wordToken_142 rfl 0 rfl ?_
  obtain ⟨v85, ev85, h⟩ := zb h
  refine z_get (j := 15) X dd_Mo_wordToken_143 kc_12 ki_12 (by decide) km_1536 (zgr_v ev85) ?_
  refine z_aload_n X dd_Mo_wordToken_146 rfl 0 rfl ?_
  obtain ⟨v86, ev86, h⟩ := zb h
  refine z_get (j := 17) X dd_Mo_wordToken_147 kc_12 ki_12 (by decide) km_1538 (zgi_v ev86) ?_
  refine z_iload X dd_Mo_wordToken_150 1 rfl ?_
  obtain ⟨c87, ec87, h⟩ := zb h
  refine z_iastore X dd_Mo_wordToken_152 rfl ec87 ?_
  obtain rfl := Option.some.inj h
  exact z_vret X H.1 H.2.1 H.2.2.1 dd_Mo_wordToken_153
set_option maxRecDepth 100000 in
set_option maxHeartbeats 4000000 in
theorem t_Mo_wordToken_122  (X : zX p s m args cd D cid B bb_Mo_wordToken 8 rr_Mo zT) (H : zH s meth B n0 none "wordToken") {nf : Nat} {x0 : Nat} {x5 : Int32} {x6 : Int32} {c : Zc} {res : Zc} (h : f_Mo_wordToken_122 nf x0 x5 x6 c = some res) : Zz p l e (zRm 1 21 0 0) s m args below meth cd (MQ below (zQv D cid B res n0 0) args s 0 0 (fun q => B ≤ q)) D cid B 8 0 0 c 122 [(0, .ref x0), (5, .int x5), (6, .int x6)] [] := by
  unfold f_Mo_wordToken_122 at h
  refine z_aload_n X dd_Mo_wordToken_122 rfl 0 rfl ?_
  obtain ⟨v81, ev81, h⟩ := zb h
  refine z_get (j := 14) X dd_Mo_wordToken_123 kc_12 ki_12 (by decide) km_1535 (zgr_v ev81) ?_
  refine z_aload_n X dd_Mo_wordToken_126 rfl 0 rfl ?_
  obtain ⟨v82, ev82, h⟩ := zb h
  refine z_get (j := 17) X dd_Mo_wordToken_127 kc_12 ki_12 (by decide) km_1538 (zgi_v ev82) ?_
  refine z_iload X dd_Mo_wordToken_130 1 rfl ?_
  refine z_if_eq (tgt := 140) X dd_Mo_wordToken_132 (by decide) (fun q83 => ?_) (fun q83 => ?_)
  · rw [if_pos q83] at h
    refine z_iconst (v := 1) X dd_Mo_wordToken_140 (by decide) ?_
    refine z_sub [0, 2] rfl ?_
    exact t_Mo_wordToken_141 X H h
  · rw [if_neg q83] at h
    refine z_bipush (v := 6) X dd_Mo_wordToken_135 (by decide) ?_
    refine z_goto (tgt := 141) X dd_Mo_wordToken_137 (by decide) ?_
    refine z_sub [0, 2] rfl ?_
    exact t_Mo_wordToken_141 X H h
set_option maxRecDepth 100000 in
set_option maxHeartbeats 4000000 in
theorem t_Mo_wordToken_71  (X : zX p s m args cd D cid B bb_Mo_wordToken 8 rr_Mo zT) (H : zH s meth B n0 none "wordToken") {nf : Nat} {x0 : Nat} {x1 : Int32} {x2 : Int32} {x5 : Int32} {x6 : Int32} {x7 : Int32} {c : Zc} {res : Zc} (h : f_Mo_wordToken_71 nf x0 x1 x2 x5 x6 x7 c = some res) : Zz p l e (zRm 1 21 0 0) s m args below meth cd (MQ below (zQv D cid B res n0 0) args s 0 0 (fun q => B ≤ q)) D cid B 8 0 0 c 71 [(0, .ref x0), (1, .int x1), (2, .int x2), (5, .int x5), (6, .int x6), (7, .int x7)] [] := by
  unfold f_Mo_wordToken_71 at h
  obtain ⟨b, eb, h⟩ := zb h
  refine zlp_ok (P := fun a : Nat × Int32 × Int32 × Int32 × Int32 × Int32 × Zc => Zz p l e (zRm 1 21 0 0) s m args below meth cd _ D cid B 8 0 0 a.2.2.2.2.2.2 71 [(0, .ref a.1), (1, .int a.2.1), (2, .int a.2.2.1), (5, .int a.2.2.2.1), (6, .int a.2.2.2.2.1), (7, .int a.2.2.2.2.2.1)] []) (G := fun b : Nat × Int32 × Int32 × Zc => Zz p l e (zRm 1 21 0 0) s m args below meth cd _ D cid B 8 0 0 b.2.2.2 122 [(0, .ref b.1), (5, .int b.2.1), (6, .int b.2.2.1)] []) (fun a r ha k0 k1 => u_Mo_wordToken_71 X H ha k0 k1) nf _ b eb ?_
  exact t_Mo_wordToken_122 X H h
set_option maxRecDepth 100000 in
set_option maxHeartbeats 4000000 in
theorem t_Mo_wordToken_63  (X : zX p s m args cd D cid B bb_Mo_wordToken 8 rr_Mo zT) (H : zH s meth B n0 none "wordToken") {nf : Nat} {x0 : Nat} {x1 : Int32} {x2 : Int32} {s0 : Int32} {c : Zc} {res : Zc} (h : f_Mo_wordToken_63 nf x0 x1 x2 s0 c = some res) : Zz p l e (zRm 1 21 0 0) s m args below meth cd (MQ below (zQv D cid B res n0 0) args s 0 0 (fun q => B ≤ q)) D cid B 8 0 0 c 63 [(0, .ref x0), (1, .int x1), (2, .int x2)] [.int s0] := by
  unfold f_Mo_wordToken_63 at h
  refine z_istore (lv' := [(5, .int s0), (0, .ref x0), (1, .int x1), (2, .int x2)]) X dd_Mo_wordToken_63 (by decide) rfl ?_
  refine z_iconst (v := 0) X dd_Mo_wordToken_65 (by decide) ?_
  refine z_istore (lv' := [(6, .int 0), (5, .int s0), (0, .ref x0), (1, .int x1), (2, .int x2)]) X dd_Mo_wordToken_66 (by decide) rfl ?_
  refine z_iconst (v := 0) X dd_Mo_wordToken_68 (by decide) ?_
  refine z_istore (lv' := [(7, .int 0), (6, .int 0), (5, .int s0), (0, .ref x0), (1, .int x1), (2, .int x2)]) X dd_Mo_wordToken_69 (by decide) rfl ?_
  refine z_sub [3, 4, 5, 2, 1, 0] rfl ?_
  exact t_Mo_wordToken_71 X H h
set_option maxRecDepth 100000 in
set_option maxHeartbeats 4000000 in
theorem t_Mo_wordToken_24  (X : zX p s m args cd D cid B bb_Mo_wordToken 8 rr_Mo zT) (H : zH s meth B n0 none "wordToken") {nf : Nat} {x0 : Nat} {x1 : Int32} {x2 : Int32} {x3 : Int32} {s0 : Int32} {c : Zc} {res : Zc} (h : f_Mo_wordToken_24 nf x0 x1 x2 x3 s0 c = some res) : Zz p l e (zRm 1 21 0 0) s m args below meth cd (MQ below (zQv D cid B res n0 0) args s 0 0 (fun q => B ≤ q)) D cid B 8 0 0 c 24 [(0, .ref x0), (1, .int x1), (2, .int x2), (3, .int x3)] [.int s0] := by
  unfold f_Mo_wordToken_24 at h
  refine z_istore (lv' := [(4, .int s0), (0, .ref x0), (1, .int x1), (2, .int x2), (3, .int x3)]) X dd_Mo_wordToken_24 (by decide) rfl ?_
  refine z_aload_n X dd_Mo_wordToken_26 rfl 1 rfl ?_
  obtain ⟨v4, ev4, h⟩ := zb h
  refine z_get (j := 14) X dd_Mo_wordToken_27 kc_12 ki_12 (by decide) km_1535 (zgr_v ev4) ?_
  refine z_aload_n X dd_Mo_wordToken_30 rfl 1 rfl ?_
  obtain ⟨v5, ev5, h⟩ := zb h
  refine z_get (j := 17) X dd_Mo_wordToken_31 kc_12 ki_12 (by decide) km_1538 (zgi_v ev5) ?_
  refine z_iconst (v := 1) X dd_Mo_wordToken_34 (by decide) ?_
  obtain ⟨c6, ec6, h⟩ := zb h
  refine z_iastore X dd_Mo_wordToken_35 rfl ec6 ?_
  refine z_aload_n X dd_Mo_wordToken_36 rfl 1 rfl ?_
  obtain ⟨v7, ev7, h⟩ := zb h
  refine z_get (j := 15) X dd_Mo_wordToken_37 kc_12 ki_12 (by decide) km_1536 (zgr_v ev7) ?_
  refine z_aload_n X dd_Mo_wordToken_40 rfl 1 rfl ?_
  obtain ⟨v8, ev8, h⟩ := zb h
  refine z_get (j := 17) X dd_Mo_wordToken_41 kc_12 ki_12 (by decide) km_1538 (zgi_v ev8) ?_
  refine z_iconst (v := 0) X dd_Mo_wordToken_44 (by decide) ?_
  obtain ⟨c9, ec9, h⟩ := zb h
  refine z_iastore X dd_Mo_wordToken_45 rfl ec9 ?_
  refine z_iload_n X dd_Mo_wordToken_46 rfl 4 rfl ?_
  obtain ⟨q10, eq10, h⟩ := zb h
  refine z_callSi X [.int x3] rfl dd_Mo_wordToken_47 (c_Mo_isDigit l eq10) (va_cwS 1 X.1.2.2.2.2 (zg_S km_1870 km_1871 km_138 km_1872) rfl rfl rfl (by decide +kernel) ⟨Nat.le_of_ble_eq_true rfl, Nat.le_of_ble_eq_true rfl⟩) rfl (Nat.le_of_ble_eq_true rfl) ⟨Nat.le_of_ble_eq_true rfl, Nat.le_of_ble_eq_true rfl⟩ ?_
  refine z_if_eq (tgt := 154) X dd_Mo_wordToken_50 (by decide) (fun q11 => ?_) (fun q11 => ?_)
  · rw [if_pos q11] at h
    refine z_iload_n X dd_Mo_wordToken_154 rfl 3 rfl ?_
    refine z_iconst (v := 1) X dd_Mo_wordToken_155 (by decide) ?_
    refine z_icmp_ne (tgt := 166) X dd_Mo_wordToken_156 (by decide) (fun q12 => ?_) (fun q12 => ?_)
    · rw [if_neg q12] at h
      refine z_sub [1, 2, 3, 4, 0] rfl ?_
      exact t_Mo_wordToken_166 X H h
    · rw [if_pos q12] at h
      refine z_iload_n X dd_Mo_wordToken_159 rfl 4 rfl ?_
      obtain ⟨q71, eq71, h⟩ := zb h
      refine z_callSi X [.int x3] rfl dd_Mo_wordToken_160 (c_Mo_isVariable l eq71) (va_cwS 1 X.1.2.2.2.2 (zg_S km_1877 km_1878 km_138 km_1879) rfl rfl rfl (by decide +kernel) ⟨Nat.le_of_ble_eq_true rfl, Nat.le_of_ble_eq_true rfl⟩) rfl (Nat.le_of_ble_eq_true rfl) ⟨Nat.le_of_ble_eq_true rfl, Nat.le_of_ble_eq_true rfl⟩ ?_
      refine z_if_ne (tgt := 186) X dd_Mo_wordToken_163 (by decide) (fun q72 => ?_) (fun q72 => ?_)
      · rw [if_neg q72] at h
        refine z_sub [1, 3, 4, 0] rfl ?_
        exact t_Mo_wordToken_186 X H h
      · rw [if_pos q72] at h
        refine z_sub [1, 2, 3, 4, 0] rfl ?_
        exact t_Mo_wordToken_166 X H h
  · rw [if_neg q11] at h
    refine z_iload_n X dd_Mo_wordToken_53 rfl 3 rfl ?_
    refine z_iconst (v := 4) X dd_Mo_wordToken_54 (by decide) ?_
    refine z_icmp_gt (tgt := 62) X dd_Mo_wordToken_55 (by decide) (fun q73 => ?_) (fun q73 => ?_)
    · rw [if_pos q73] at h
      refine z_iconst (v := 0) X dd_Mo_wordToken_62 (by decide) ?_
      refine z_sub [1, 2, 3] rfl ?_
      exact t_Mo_wordToken_63 X H h
    · rw [if_neg q73] at h
      refine z_iconst (v := 1) X dd_Mo_wordToken_58 (by decide) ?_
      refine z_goto (tgt := 63) X dd_Mo_wordToken_59 (by decide) ?_
      refine z_sub [1, 2, 3] rfl ?_
      exact t_Mo_wordToken_63 X H h
set_option maxRecDepth 100000 in
set_option maxHeartbeats 4000000 in
theorem c_Mo_wordToken (l : Launch) {nf : Nat} {a0 : Nat} {a1 : Int32} {a2 : Int32} {c : Zc} {res : Zc} (h : f_Mo_wordToken nf a0 a1 a2 c = some res) : zM l yy_Mo_wordToken ww_Mo_wordToken 1 21 0 0 [.ref a0, .int a1, .int a2] c (fun D cid B => zQv D cid B res c.length 0) := by
  refine z_met (cc := bb_Mo_wordToken) (maxL := 8) (ret := none) (by decide +kernel) rfl (Nat.le_of_ble_eq_true rfl) ?_
  intro p e s m args below meth cd D cid B X h1 h2 h3 h4
  have X : zX p s m args cd D cid B bb_Mo_wordToken 8 rr_Mo zT := X
  have H : zH s meth B c.length none "wordToken" := ⟨h1, h2, h4, h3⟩
  unfold f_Mo_wordToken at h
  show Zz p l e (zRm 1 21 0 0) s m args below meth cd _ D cid B 8 0 0 c 0 [(0, .ref a0), (1, .int a1), (2, .int a2)] []
  refine z_aload_n X dd_Mo_wordToken_0 rfl 0 rfl ?_
  obtain ⟨v1, ev1, h⟩ := zb h
  refine z_get (j := 12) X dd_Mo_wordToken_1 kc_12 ki_12 (by decide) km_1533 (zgr_v ev1) ?_
  refine z_iload_n X dd_Mo_wordToken_4 rfl 1 rfl ?_
  obtain ⟨v2, ev2, h⟩ := zb h
  refine z_baload X dd_Mo_wordToken_5 rfl ev2 ?_
  refine z_istore_n (lv' := [(3, .int v2), (0, .ref a0), (1, .int a1), (2, .int a2)]) X dd_Mo_wordToken_6 rfl (by decide) rfl ?_
  refine z_iload_n X dd_Mo_wordToken_7 rfl 3 rfl ?_
  refine z_iconst (v := 1) X dd_Mo_wordToken_8 (by decide) ?_
  refine z_icmp_le (tgt := 23) X dd_Mo_wordToken_9 (by decide) (fun q3 => ?_) (fun q3 => ?_)
  · rw [if_pos q3] at h
    refine z_iconst (v := 0) X dd_Mo_wordToken_23 (by decide) ?_
    refine z_sub [1, 2, 3, 0] rfl ?_
    exact t_Mo_wordToken_24 X H h
  · rw [if_neg q3] at h
    refine z_aload_n X dd_Mo_wordToken_12 rfl 1 rfl ?_
    obtain ⟨v88, ev88, h⟩ := zb h
    refine z_get (j := 12) X dd_Mo_wordToken_13 kc_12 ki_12 (by decide) km_1533 (zgr_v ev88) ?_
    refine z_iload_n X dd_Mo_wordToken_16 rfl 2 rfl ?_
    refine z_iconst (v := 1) X dd_Mo_wordToken_17 (by decide) ?_
    refine z_iadd X dd_Mo_wordToken_18 ?_
    obtain ⟨v89, ev89, h⟩ := zb h
    refine z_baload X dd_Mo_wordToken_19 rfl ev89 ?_
    refine z_goto (tgt := 24) X dd_Mo_wordToken_20 (by decide) ?_
    refine z_sub [1, 2, 3, 0] rfl ?_
    exact t_Mo_wordToken_24 X H h
theorem dd_Mo_signKind_0 : decode bb_Mo_signKind 0 = .ok (.iload_n 0, 1) := by decide +kernel
theorem dd_Mo_signKind_1 : decode bb_Mo_signKind 1 = .ok (.lookupswitch 225 #[(33, 209), (40, 223), (41, 223), (42, 223), (43, 223), (44, 223), (45, 155), (46, 223), (58, 223), (60, 169), (61, 223), (62, 195), (63, 223), (91, 223), (93, 223), (94, 223), (95, 223), (124, 223)], 155) := by decide +kernel
theorem dd_Mo_signKind_156 : decode bb_Mo_signKind 156 = .ok (.iload_n 1, 1) := by decide +kernel
theorem dd_Mo_signKind_157 : decode bb_Mo_signKind 157 = .ok (.bipush 62, 2) := by decide +kernel
theorem dd_Mo_signKind_159 : decode bb_Mo_signKind 159 = .ok (.if_icmp .ne 9, 3) := by decide +kernel
theorem dd_Mo_signKind_162 : decode bb_Mo_signKind 162 = .ok (.sipush 201, 3) := by decide +kernel
theorem dd_Mo_signKind_165 : decode bb_Mo_signKind 165 = .ok (.goto 4, 3) := by decide +kernel
theorem dd_Mo_signKind_168 : decode bb_Mo_signKind 168 = .ok (.iload_n 0, 1) := by decide +kernel
theorem dd_Mo_signKind_169 : decode bb_Mo_signKind 169 = .ok (.ireturn, 1) := by decide +kernel
theorem dd_Mo_signKind_170 : decode bb_Mo_signKind 170 = .ok (.iload_n 1, 1) := by decide +kernel
theorem dd_Mo_signKind_171 : decode bb_Mo_signKind 171 = .ok (.bipush 45, 2) := by decide +kernel
theorem dd_Mo_signKind_173 : decode bb_Mo_signKind 173 = .ok (.if_icmp .ne 9, 3) := by decide +kernel
theorem dd_Mo_signKind_176 : decode bb_Mo_signKind 176 = .ok (.sipush 202, 3) := by decide +kernel
theorem dd_Mo_signKind_179 : decode bb_Mo_signKind 179 = .ok (.goto 16, 3) := by decide +kernel
theorem dd_Mo_signKind_182 : decode bb_Mo_signKind 182 = .ok (.iload_n 1, 1) := by decide +kernel
theorem dd_Mo_signKind_183 : decode bb_Mo_signKind 183 = .ok (.bipush 61, 2) := by decide +kernel
theorem dd_Mo_signKind_185 : decode bb_Mo_signKind 185 = .ok (.if_icmp .ne 9, 3) := by decide +kernel
theorem dd_Mo_signKind_188 : decode bb_Mo_signKind 188 = .ok (.sipush 204, 3) := by decide +kernel
theorem dd_Mo_signKind_191 : decode bb_Mo_signKind 191 = .ok (.goto 4, 3) := by decide +kernel
theorem dd_Mo_signKind_194 : decode bb_Mo_signKind 194 = .ok (.iload_n 0, 1) := by decide +kernel
theorem dd_Mo_signKind_195 : decode bb_Mo_signKind 195 = .ok (.ireturn, 1) := by decide +kernel
theorem dd_Mo_signKind_196 : decode bb_Mo_signKind 196 = .ok (.iload_n 1, 1) := by decide +kernel
theorem dd_Mo_signKind_197 : decode bb_Mo_signKind 197 = .ok (.bipush 61, 2) := by decide +kernel
theorem dd_Mo_signKind_199 : decode bb_Mo_signKind 199 = .ok (.if_icmp .ne 9, 3) := by decide +kernel
theorem dd_Mo_signKind_202 : decode bb_Mo_signKind 202 = .ok (.sipush 205, 3) := by decide +kernel
theorem dd_Mo_signKind_205 : decode bb_Mo_signKind 205 = .ok (.goto 4, 3) := by decide +kernel
theorem dd_Mo_signKind_208 : decode bb_Mo_signKind 208 = .ok (.iload_n 0, 1) := by decide +kernel
theorem dd_Mo_signKind_209 : decode bb_Mo_signKind 209 = .ok (.ireturn, 1) := by decide +kernel
theorem dd_Mo_signKind_210 : decode bb_Mo_signKind 210 = .ok (.iload_n 1, 1) := by decide +kernel
theorem dd_Mo_signKind_211 : decode bb_Mo_signKind 211 = .ok (.bipush 61, 2) := by decide +kernel
theorem dd_Mo_signKind_213 : decode bb_Mo_signKind 213 = .ok (.if_icmp .ne 9, 3) := by decide +kernel
theorem dd_Mo_signKind_216 : decode bb_Mo_signKind 216 = .ok (.sipush 203, 3) := by decide +kernel
theorem dd_Mo_signKind_219 : decode bb_Mo_signKind 219 = .ok (.goto 4, 3) := by decide +kernel
theorem dd_Mo_signKind_222 : decode bb_Mo_signKind 222 = .ok (.iconst 1, 1) := by decide +kernel
theorem dd_Mo_signKind_223 : decode bb_Mo_signKind 223 = .ok (.ireturn, 1) := by decide +kernel
theorem dd_Mo_signKind_224 : decode bb_Mo_signKind 224 = .ok (.iload_n 0, 1) := by decide +kernel
theorem dd_Mo_signKind_225 : decode bb_Mo_signKind 225 = .ok (.ireturn, 1) := by decide +kernel
theorem dd_Mo_signKind_226 : decode bb_Mo_signKind 226 = .ok (.iconst 1, 1) := by decide +kernel
theorem dd_Mo_signKind_227 : decode bb_Mo_signKind 227 = .ok (.ireturn, 1) := by decide +kernel
set_option maxRecDepth 100000 in
set_option maxHeartbeats 4000000 in
theorem t_Mo_signKind_223  (X : zX p s m args cd D cid B bb_Mo_signKind 2 rr_Mo zT) (H : zH s meth B n0 (some (.int)) "signKind") {nf : Nat} {s0 : Int32} {c : Zc} {res : Int32 × Zc} (h : f_Mo_signKind_223 nf s0 c = some res) : Zz p l e (zRm 0 0 0 0) s m args below meth cd (MQ below (zQi D cid B res.1 res.2 n0 0) args s 0 0 (fun q => B ≤ q)) D cid B 2 0 0 c 223 [] [.int s0] := by
  unfold f_Mo_signKind_223 at h
  obtain rfl := Option.some.inj h
  exact z_iret X H.1 H.2.1 H.2.2.1 dd_Mo_signKind_223
set_option maxRecDepth 100000 in
set_option maxHeartbeats 4000000 in
theorem t_Mo_signKind_169  (X : zX p s m args cd D cid B bb_Mo_signKind 2 rr_Mo zT) (H : zH s meth B n0 (some (.int)) "signKind") {nf : Nat} {s0 : Int32} {c : Zc} {res : Int32 × Zc} (h : f_Mo_signKind_169 nf s0 c = some res) : Zz p l e (zRm 0 0 0 0) s m args below meth cd (MQ below (zQi D cid B res.1 res.2 n0 0) args s 0 0 (fun q => B ≤ q)) D cid B 2 0 0 c 169 [] [.int s0] := by
  unfold f_Mo_signKind_169 at h
  obtain rfl := Option.some.inj h
  exact z_iret X H.1 H.2.1 H.2.2.1 dd_Mo_signKind_169
set_option maxRecDepth 100000 in
set_option maxHeartbeats 4000000 in
theorem t_Mo_signKind_195  (X : zX p s m args cd D cid B bb_Mo_signKind 2 rr_Mo zT) (H : zH s meth B n0 (some (.int)) "signKind") {nf : Nat} {s0 : Int32} {c : Zc} {res : Int32 × Zc} (h : f_Mo_signKind_195 nf s0 c = some res) : Zz p l e (zRm 0 0 0 0) s m args below meth cd (MQ below (zQi D cid B res.1 res.2 n0 0) args s 0 0 (fun q => B ≤ q)) D cid B 2 0 0 c 195 [] [.int s0] := by
  unfold f_Mo_signKind_195 at h
  obtain rfl := Option.some.inj h
  exact z_iret X H.1 H.2.1 H.2.2.1 dd_Mo_signKind_195
set_option maxRecDepth 100000 in
set_option maxHeartbeats 4000000 in
theorem t_Mo_signKind_209  (X : zX p s m args cd D cid B bb_Mo_signKind 2 rr_Mo zT) (H : zH s meth B n0 (some (.int)) "signKind") {nf : Nat} {s0 : Int32} {c : Zc} {res : Int32 × Zc} (h : f_Mo_signKind_209 nf s0 c = some res) : Zz p l e (zRm 0 0 0 0) s m args below meth cd (MQ below (zQi D cid B res.1 res.2 n0 0) args s 0 0 (fun q => B ≤ q)) D cid B 2 0 0 c 209 [] [.int s0] := by
  unfold f_Mo_signKind_209 at h
  obtain rfl := Option.some.inj h
  exact z_iret X H.1 H.2.1 H.2.2.1 dd_Mo_signKind_209
set_option maxRecDepth 100000 in
set_option maxHeartbeats 4000000 in
theorem c_Mo_signKind (l : Launch) {nf : Nat} {a0 : Int32} {a1 : Int32} {c : Zc} {res : Int32 × Zc} (h : f_Mo_signKind nf a0 a1 c = some res) : zM l yy_Mo_signKind ww_Mo_signKind 0 0 0 0 [.int a0, .int a1] c (fun D cid B => zQi D cid B res.1 res.2 c.length 0) := by
  refine z_met (cc := bb_Mo_signKind) (maxL := 2) (ret := (some (.int))) (by decide +kernel) rfl (Nat.le_of_ble_eq_true rfl) ?_
  intro p e s m args below meth cd D cid B X h1 h2 h3 h4
  have X : zX p s m args cd D cid B bb_Mo_signKind 2 rr_Mo zT := X
  have H : zH s meth B c.length (some (.int)) "signKind" := ⟨h1, h2, h4, h3⟩
  unfold f_Mo_signKind at h
  show Zz p l e (zRm 0 0 0 0) s m args below meth cd _ D cid B 2 0 0 c 0 [(0, .int a0), (1, .int a1)] []
  refine z_iload_n X dd_Mo_signKind_0 rfl 0 rfl ?_
  by_cases q1 : a0 = 33
  · rw [if_pos q1] at h
    refine z_lookup (tgt := 210) (off := 209) X dd_Mo_signKind_1 (by decide) (by rw [q1]; decide) (by decide) ?_
    refine z_iload_n X dd_Mo_signKind_210 rfl 1 rfl ?_
    refine z_bipush (v := 61) X dd_Mo_signKind_211 (by decide) ?_
    refine z_icmp_ne (tgt := 222) X dd_Mo_signKind_213 (by decide) (fun q2 => ?_) (fun q2 => ?_)
    · rw [if_neg q2] at h
      refine z_iconst (v := 1) X dd_Mo_signKind_222 (by decide) ?_
      refine z_sub [] rfl ?_
      exact t_Mo_signKind_223 X H h
    · rw [if_pos q2] at h
      refine z_sipush (v := 203) X dd_Mo_signKind_216 (by decide) ?_
      refine z_goto (tgt := 223) X dd_Mo_signKind_219 (by decide) ?_
      refine z_sub [] rfl ?_
      exact t_Mo_signKind_223 X H h
  rw [if_neg q1] at h
  by_cases q3 : a0 = 40
  · rw [if_pos q3] at h
    refine z_lookup (tgt := 224) (off := 223) X dd_Mo_signKind_1 (by decide) (by rw [q3]; decide) (by decide) ?_
    refine z_iload_n X dd_Mo_signKind_224 rfl 0 rfl ?_
    obtain rfl := Option.some.inj h
    exact z_iret X H.1 H.2.1 H.2.2.1 dd_Mo_signKind_225
  rw [if_neg q3] at h
  by_cases q4 : a0 = 41
  · rw [if_pos q4] at h
    refine z_lookup (tgt := 224) (off := 223) X dd_Mo_signKind_1 (by decide) (by rw [q4]; decide) (by decide) ?_
    refine z_iload_n X dd_Mo_signKind_224 rfl 0 rfl ?_
    obtain rfl := Option.some.inj h
    exact z_iret X H.1 H.2.1 H.2.2.1 dd_Mo_signKind_225
  rw [if_neg q4] at h
  by_cases q5 : a0 = 42
  · rw [if_pos q5] at h
    refine z_lookup (tgt := 224) (off := 223) X dd_Mo_signKind_1 (by decide) (by rw [q5]; decide) (by decide) ?_
    refine z_iload_n X dd_Mo_signKind_224 rfl 0 rfl ?_
    obtain rfl := Option.some.inj h
    exact z_iret X H.1 H.2.1 H.2.2.1 dd_Mo_signKind_225
  rw [if_neg q5] at h
  by_cases q6 : a0 = 43
  · rw [if_pos q6] at h
    refine z_lookup (tgt := 224) (off := 223) X dd_Mo_signKind_1 (by decide) (by rw [q6]; decide) (by decide) ?_
    refine z_iload_n X dd_Mo_signKind_224 rfl 0 rfl ?_
    obtain rfl := Option.some.inj h
    exact z_iret X H.1 H.2.1 H.2.2.1 dd_Mo_signKind_225
  rw [if_neg q6] at h
  by_cases q7 : a0 = 44
  · rw [if_pos q7] at h
    refine z_lookup (tgt := 224) (off := 223) X dd_Mo_signKind_1 (by decide) (by rw [q7]; decide) (by decide) ?_
    refine z_iload_n X dd_Mo_signKind_224 rfl 0 rfl ?_
    obtain rfl := Option.some.inj h
    exact z_iret X H.1 H.2.1 H.2.2.1 dd_Mo_signKind_225
  rw [if_neg q7] at h
  by_cases q8 : a0 = 45
  · rw [if_pos q8] at h
    refine z_lookup (tgt := 156) (off := 155) X dd_Mo_signKind_1 (by decide) (by rw [q8]; decide) (by decide) ?_
    refine z_iload_n X dd_Mo_signKind_156 rfl 1 rfl ?_
    refine z_bipush (v := 62) X dd_Mo_signKind_157 (by decide) ?_
    refine z_icmp_ne (tgt := 168) X dd_Mo_signKind_159 (by decide) (fun q9 => ?_) (fun q9 => ?_)
    · rw [if_neg q9] at h
      refine z_iload_n X dd_Mo_signKind_168 rfl 0 rfl ?_
      refine z_sub [] rfl ?_
      exact t_Mo_signKind_169 X H h
    · rw [if_pos q9] at h
      refine z_sipush (v := 201) X dd_Mo_signKind_162 (by decide) ?_
      refine z_goto (tgt := 169) X dd_Mo_signKind_165 (by decide) ?_
      refine z_sub [] rfl ?_
      exact t_Mo_signKind_169 X H h
  rw [if_neg q8] at h
  by_cases q10 : a0 = 46
  · rw [if_pos q10] at h
    refine z_lookup (tgt := 224) (off := 223) X dd_Mo_signKind_1 (by decide) (by rw [q10]; decide) (by decide) ?_
    refine z_iload_n X dd_Mo_signKind_224 rfl 0 rfl ?_
    obtain rfl := Option.some.inj h
    exact z_iret X H.1 H.2.1 H.2.2.1 dd_Mo_signKind_225
  rw [if_neg q10] at h
  by_cases q11 : a0 = 58
  · rw [if_pos q11] at h
    refine z_lookup (tgt := 224) (off := 223) X dd_Mo_signKind_1 (by decide) (by rw [q11]; decide) (by decide) ?_
    refine z_iload_n X dd_Mo_signKind_224 rfl 0 rfl ?_
    obtain rfl := Option.some.inj h
    exact z_iret X H.1 H.2.1 H.2.2.1 dd_Mo_signKind_225
  rw [if_neg q11] at h
  by_cases q12 : a0 = 60
  · rw [if_pos q12] at h
    refine z_lookup (tgt := 170) (off := 169) X dd_Mo_signKind_1 (by decide) (by rw [q12]; decide) (by decide) ?_
    refine z_iload_n X dd_Mo_signKind_170 rfl 1 rfl ?_
    refine z_bipush (v := 45) X dd_Mo_signKind_171 (by decide) ?_
    refine z_icmp_ne (tgt := 182) X dd_Mo_signKind_173 (by decide) (fun q13 => ?_) (fun q13 => ?_)
    · rw [if_neg q13] at h
      refine z_iload_n X dd_Mo_signKind_182 rfl 1 rfl ?_
      refine z_bipush (v := 61) X dd_Mo_signKind_183 (by decide) ?_
      refine z_icmp_ne (tgt := 194) X dd_Mo_signKind_185 (by decide) (fun q14 => ?_) (fun q14 => ?_)
      · rw [if_neg q14] at h
        refine z_iload_n X dd_Mo_signKind_194 rfl 0 rfl ?_
        refine z_sub [] rfl ?_
        exact t_Mo_signKind_195 X H h
      · rw [if_pos q14] at h
        refine z_sipush (v := 204) X dd_Mo_signKind_188 (by decide) ?_
        refine z_goto (tgt := 195) X dd_Mo_signKind_191 (by decide) ?_
        refine z_sub [] rfl ?_
        exact t_Mo_signKind_195 X H h
    · rw [if_pos q13] at h
      refine z_sipush (v := 202) X dd_Mo_signKind_176 (by decide) ?_
      refine z_goto (tgt := 195) X dd_Mo_signKind_179 (by decide) ?_
      refine z_sub [] rfl ?_
      exact t_Mo_signKind_195 X H h
  rw [if_neg q12] at h
  by_cases q15 : a0 = 61
  · rw [if_pos q15] at h
    refine z_lookup (tgt := 224) (off := 223) X dd_Mo_signKind_1 (by decide) (by rw [q15]; decide) (by decide) ?_
    refine z_iload_n X dd_Mo_signKind_224 rfl 0 rfl ?_
    obtain rfl := Option.some.inj h
    exact z_iret X H.1 H.2.1 H.2.2.1 dd_Mo_signKind_225
  rw [if_neg q15] at h
  by_cases q16 : a0 = 62
  · rw [if_pos q16] at h
    refine z_lookup (tgt := 196) (off := 195) X dd_Mo_signKind_1 (by decide) (by rw [q16]; decide) (by decide) ?_
    refine z_iload_n X dd_Mo_signKind_196 rfl 1 rfl ?_
    refine z_bipush (v := 61) X dd_Mo_signKind_197 (by decide) ?_
    refine z_icmp_ne (tgt := 208) X dd_Mo_signKind_199 (by decide) (fun q17 => ?_) (fun q17 => ?_)
    · rw [if_neg q17] at h
      refine z_iload_n X dd_Mo_signKind_208 rfl 0 rfl ?_
      refine z_sub [] rfl ?_
      exact t_Mo_signKind_209 X H h
    · rw [if_pos q17] at h
      refine z_sipush (v := 205) X dd_Mo_signKind_202 (by decide) ?_
      refine z_goto (tgt := 209) X dd_Mo_signKind_205 (by decide) ?_
      refine z_sub [] rfl ?_
      exact t_Mo_signKind_209 X H h
  rw [if_neg q16] at h
  by_cases q18 : a0 = 63
  · rw [if_pos q18] at h
    refine z_lookup (tgt := 224) (off := 223) X dd_Mo_signKind_1 (by decide) (by rw [q18]; decide) (by decide) ?_
    refine z_iload_n X dd_Mo_signKind_224 rfl 0 rfl ?_
    obtain rfl := Option.some.inj h
    exact z_iret X H.1 H.2.1 H.2.2.1 dd_Mo_signKind_225
  rw [if_neg q18] at h
  by_cases q19 : a0 = 91
  · rw [if_pos q19] at h
    refine z_lookup (tgt := 224) (off := 223) X dd_Mo_signKind_1 (by decide) (by rw [q19]; decide) (by decide) ?_
    refine z_iload_n X dd_Mo_signKind_224 rfl 0 rfl ?_
    obtain rfl := Option.some.inj h
    exact z_iret X H.1 H.2.1 H.2.2.1 dd_Mo_signKind_225
  rw [if_neg q19] at h
  by_cases q20 : a0 = 93
  · rw [if_pos q20] at h
    refine z_lookup (tgt := 224) (off := 223) X dd_Mo_signKind_1 (by decide) (by rw [q20]; decide) (by decide) ?_
    refine z_iload_n X dd_Mo_signKind_224 rfl 0 rfl ?_
    obtain rfl := Option.some.inj h
    exact z_iret X H.1 H.2.1 H.2.2.1 dd_Mo_signKind_225
  rw [if_neg q20] at h
  by_cases q21 : a0 = 94
  · rw [if_pos q21] at h
    refine z_lookup (tgt := 224) (off := 223) X dd_Mo_signKind_1 (by decide) (by rw [q21]; decide) (by decide) ?_
    refine z_iload_n X dd_Mo_signKind_224 rfl 0 rfl ?_
    obtain rfl := Option.some.inj h
    exact z_iret X H.1 H.2.1 H.2.2.1 dd_Mo_signKind_225
  rw [if_neg q21] at h
  by_cases q22 : a0 = 95
  · rw [if_pos q22] at h
    refine z_lookup (tgt := 224) (off := 223) X dd_Mo_signKind_1 (by decide) (by rw [q22]; decide) (by decide) ?_
    refine z_iload_n X dd_Mo_signKind_224 rfl 0 rfl ?_
    obtain rfl := Option.some.inj h
    exact z_iret X H.1 H.2.1 H.2.2.1 dd_Mo_signKind_225
  rw [if_neg q22] at h
  by_cases q23 : a0 = 124
  · rw [if_pos q23] at h
    refine z_lookup (tgt := 224) (off := 223) X dd_Mo_signKind_1 (by decide) (by rw [q23]; decide) (by decide) ?_
    refine z_iload_n X dd_Mo_signKind_224 rfl 0 rfl ?_
    obtain rfl := Option.some.inj h
    exact z_iret X H.1 H.2.1 H.2.2.1 dd_Mo_signKind_225
  rw [if_neg q23] at h
  refine z_lookup (tgt := 226) (off := 225) X dd_Mo_signKind_1 (by decide) ((lv_osw q1 (by decide)).trans ((lv_osw q3 (by decide)).trans ((lv_osw q4 (by decide)).trans ((lv_osw q5 (by decide)).trans ((lv_osw q6 (by decide)).trans ((lv_osw q7 (by decide)).trans ((lv_osw q8 (by decide)).trans ((lv_osw q10 (by decide)).trans ((lv_osw q11 (by decide)).trans ((lv_osw q12 (by decide)).trans ((lv_osw q15 (by decide)).trans ((lv_osw q16 (by decide)).trans ((lv_osw q18 (by decide)).trans ((lv_osw q19 (by decide)).trans ((lv_osw q20 (by decide)).trans ((lv_osw q21 (by decide)).trans ((lv_osw q22 (by decide)).trans ((lv_osw q23 (by decide)).trans rfl)))))))))))))))))) (by decide) ?_
  refine z_iconst (v := 1) X dd_Mo_signKind_226 (by decide) ?_
  obtain rfl := Option.some.inj h
  exact z_iret X H.1 H.2.1 H.2.2.1 dd_Mo_signKind_227
theorem dd_Mo_cutTokens_0 : decode bb_Mo_cutTokens 0 = .ok (.aload_n 0, 1) := by decide +kernel
theorem dd_Mo_cutTokens_1 : decode bb_Mo_cutTokens 1 = .ok (.iconst 0, 1) := by decide +kernel
theorem dd_Mo_cutTokens_2 : decode bb_Mo_cutTokens 2 = .ok (.putfield 242, 3) := by decide +kernel
theorem dd_Mo_cutTokens_5 : decode bb_Mo_cutTokens 5 = .ok (.iconst 0, 1) := by decide +kernel
theorem dd_Mo_cutTokens_6 : decode bb_Mo_cutTokens 6 = .ok (.istore_n 2, 1) := by decide +kernel
theorem dd_Mo_cutTokens_7 : decode bb_Mo_cutTokens 7 = .ok (.iload_n 2, 1) := by decide +kernel
theorem dd_Mo_cutTokens_8 : decode bb_Mo_cutTokens 8 = .ok (.iload_n 1, 1) := by decide +kernel
theorem dd_Mo_cutTokens_9 : decode bb_Mo_cutTokens 9 = .ok (.if_icmp .ge 164, 3) := by decide +kernel
theorem dd_Mo_cutTokens_12 : decode bb_Mo_cutTokens 12 = .ok (.aload_n 0, 1) := by decide +kernel
theorem dd_Mo_cutTokens_13 : decode bb_Mo_cutTokens 13 = .ok (.iload_n 2, 1) := by decide +kernel
theorem dd_Mo_cutTokens_14 : decode bb_Mo_cutTokens 14 = .ok (.iload_n 1, 1) := by decide +kernel
theorem dd_Mo_cutTokens_15 : decode bb_Mo_cutTokens 15 = .ok (.invokevirtual 280, 3) := by decide +kernel
theorem dd_Mo_cutTokens_18 : decode bb_Mo_cutTokens 18 = .ok (.istore_n 3, 1) := by decide +kernel
theorem dd_Mo_cutTokens_19 : decode bb_Mo_cutTokens 19 = .ok (.iload_n 3, 1) := by decide +kernel
theorem dd_Mo_cutTokens_20 : decode bb_Mo_cutTokens 20 = .ok (.bipush 9, 2) := by decide +kernel
theorem dd_Mo_cutTokens_22 : decode bb_Mo_cutTokens 22 = .ok (.if_icmp .eq 21, 3) := by decide +kernel
theorem dd_Mo_cutTokens_25 : decode bb_Mo_cutTokens 25 = .ok (.iload_n 3, 1) := by decide +kernel
theorem dd_Mo_cutTokens_26 : decode bb_Mo_cutTokens 26 = .ok (.bipush 10, 2) := by decide +kernel
theorem dd_Mo_cutTokens_28 : decode bb_Mo_cutTokens 28 = .ok (.if_icmp .eq 15, 3) := by decide +kernel
theorem dd_Mo_cutTokens_31 : decode bb_Mo_cutTokens 31 = .ok (.iload_n 3, 1) := by decide +kernel
theorem dd_Mo_cutTokens_32 : decode bb_Mo_cutTokens 32 = .ok (.bipush 13, 2) := by decide +kernel
theorem dd_Mo_cutTokens_34 : decode bb_Mo_cutTokens 34 = .ok (.if_icmp .eq 9, 3) := by decide +kernel
theorem dd_Mo_cutTokens_37 : decode bb_Mo_cutTokens 37 = .ok (.iload_n 3, 1) := by decide +kernel
theorem dd_Mo_cutTokens_38 : decode bb_Mo_cutTokens 38 = .ok (.bipush 32, 2) := by decide +kernel
theorem dd_Mo_cutTokens_40 : decode bb_Mo_cutTokens 40 = .ok (.if_icmp .ne 9, 3) := by decide +kernel
theorem dd_Mo_cutTokens_43 : decode bb_Mo_cutTokens 43 = .ok (.iinc 2 1, 3) := by decide +kernel
theorem dd_Mo_cutTokens_46 : decode bb_Mo_cutTokens 46 = .ok (.goto 124, 3) := by decide +kernel
theorem dd_Mo_cutTokens_49 : decode bb_Mo_cutTokens 49 = .ok (.iload_n 2, 1) := by decide +kernel
theorem dd_Mo_cutTokens_50 : decode bb_Mo_cutTokens 50 = .ok (.iconst 1, 1) := by decide +kernel
theorem dd_Mo_cutTokens_51 : decode bb_Mo_cutTokens 51 = .ok (.iadd, 1) := by decide +kernel
theorem dd_Mo_cutTokens_52 : decode bb_Mo_cutTokens 52 = .ok (.istore 4, 2) := by decide +kernel
theorem dd_Mo_cutTokens_54 : decode bb_Mo_cutTokens 54 = .ok (.aload_n 0, 1) := by decide +kernel
theorem dd_Mo_cutTokens_55 : decode bb_Mo_cutTokens 55 = .ok (.getfield 49, 3) := by decide +kernel
theorem dd_Mo_cutTokens_58 : decode bb_Mo_cutTokens 58 = .ok (.aload_n 0, 1) := by decide +kernel
theorem dd_Mo_cutTokens_59 : decode bb_Mo_cutTokens 59 = .ok (.getfield 242, 3) := by decide +kernel
theorem dd_Mo_cutTokens_62 : decode bb_Mo_cutTokens 62 = .ok (.iload_n 2, 1) := by decide +kernel
theorem dd_Mo_cutTokens_63 : decode bb_Mo_cutTokens 63 = .ok (.iastore, 1) := by decide +kernel
theorem dd_Mo_cutTokens_64 : decode bb_Mo_cutTokens 64 = .ok (.iload_n 3, 1) := by decide +kernel
theorem dd_Mo_cutTokens_65 : decode bb_Mo_cutTokens 65 = .ok (.invokestatic 284, 3) := by decide +kernel
theorem dd_Mo_cutTokens_68 : decode bb_Mo_cutTokens 68 = .ok (.ifCond .eq 34, 3) := by decide +kernel
theorem dd_Mo_cutTokens_71 : decode bb_Mo_cutTokens 71 = .ok (.aload_n 0, 1) := by decide +kernel
theorem dd_Mo_cutTokens_72 : decode bb_Mo_cutTokens 72 = .ok (.iload 4, 2) := by decide +kernel
theorem dd_Mo_cutTokens_74 : decode bb_Mo_cutTokens 74 = .ok (.iload_n 1, 1) := by decide +kernel
theorem dd_Mo_cutTokens_75 : decode bb_Mo_cutTokens 75 = .ok (.invokevirtual 280, 3) := by decide +kernel
theorem dd_Mo_cutTokens_78 : decode bb_Mo_cutTokens 78 = .ok (.invokestatic 284, 3) := by decide +kernel
theorem dd_Mo_cutTokens_81 : decode bb_Mo_cutTokens 81 = .ok (.ifCond .eq 9, 3) := by decide +kernel
theorem dd_Mo_cutTokens_84 : decode bb_Mo_cutTokens 84 = .ok (.iinc 4 1, 3) := by decide +kernel
theorem dd_Mo_cutTokens_87 : decode bb_Mo_cutTokens 87 = .ok (.goto (-16), 3) := by decide +kernel
theorem dd_Mo_cutTokens_90 : decode bb_Mo_cutTokens 90 = .ok (.aload_n 0, 1) := by decide +kernel
theorem dd_Mo_cutTokens_91 : decode bb_Mo_cutTokens 91 = .ok (.iload_n 2, 1) := by decide +kernel
theorem dd_Mo_cutTokens_92 : decode bb_Mo_cutTokens 92 = .ok (.iload 4, 2) := by decide +kernel
theorem dd_Mo_cutTokens_94 : decode bb_Mo_cutTokens 94 = .ok (.iload_n 2, 1) := by decide +kernel
theorem dd_Mo_cutTokens_95 : decode bb_Mo_cutTokens 95 = .ok (.isub, 1) := by decide +kernel
theorem dd_Mo_cutTokens_96 : decode bb_Mo_cutTokens 96 = .ok (.invokevirtual 287, 3) := by decide +kernel
theorem dd_Mo_cutTokens_99 : decode bb_Mo_cutTokens 99 = .ok (.goto 58, 3) := by decide +kernel
theorem dd_Mo_cutTokens_102 : decode bb_Mo_cutTokens 102 = .ok (.aload_n 0, 1) := by decide +kernel
theorem dd_Mo_cutTokens_103 : decode bb_Mo_cutTokens 103 = .ok (.getfield 43, 3) := by decide +kernel
theorem dd_Mo_cutTokens_106 : decode bb_Mo_cutTokens 106 = .ok (.aload_n 0, 1) := by decide +kernel
theorem dd_Mo_cutTokens_107 : decode bb_Mo_cutTokens 107 = .ok (.getfield 242, 3) := by decide +kernel
theorem dd_Mo_cutTokens_110 : decode bb_Mo_cutTokens 110 = .ok (.iload_n 3, 1) := by decide +kernel
theorem dd_Mo_cutTokens_111 : decode bb_Mo_cutTokens 111 = .ok (.aload_n 0, 1) := by decide +kernel
theorem dd_Mo_cutTokens_112 : decode bb_Mo_cutTokens 112 = .ok (.iload 4, 2) := by decide +kernel
theorem dd_Mo_cutTokens_114 : decode bb_Mo_cutTokens 114 = .ok (.iload_n 1, 1) := by decide +kernel
theorem dd_Mo_cutTokens_115 : decode bb_Mo_cutTokens 115 = .ok (.invokevirtual 280, 3) := by decide +kernel
theorem dd_Mo_cutTokens_118 : decode bb_Mo_cutTokens 118 = .ok (.invokestatic 291, 3) := by decide +kernel
theorem dd_Mo_cutTokens_121 : decode bb_Mo_cutTokens 121 = .ok (.iastore, 1) := by decide +kernel
theorem dd_Mo_cutTokens_122 : decode bb_Mo_cutTokens 122 = .ok (.aload_n 0, 1) := by decide +kernel
theorem dd_Mo_cutTokens_123 : decode bb_Mo_cutTokens 123 = .ok (.getfield 46, 3) := by decide +kernel
theorem dd_Mo_cutTokens_126 : decode bb_Mo_cutTokens 126 = .ok (.aload_n 0, 1) := by decide +kernel
theorem dd_Mo_cutTokens_127 : decode bb_Mo_cutTokens 127 = .ok (.getfield 242, 3) := by decide +kernel
theorem dd_Mo_cutTokens_130 : decode bb_Mo_cutTokens 130 = .ok (.iconst 0, 1) := by decide +kernel
theorem dd_Mo_cutTokens_131 : decode bb_Mo_cutTokens 131 = .ok (.iastore, 1) := by decide +kernel
theorem dd_Mo_cutTokens_132 : decode bb_Mo_cutTokens 132 = .ok (.iload 4, 2) := by decide +kernel
theorem dd_Mo_cutTokens_134 : decode bb_Mo_cutTokens 134 = .ok (.aload_n 0, 1) := by decide +kernel
theorem dd_Mo_cutTokens_135 : decode bb_Mo_cutTokens 135 = .ok (.getfield 43, 3) := by decide +kernel
theorem dd_Mo_cutTokens_138 : decode bb_Mo_cutTokens 138 = .ok (.aload_n 0, 1) := by decide +kernel
theorem dd_Mo_cutTokens_139 : decode bb_Mo_cutTokens 139 = .ok (.getfield 242, 3) := by decide +kernel
theorem dd_Mo_cutTokens_142 : decode bb_Mo_cutTokens 142 = .ok (.iaload, 1) := by decide +kernel
theorem dd_Mo_cutTokens_143 : decode bb_Mo_cutTokens 143 = .ok (.sipush 200, 3) := by decide +kernel
theorem dd_Mo_cutTokens_146 : decode bb_Mo_cutTokens 146 = .ok (.if_icmp .le 7, 3) := by decide +kernel
theorem dd_Mo_cutTokens_149 : decode bb_Mo_cutTokens 149 = .ok (.iconst 1, 1) := by decide +kernel
theorem dd_Mo_cutTokens_150 : decode bb_Mo_cutTokens 150 = .ok (.goto 4, 3) := by decide +kernel
theorem dd_Mo_cutTokens_153 : decode bb_Mo_cutTokens 153 = .ok (.iconst 0, 1) := by decide +kernel
theorem dd_Mo_cutTokens_154 : decode bb_Mo_cutTokens 154 = .ok (.iadd, 1) := by decide +kernel
theorem dd_Mo_cutTokens_155 : decode bb_Mo_cutTokens 155 = .ok (.istore 4, 2) := by decide +kernel
theorem dd_Mo_cutTokens_157 : decode bb_Mo_cutTokens 157 = .ok (.aload_n 0, 1) := by decide +kernel
theorem dd_Mo_cutTokens_158 : decode bb_Mo_cutTokens 158 = .ok (.dup, 1) := by decide +kernel
theorem dd_Mo_cutTokens_159 : decode bb_Mo_cutTokens 159 = .ok (.getfield 242, 3) := by decide +kernel
theorem dd_Mo_cutTokens_162 : decode bb_Mo_cutTokens 162 = .ok (.iconst 1, 1) := by decide +kernel
theorem dd_Mo_cutTokens_163 : decode bb_Mo_cutTokens 163 = .ok (.iadd, 1) := by decide +kernel
theorem dd_Mo_cutTokens_164 : decode bb_Mo_cutTokens 164 = .ok (.putfield 242, 3) := by decide +kernel
theorem dd_Mo_cutTokens_167 : decode bb_Mo_cutTokens 167 = .ok (.iload 4, 2) := by decide +kernel
theorem dd_Mo_cutTokens_169 : decode bb_Mo_cutTokens 169 = .ok (.istore_n 2, 1) := by decide +kernel
theorem dd_Mo_cutTokens_170 : decode bb_Mo_cutTokens 170 = .ok (.goto (-163), 3) := by decide +kernel
theorem dd_Mo_cutTokens_173 : decode bb_Mo_cutTokens 173 = .ok (.aload_n 0, 1) := by decide +kernel
theorem dd_Mo_cutTokens_174 : decode bb_Mo_cutTokens 174 = .ok (.getfield 43, 3) := by decide +kernel
theorem dd_Mo_cutTokens_177 : decode bb_Mo_cutTokens 177 = .ok (.aload_n 0, 1) := by decide +kernel
theorem dd_Mo_cutTokens_178 : decode bb_Mo_cutTokens 178 = .ok (.getfield 242, 3) := by decide +kernel
theorem dd_Mo_cutTokens_181 : decode bb_Mo_cutTokens 181 = .ok (.iconst 0, 1) := by decide +kernel
theorem dd_Mo_cutTokens_182 : decode bb_Mo_cutTokens 182 = .ok (.iastore, 1) := by decide +kernel
theorem dd_Mo_cutTokens_183 : decode bb_Mo_cutTokens 183 = .ok (.aload_n 0, 1) := by decide +kernel
theorem dd_Mo_cutTokens_184 : decode bb_Mo_cutTokens 184 = .ok (.getfield 49, 3) := by decide +kernel
theorem dd_Mo_cutTokens_187 : decode bb_Mo_cutTokens 187 = .ok (.aload_n 0, 1) := by decide +kernel
theorem dd_Mo_cutTokens_188 : decode bb_Mo_cutTokens 188 = .ok (.getfield 242, 3) := by decide +kernel
theorem dd_Mo_cutTokens_191 : decode bb_Mo_cutTokens 191 = .ok (.iload_n 1, 1) := by decide +kernel
theorem dd_Mo_cutTokens_192 : decode bb_Mo_cutTokens 192 = .ok (.iastore, 1) := by decide +kernel
theorem dd_Mo_cutTokens_193 : decode bb_Mo_cutTokens 193 = .ok (.return_, 1) := by decide +kernel
set_option maxRecDepth 100000 in
set_option maxHeartbeats 4000000 in
theorem t_Mo_cutTokens_170  (X : zX p s m args cd D cid B bb_Mo_cutTokens 5 rr_Mo zT) (H : zH s meth B n0 none "cutTokens") {nf : Nat} {x0 : Nat} {x1 : Int32} {x2 : Int32} {c : Zc} {r : (Nat × Int32 × Int32 × Zc) ⊕ (Nat × Int32 × Zc)} (h : f_Mo_cutTokens_170 nf x0 x1 x2 c = some r) (k0 : ∀ a, r = .inl a → (fun a : Nat × Int32 × Int32 × Zc => Zz p l e (zRm 2 48 0 0) s m args below meth cd Q D cid B 5 0 0 a.2.2.2 7 [(0, .ref a.1), (1, .int a.2.1), (2, .int a.2.2.1)] []) a) (k1 : ∀ b, r = .inr b → (fun b : Nat × Int32 × Zc => Zz p l e (zRm 2 48 0 0) s m args below meth cd Q D cid B 5 0 0 b.2.2 173 [(0, .ref b.1), (1, .int b.2.1)] []) b) : Zz p l e (zRm 2 48 0 0) s m args below meth cd Q D cid B 5 0 0 c 170 [(0, .ref x0), (1, .int x1), (2, .int x2)] [] := by
  unfold f_Mo_cutTokens_170 at h
  refine z_goto (tgt := 7) X dd_Mo_cutTokens_170 (by decide) ?_
  obtain rfl := Option.some.inj h
  exact k0 _ rfl
set_option maxRecDepth 100000 in
set_option maxHeartbeats 4000000 in
theorem t_Mo_cutTokens_43  (X : zX p s m args cd D cid B bb_Mo_cutTokens 5 rr_Mo zT) (H : zH s meth B n0 none "cutTokens") {nf : Nat} {x0 : Nat} {x1 : Int32} {x2 : Int32} {c : Zc} {r : (Nat × Int32 × Int32 × Zc) ⊕ (Nat × Int32 × Zc)} (h : f_Mo_cutTokens_43 nf x0 x1 x2 c = some r) (k0 : ∀ a, r = .inl a → (fun a : Nat × Int32 × Int32 × Zc => Zz p l e (zRm 2 48 0 0) s m args below meth cd Q D cid B 5 0 0 a.2.2.2 7 [(0, .ref a.1), (1, .int a.2.1), (2, .int a.2.2.1)] []) a) (k1 : ∀ b, r = .inr b → (fun b : Nat × Int32 × Zc => Zz p l e (zRm 2 48 0 0) s m args below meth cd Q D cid B 5 0 0 b.2.2 173 [(0, .ref b.1), (1, .int b.2.1)] []) b) : Zz p l e (zRm 2 48 0 0) s m args below meth cd Q D cid B 5 0 0 c 43 [(0, .ref x0), (1, .int x1), (2, .int x2)] [] := by
  unfold f_Mo_cutTokens_43 at h
  refine z_iinc (v := (x2 + 1)) (lv' := [(2, .int (x2 + 1)), (0, .ref x0), (1, .int x1)]) X dd_Mo_cutTokens_43 2 rfl rfl (by decide) rfl ?_
  refine z_goto (tgt := 170) X dd_Mo_cutTokens_46 (by decide) ?_
  refine z_sub [1, 2, 0] rfl ?_
  exact t_Mo_cutTokens_170 X H h k0 k1
set_option maxRecDepth 100000 in
set_option maxHeartbeats 4000000 in
theorem t_Mo_cutTokens_157  (X : zX p s m args cd D cid B bb_Mo_cutTokens 5 rr_Mo zT) (H : zH s meth B n0 none "cutTokens") {nf : Nat} {x0 : Nat} {x1 : Int32} {x4 : Int32} {c : Zc} {r : (Nat × Int32 × Int32 × Zc) ⊕ (Nat × Int32 × Zc)} (h : f_Mo_cutTokens_157 nf x0 x1 x4 c = some r) (k0 : ∀ a, r = .inl a → (fun a : Nat × Int32 × Int32 × Zc => Zz p l e (zRm 2 48 0 0) s m args below meth cd Q D cid B 5 0 0 a.2.2.2 7 [(0, .ref a.1), (1, .int a.2.1), (2, .int a.2.2.1)] []) a) (k1 : ∀ b, r = .inr b → (fun b : Nat × Int32 × Zc => Zz p l e (zRm 2 48 0 0) s m args below meth cd Q D cid B 5 0 0 b.2.2 173 [(0, .ref b.1), (1, .int b.2.1)] []) b) : Zz p l e (zRm 2 48 0 0) s m args below meth cd Q D cid B 5 0 0 c 157 [(0, .ref x0), (1, .int x1), (4, .int x4)] [] := by
  unfold f_Mo_cutTokens_157 at h
  refine z_aload_n X dd_Mo_cutTokens_157 rfl 0 rfl ?_
  refine z_dup X dd_Mo_cutTokens_158 rfl ?_
  obtain ⟨v27, ev27, h⟩ := zb h
  refine z_get (j := 17) X dd_Mo_cutTokens_159 kc_12 ki_12 (by decide) km_1538 (zgi_v ev27) ?_
  refine z_iconst (v := 1) X dd_Mo_cutTokens_162 (by decide) ?_
  refine z_iadd X dd_Mo_cutTokens_163 ?_
  obtain ⟨c28, ec28, h⟩ := zb h
  refine z_put (j := 17) X dd_Mo_cutTokens_164 kc_12 ki_12 tt_Mo tk_Mo nn_Mo (by decide) km_1538 rfl (tk_Mo 17 (by decide)) rfl rfl ec28 ?_
  refine z_iload X dd_Mo_cutTokens_167 2 rfl ?_
  refine z_istore_n (lv' := [(2, .int x4), (0, .ref x0), (1, .int x1), (4, .int x4)]) X dd_Mo_cutTokens_169 rfl (by decide) rfl ?_
  refine z_sub [1, 2, 0] rfl ?_
  exact t_Mo_cutTokens_170 X H h k0 k1
set_option maxRecDepth 100000 in
set_option maxHeartbeats 4000000 in
theorem t_Mo_cutTokens_154  (X : zX p s m args cd D cid B bb_Mo_cutTokens 5 rr_Mo zT) (H : zH s meth B n0 none "cutTokens") {nf : Nat} {x0 : Nat} {x1 : Int32} {s0 : Int32} {s1 : Int32} {c : Zc} {r : (Nat × Int32 × Int32 × Zc) ⊕ (Nat × Int32 × Zc)} (h : f_Mo_cutTokens_154 nf x0 x1 s0 s1 c = some r) (k0 : ∀ a, r = .inl a → (fun a : Nat × Int32 × Int32 × Zc => Zz p l e (zRm 2 48 0 0) s m args below meth cd Q D cid B 5 0 0 a.2.2.2 7 [(0, .ref a.1), (1, .int a.2.1), (2, .int a.2.2.1)] []) a) (k1 : ∀ b, r = .inr b → (fun b : Nat × Int32 × Zc => Zz p l e (zRm 2 48 0 0) s m args below meth cd Q D cid B 5 0 0 b.2.2 173 [(0, .ref b.1), (1, .int b.2.1)] []) b) : Zz p l e (zRm 2 48 0 0) s m args below meth cd Q D cid B 5 0 0 c 154 [(0, .ref x0), (1, .int x1)] [.int s1, .int s0] := by
  unfold f_Mo_cutTokens_154 at h
  refine z_iadd X dd_Mo_cutTokens_154 ?_
  refine z_istore (lv' := [(4, .int (s0 + s1)), (0, .ref x0), (1, .int x1)]) X dd_Mo_cutTokens_155 (by decide) rfl ?_
  refine z_sub [1, 2, 0] rfl ?_
  exact t_Mo_cutTokens_157 X H h k0 k1
set_option maxRecDepth 100000 in
set_option maxHeartbeats 4000000 in
theorem u_Mo_cutTokens_71  (X : zX p s m args cd D cid B bb_Mo_cutTokens 5 rr_Mo zT) (H : zH s meth B n0 none "cutTokens") {nf : Nat} {x0 : Nat} {x1 : Int32} {x2 : Int32} {x4 : Int32} {c : Zc} {r : (Nat × Int32 × Int32 × Int32 × Zc) ⊕ (Nat × Int32 × Int32 × Int32 × Zc)} (h : g_Mo_cutTokens_71 nf x0 x1 x2 x4 c = some r) (k0 : ∀ a, r = .inl a → (fun a : Nat × Int32 × Int32 × Int32 × Zc => Zz p l e (zRm 2 48 0 0) s m args below meth cd Q D cid B 5 0 0 a.2.2.2.2 71 [(0, .ref a.1), (1, .int a.2.1), (2, .int a.2.2.1), (4, .int a.2.2.2.1)] []) a) (k1 : ∀ b, r = .inr b → (fun b : Nat × Int32 × Int32 × Int32 × Zc => Zz p l e (zRm 2 48 0 0) s m args below meth cd Q D cid B 5 0 0 b.2.2.2.2 90 [(0, .ref b.1), (1, .int b.2.1), (2, .int b.2.2.1), (4, .int b.2.2.2.1)] []) b) : Zz p l e (zRm 2 48 0 0) s m args below meth cd Q D cid B 5 0 0 c 71 [(0, .ref x0), (1, .int x1), (2, .int x2), (4, .int x4)] [] := by
  unfold g_Mo_cutTokens_71 at h
  refine z_aload_n X dd_Mo_cutTokens_71 rfl 0 rfl ?_
  refine z_iload X dd_Mo_cutTokens_72 3 rfl ?_
  refine z_iload_n X dd_Mo_cutTokens_74 rfl 1 rfl ?_
  obtain ⟨w30, ew30, h⟩ := zb h
  obtain ⟨q29, eq29, h⟩ := zb h
  refine z_callVi X [.int x4, .int x1] rfl dd_Mo_cutTokens_75 (c_Mo_at l eq29) (cwV 2 X.1.2.2.2.2 (zg_V km_1860 km_1862 km_65 km_138 km_1863) rfl rfl rfl (by decide +kernel) ⟨Nat.le_of_ble_eq_true rfl, Nat.le_of_ble_eq_true rfl⟩) (zob_s ew30) kc_12 rfl (Nat.le_of_ble_eq_true rfl) ⟨Nat.le_of_ble_eq_true rfl, Nat.le_of_ble_eq_true rfl⟩ ?_
  obtain ⟨q31, eq31, h⟩ := zb h
  refine z_callSi X [.int q29.1] rfl dd_Mo_cutTokens_78 (c_Mo_isWordByte l eq31) (va_cwS 1 X.1.2.2.2.2 (zg_S km_1864 km_1865 km_138 km_1866) rfl rfl rfl (by decide +kernel) ⟨Nat.le_of_ble_eq_true rfl, Nat.le_of_ble_eq_true rfl⟩) rfl (Nat.le_of_ble_eq_true rfl) ⟨Nat.le_of_ble_eq_true rfl, Nat.le_of_ble_eq_true rfl⟩ ?_
  refine z_if_eq (tgt := 90) X dd_Mo_cutTokens_81 (by decide) (fun q32 => ?_) (fun q32 => ?_)
  · rw [if_pos q32] at h
    obtain rfl := Option.some.inj h
    exact k1 _ rfl
  · rw [if_neg q32] at h
    refine z_iinc (v := (x4 + 1)) (lv' := [(4, .int (x4 + 1)), (0, .ref x0), (1, .int x1), (2, .int x2)]) X dd_Mo_cutTokens_84 3 rfl rfl (by decide) rfl ?_
    refine z_goto (tgt := 71) X dd_Mo_cutTokens_87 (by decide) ?_
    refine z_sub [1, 2, 3, 0] rfl ?_
    obtain rfl := Option.some.inj h
    exact k0 _ rfl
set_option maxRecDepth 100000 in
set_option maxHeartbeats 4000000 in
theorem t_Mo_cutTokens_71  (X : zX p s m args cd D cid B bb_Mo_cutTokens 5 rr_Mo zT) (H : zH s meth B n0 none "cutTokens") {nf : Nat} {x0 : Nat} {x1 : Int32} {x2 : Int32} {x4 : Int32} {c : Zc} {r : (Nat × Int32 × Int32 × Zc) ⊕ (Nat × Int32 × Zc)} (h : f_Mo_cutTokens_71 nf x0 x1 x2 x4 c = some r) (k0 : ∀ a, r = .inl a → (fun a : Nat × Int32 × Int32 × Zc => Zz p l e (zRm 2 48 0 0) s m args below meth cd Q D cid B 5 0 0 a.2.2.2 7 [(0, .ref a.1), (1, .int a.2.1), (2, .int a.2.2.1)] []) a) (k1 : ∀ b, r = .inr b → (fun b : Nat × Int32 × Zc => Zz p l e (zRm 2 48 0 0) s m args below meth cd Q D cid B 5 0 0 b.2.2 173 [(0, .ref b.1), (1, .int b.2.1)] []) b) : Zz p l e (zRm 2 48 0 0) s m args below meth cd Q D cid B 5 0 0 c 71 [(0, .ref x0), (1, .int x1), (2, .int x2), (4, .int x4)] [] := by
  unfold f_Mo_cutTokens_71 at h
  obtain ⟨b, eb, h⟩ := zb h
  refine zlp_ok (P := fun a : Nat × Int32 × Int32 × Int32 × Zc => Zz p l e (zRm 2 48 0 0) s m args below meth cd _ D cid B 5 0 0 a.2.2.2.2 71 [(0, .ref a.1), (1, .int a.2.1), (2, .int a.2.2.1), (4, .int a.2.2.2.1)] []) (G := fun b : Nat × Int32 × Int32 × Int32 × Zc => Zz p l e (zRm 2 48 0 0) s m args below meth cd _ D cid B 5 0 0 b.2.2.2.2 90 [(0, .ref b.1), (1, .int b.2.1), (2, .int b.2.2.1), (4, .int b.2.2.2.1)] []) (fun a r ha k0 k1 => u_Mo_cutTokens_71 X H ha k0 k1) nf _ b eb ?_
  refine z_aload_n X dd_Mo_cutTokens_90 rfl 0 rfl ?_
  refine z_iload_n X dd_Mo_cutTokens_91 rfl 2 rfl ?_
  refine z_iload X dd_Mo_cutTokens_92 3 rfl ?_
  refine z_iload_n X dd_Mo_cutTokens_94 rfl 2 rfl ?_
  refine z_isub X dd_Mo_cutTokens_95 ?_
  obtain ⟨w34, ew34, h⟩ := zb h
  obtain ⟨q33, eq33, h⟩ := zb h
  refine z_callVv X [.int b.2.2.1, .int (b.2.2.2.1 - b.2.2.1)] rfl dd_Mo_cutTokens_96 (c_Mo_wordToken l eq33) (cwV 2 X.1.2.2.2.2 (zg_V km_1873 km_1875 km_66 km_138 km_1876) rfl rfl rfl (by decide +kernel) ⟨Nat.le_of_ble_eq_true rfl, Nat.le_of_ble_eq_true rfl⟩) (zob_s ew34) kc_12 rfl (Nat.le_of_ble_eq_true rfl) ⟨Nat.le_of_ble_eq_true rfl, Nat.le_of_ble_eq_true rfl⟩ ?_
  refine z_goto (tgt := 157) X dd_Mo_cutTokens_99 (by decide) ?_
  refine z_sub [0, 1, 3] rfl ?_
  exact t_Mo_cutTokens_157 X H h k0 k1
set_option maxRecDepth 100000 in
set_option maxHeartbeats 4000000 in
theorem u_Mo_cutTokens_7  (X : zX p s m args cd D cid B bb_Mo_cutTokens 5 rr_Mo zT) (H : zH s meth B n0 none "cutTokens") {nf : Nat} {x0 : Nat} {x1 : Int32} {x2 : Int32} {c : Zc} {r : (Nat × Int32 × Int32 × Zc) ⊕ (Nat × Int32 × Zc)} (h : g_Mo_cutTokens_7 nf x0 x1 x2 c = some r) (k0 : ∀ a, r = .inl a → (fun a : Nat × Int32 × Int32 × Zc => Zz p l e (zRm 2 48 0 0) s m args below meth cd Q D cid B 5 0 0 a.2.2.2 7 [(0, .ref a.1), (1, .int a.2.1), (2, .int a.2.2.1)] []) a) (k1 : ∀ b, r = .inr b → (fun b : Nat × Int32 × Zc => Zz p l e (zRm 2 48 0 0) s m args below meth cd Q D cid B 5 0 0 b.2.2 173 [(0, .ref b.1), (1, .int b.2.1)] []) b) : Zz p l e (zRm 2 48 0 0) s m args below meth cd Q D cid B 5 0 0 c 7 [(0, .ref x0), (1, .int x1), (2, .int x2)] [] := by
  unfold g_Mo_cutTokens_7 at h
  refine z_iload_n X dd_Mo_cutTokens_7 rfl 2 rfl ?_
  refine z_iload_n X dd_Mo_cutTokens_8 rfl 1 rfl ?_
  refine z_icmp_ge (tgt := 173) X dd_Mo_cutTokens_9 (by decide) (fun q2 => ?_) (fun q2 => ?_)
  · rw [if_pos q2] at h
    refine z_sub [0, 1] rfl ?_
    obtain rfl := Option.some.inj h
    exact k1 _ rfl
  · rw [if_neg q2] at h
    refine z_aload_n X dd_Mo_cutTokens_12 rfl 0 rfl ?_
    refine z_iload_n X dd_Mo_cutTokens_13 rfl 2 rfl ?_
    refine z_iload_n X dd_Mo_cutTokens_14 rfl 1 rfl ?_
    obtain ⟨w4, ew4, h⟩ := zb h
    obtain ⟨q3, eq3, h⟩ := zb h
    refine z_callVi X [.int x2, .int x1] rfl dd_Mo_cutTokens_15 (c_Mo_at l eq3) (cwV 2 X.1.2.2.2.2 (zg_V km_1860 km_1862 km_65 km_138 km_1863) rfl rfl rfl (by decide +kernel) ⟨Nat.le_of_ble_eq_true rfl, Nat.le_of_ble_eq_true rfl⟩) (zob_s ew4) kc_12 rfl (Nat.le_of_ble_eq_true rfl) ⟨Nat.le_of_ble_eq_true rfl, Nat.le_of_ble_eq_true rfl⟩ ?_
    refine z_istore_n (lv' := [(3, .int q3.1), (0, .ref x0), (1, .int x1), (2, .int x2)]) X dd_Mo_cutTokens_18 rfl (by decide) rfl ?_
    refine z_iload_n X dd_Mo_cutTokens_19 rfl 0 rfl ?_
    refine z_bipush (v := 9) X dd_Mo_cutTokens_20 (by decide) ?_
    refine z_icmp_eq (tgt := 43) X dd_Mo_cutTokens_22 (by decide) (fun q5 => ?_) (fun q5 => ?_)
    · rw [if_pos q5] at h
      refine z_sub [1, 2, 3] rfl ?_
      exact t_Mo_cutTokens_43 X H h k0 k1
    · rw [if_neg q5] at h
      refine z_iload_n X dd_Mo_cutTokens_25 rfl 0 rfl ?_
      refine z_bipush (v := 10) X dd_Mo_cutTokens_26 (by decide) ?_
      refine z_icmp_eq (tgt := 43) X dd_Mo_cutTokens_28 (by decide) (fun q6 => ?_) (fun q6 => ?_)
      · rw [if_pos q6] at h
        refine z_sub [1, 2, 3] rfl ?_
        exact t_Mo_cutTokens_43 X H h k0 k1
      · rw [if_neg q6] at h
        refine z_iload_n X dd_Mo_cutTokens_31 rfl 0 rfl ?_
        refine z_bipush (v := 13) X dd_Mo_cutTokens_32 (by decide) ?_
        refine z_icmp_eq (tgt := 43) X dd_Mo_cutTokens_34 (by decide) (fun q7 => ?_) (fun q7 => ?_)
        · rw [if_pos q7] at h
          refine z_sub [1, 2, 3] rfl ?_
          exact t_Mo_cutTokens_43 X H h k0 k1
        · rw [if_neg q7] at h
          refine z_iload_n X dd_Mo_cutTokens_37 rfl 0 rfl ?_
          refine z_bipush (v := 32) X dd_Mo_cutTokens_38 (by decide) ?_
          refine z_icmp_ne (tgt := 49) X dd_Mo_cutTokens_40 (by decide) (fun q8 => ?_) (fun q8 => ?_)
          · rw [if_neg q8] at h
            refine z_iload_n X dd_Mo_cutTokens_49 rfl 3 rfl ?_
            refine z_iconst (v := 1) X dd_Mo_cutTokens_50 (by decide) ?_
            refine z_iadd X dd_Mo_cutTokens_51 ?_
            refine z_istore (lv' := [(4, .int (x2 + 1)), (3, .int q3.1), (0, .ref x0), (1, .int x1), (2, .int x2)]) X dd_Mo_cutTokens_52 (by decide) rfl ?_
            refine z_aload_n X dd_Mo_cutTokens_54 rfl 2 rfl ?_
            obtain ⟨v9, ev9, h⟩ := zb h
            refine z_get (j := 16) X dd_Mo_cutTokens_55 kc_12 ki_12 (by decide) km_1537 (zgr_v ev9) ?_
            refine z_aload_n X dd_Mo_cutTokens_58 rfl 2 rfl ?_
            obtain ⟨v10, ev10, h⟩ := zb h
            refine z_get (j := 17) X dd_Mo_cutTokens_59 kc_12 ki_12 (by decide) km_1538 (zgi_v ev10) ?_
            refine z_iload_n X dd_Mo_cutTokens_62 rfl 4 rfl ?_
            obtain ⟨c11, ec11, h⟩ := zb h
            refine z_iastore X dd_Mo_cutTokens_63 rfl ec11 ?_
            refine z_iload_n X dd_Mo_cutTokens_64 rfl 1 rfl ?_
            obtain ⟨q12, eq12, h⟩ := zb h
            refine z_callSi X [.int q3.1] rfl dd_Mo_cutTokens_65 (c_Mo_isWordByte l eq12) (va_cwS 1 X.1.2.2.2.2 (zg_S km_1864 km_1865 km_138 km_1866) rfl rfl rfl (by decide +kernel) ⟨Nat.le_of_ble_eq_true rfl, Nat.le_of_ble_eq_true rfl⟩) rfl (Nat.le_of_ble_eq_true rfl) ⟨Nat.le_of_ble_eq_true rfl, Nat.le_of_ble_eq_true rfl⟩ ?_
            refine z_if_eq (tgt := 102) X dd_Mo_cutTokens_68 (by decide) (fun q13 => ?_) (fun q13 => ?_)
            · rw [if_pos q13] at h
              refine z_aload_n X dd_Mo_cutTokens_102 rfl 2 rfl ?_
              obtain ⟨v14, ev14, h⟩ := zb h
              refine z_get (j := 14) X dd_Mo_cutTokens_103 kc_12 ki_12 (by decide) km_1535 (zgr_v ev14) ?_
              refine z_aload_n X dd_Mo_cutTokens_106 rfl 2 rfl ?_
              obtain ⟨v15, ev15, h⟩ := zb h
              refine z_get (j := 17) X dd_Mo_cutTokens_107 kc_12 ki_12 (by decide) km_1538 (zgi_v ev15) ?_
              refine z_iload_n X dd_Mo_cutTokens_110 rfl 1 rfl ?_
              refine z_aload_n X dd_Mo_cutTokens_111 rfl 2 rfl ?_
              refine z_iload X dd_Mo_cutTokens_112 0 rfl ?_
              refine z_iload_n X dd_Mo_cutTokens_114 rfl 3 rfl ?_
              obtain ⟨w17, ew17, h⟩ := zb h
              obtain ⟨q16, eq16, h⟩ := zb h
              refine z_callVi X [.int (x2 + 1), .int x1] rfl dd_Mo_cutTokens_115 (c_Mo_at l eq16) (cwV 2 X.1.2.2.2.2 (zg_V km_1860 km_1862 km_65 km_138 km_1863) rfl rfl rfl (by decide +kernel) ⟨Nat.le_of_ble_eq_true rfl, Nat.le_of_ble_eq_true rfl⟩) (zob_s ew17) kc_12 rfl (Nat.le_of_ble_eq_true rfl) ⟨Nat.le_of_ble_eq_true rfl, Nat.le_of_ble_eq_true rfl⟩ ?_
              obtain ⟨q18, eq18, h⟩ := zb h
              refine z_callSi X [.int q3.1, .int q16.1] rfl dd_Mo_cutTokens_118 (c_Mo_signKind l eq18) (va_cwS 2 X.1.2.2.2.2 (zg_S km_1897 km_1898 km_138 km_1899) rfl rfl rfl (by decide +kernel) ⟨Nat.le_of_ble_eq_true rfl, Nat.le_of_ble_eq_true rfl⟩) rfl (Nat.le_of_ble_eq_true rfl) ⟨Nat.le_of_ble_eq_true rfl, Nat.le_of_ble_eq_true rfl⟩ ?_
              obtain ⟨c19, ec19, h⟩ := zb h
              refine z_iastore X dd_Mo_cutTokens_121 rfl ec19 ?_
              refine z_aload_n X dd_Mo_cutTokens_122 rfl 2 rfl ?_
              obtain ⟨v20, ev20, h⟩ := zb h
              refine z_get (j := 15) X dd_Mo_cutTokens_123 kc_12 ki_12 (by decide) km_1536 (zgr_v ev20) ?_
              refine z_aload_n X dd_Mo_cutTokens_126 rfl 2 rfl ?_
              obtain ⟨v21, ev21, h⟩ := zb h
              refine z_get (j := 17) X dd_Mo_cutTokens_127 kc_12 ki_12 (by decide) km_1538 (zgi_v ev21) ?_
              refine z_iconst (v := 0) X dd_Mo_cutTokens_130 (by decide) ?_
              obtain ⟨c22, ec22, h⟩ := zb h
              refine z_iastore X dd_Mo_cutTokens_131 rfl ec22 ?_
              refine z_iload X dd_Mo_cutTokens_132 0 rfl ?_
              refine z_aload_n X dd_Mo_cutTokens_134 rfl 2 rfl ?_
              obtain ⟨v23, ev23, h⟩ := zb h
              refine z_get (j := 14) X dd_Mo_cutTokens_135 kc_12 ki_12 (by decide) km_1535 (zgr_v ev23) ?_
              refine z_aload_n X dd_Mo_cutTokens_138 rfl 2 rfl ?_
              obtain ⟨v24, ev24, h⟩ := zb h
              refine z_get (j := 17) X dd_Mo_cutTokens_139 kc_12 ki_12 (by decide) km_1538 (zgi_v ev24) ?_
              obtain ⟨v25, ev25, h⟩ := zb h
              refine z_iaload X dd_Mo_cutTokens_142 rfl ev25 ?_
              refine z_sipush (v := 200) X dd_Mo_cutTokens_143 (by decide) ?_
              refine z_icmp_le (tgt := 153) X dd_Mo_cutTokens_146 (by decide) (fun q26 => ?_) (fun q26 => ?_)
              · rw [if_pos q26] at h
                refine z_iconst (v := 0) X dd_Mo_cutTokens_153 (by decide) ?_
                refine z_sub [2, 3] rfl ?_
                exact t_Mo_cutTokens_154 X H h k0 k1
              · rw [if_neg q26] at h
                refine z_iconst (v := 1) X dd_Mo_cutTokens_149 (by decide) ?_
                refine z_goto (tgt := 154) X dd_Mo_cutTokens_150 (by decide) ?_
                refine z_sub [2, 3] rfl ?_
                exact t_Mo_cutTokens_154 X H h k0 k1
            · rw [if_neg q13] at h
              refine z_sub [2, 3, 4, 0] rfl ?_
              exact t_Mo_cutTokens_71 X H h k0 k1
          · rw [if_pos q8] at h
            refine z_sub [1, 2, 3] rfl ?_
            exact t_Mo_cutTokens_43 X H h k0 k1
set_option maxRecDepth 100000 in
set_option maxHeartbeats 4000000 in
theorem t_Mo_cutTokens_7  (X : zX p s m args cd D cid B bb_Mo_cutTokens 5 rr_Mo zT) (H : zH s meth B n0 none "cutTokens") {nf : Nat} {x0 : Nat} {x1 : Int32} {x2 : Int32} {c : Zc} {res : Zc} (h : f_Mo_cutTokens_7 nf x0 x1 x2 c = some res) : Zz p l e (zRm 2 48 0 0) s m args below meth cd (MQ below (zQv D cid B res n0 0) args s 0 0 (fun q => B ≤ q)) D cid B 5 0 0 c 7 [(0, .ref x0), (1, .int x1), (2, .int x2)] [] := by
  unfold f_Mo_cutTokens_7 at h
  obtain ⟨b, eb, h⟩ := zb h
  refine zlp_ok (P := fun a : Nat × Int32 × Int32 × Zc => Zz p l e (zRm 2 48 0 0) s m args below meth cd _ D cid B 5 0 0 a.2.2.2 7 [(0, .ref a.1), (1, .int a.2.1), (2, .int a.2.2.1)] []) (G := fun b : Nat × Int32 × Zc => Zz p l e (zRm 2 48 0 0) s m args below meth cd _ D cid B 5 0 0 b.2.2 173 [(0, .ref b.1), (1, .int b.2.1)] []) (fun a r ha k0 k1 => u_Mo_cutTokens_7 X H ha k0 k1) nf _ b eb ?_
  refine z_aload_n X dd_Mo_cutTokens_173 rfl 0 rfl ?_
  obtain ⟨v35, ev35, h⟩ := zb h
  refine z_get (j := 14) X dd_Mo_cutTokens_174 kc_12 ki_12 (by decide) km_1535 (zgr_v ev35) ?_
  refine z_aload_n X dd_Mo_cutTokens_177 rfl 0 rfl ?_
  obtain ⟨v36, ev36, h⟩ := zb h
  refine z_get (j := 17) X dd_Mo_cutTokens_178 kc_12 ki_12 (by decide) km_1538 (zgi_v ev36) ?_
  refine z_iconst (v := 0) X dd_Mo_cutTokens_181 (by decide) ?_
  obtain ⟨c37, ec37, h⟩ := zb h
  refine z_iastore X dd_Mo_cutTokens_182 rfl ec37 ?_
  refine z_aload_n X dd_Mo_cutTokens_183 rfl 0 rfl ?_
  obtain ⟨v38, ev38, h⟩ := zb h
  refine z_get (j := 16) X dd_Mo_cutTokens_184 kc_12 ki_12 (by decide) km_1537 (zgr_v ev38) ?_
  refine z_aload_n X dd_Mo_cutTokens_187 rfl 0 rfl ?_
  obtain ⟨v39, ev39, h⟩ := zb h
  refine z_get (j := 17) X dd_Mo_cutTokens_188 kc_12 ki_12 (by decide) km_1538 (zgi_v ev39) ?_
  refine z_iload_n X dd_Mo_cutTokens_191 rfl 1 rfl ?_
  obtain ⟨c40, ec40, h⟩ := zb h
  refine z_iastore X dd_Mo_cutTokens_192 rfl ec40 ?_
  obtain rfl := Option.some.inj h
  exact z_vret X H.1 H.2.1 H.2.2.1 dd_Mo_cutTokens_193
set_option maxRecDepth 100000 in
set_option maxHeartbeats 4000000 in
theorem c_Mo_cutTokens (l : Launch) {nf : Nat} {a0 : Nat} {a1 : Int32} {c : Zc} {res : Zc} (h : f_Mo_cutTokens nf a0 a1 c = some res) : zM l yy_Mo_cutTokens ww_Mo_cutTokens 2 48 0 0 [.ref a0, .int a1] c (fun D cid B => zQv D cid B res c.length 0) := by
  refine z_met (cc := bb_Mo_cutTokens) (maxL := 5) (ret := none) (by decide +kernel) rfl (Nat.le_of_ble_eq_true rfl) ?_
  intro p e s m args below meth cd D cid B X h1 h2 h3 h4
  have X : zX p s m args cd D cid B bb_Mo_cutTokens 5 rr_Mo zT := X
  have H : zH s meth B c.length none "cutTokens" := ⟨h1, h2, h4, h3⟩
  unfold f_Mo_cutTokens at h
  show Zz p l e (zRm 2 48 0 0) s m args below meth cd _ D cid B 5 0 0 c 0 [(0, .ref a0), (1, .int a1)] []
  refine z_aload_n X dd_Mo_cutTokens_0 rfl 0 rfl ?_
  refine z_iconst (v := 0) X dd_Mo_cutTokens_1 (by decide) ?_
  obtain ⟨c1, ec1, h⟩ := zb h
  refine z_put (j := 17) X dd_Mo_cutTokens_2 kc_12 ki_12 tt_Mo tk_Mo nn_Mo (by decide) km_1538 rfl (tk_Mo 17 (by decide)) rfl rfl ec1 ?_
  refine z_iconst (v := 0) X dd_Mo_cutTokens_5 (by decide) ?_
  refine z_istore_n (lv' := [(2, .int 0), (0, .ref a0), (1, .int a1)]) X dd_Mo_cutTokens_6 rfl (by decide) rfl ?_
  refine z_sub [1, 2, 0] rfl ?_
  exact t_Mo_cutTokens_7 X H h
end ZzM
