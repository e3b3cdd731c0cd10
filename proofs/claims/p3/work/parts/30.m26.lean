section ZzM
variable {p : Program} {l : Launch} {e : Env} {s : State} {m : MethodId} {args : Array Value} {below : List Frame} {meth : Method} {cd : Code} {Q : State → Prop} {D : va_G} {cid : Nat → ClassId} {B n0 : Nat}
theorem dd_Mo_isIn_0 : decode bb_Mo_isIn 0 = .ok (.iload_n 0, 1) := by decide +kernel
theorem dd_Mo_isIn_1 : decode bb_Mo_isIn 1 = .ok (.ifCond .lt 12, 3) := by decide +kernel
theorem dd_Mo_isIn_4 : decode bb_Mo_isIn 4 = .ok (.iload_n 0, 1) := by decide +kernel
theorem dd_Mo_isIn_5 : decode bb_Mo_isIn 5 = .ok (.iload_n 1, 1) := by decide +kernel
theorem dd_Mo_isIn_6 : decode bb_Mo_isIn 6 = .ok (.if_icmp .ge 7, 3) := by decide +kernel
theorem dd_Mo_isIn_9 : decode bb_Mo_isIn 9 = .ok (.iconst 1, 1) := by decide +kernel
theorem dd_Mo_isIn_10 : decode bb_Mo_isIn 10 = .ok (.goto 4, 3) := by decide +kernel
theorem dd_Mo_isIn_13 : decode bb_Mo_isIn 13 = .ok (.iconst 0, 1) := by decide +kernel
theorem dd_Mo_isIn_14 : decode bb_Mo_isIn 14 = .ok (.ireturn, 1) := by decide +kernel
def f_Mo_isIn_14 (nf : Nat) (s0 : Int32) (c : Zc) : Option (Int32 × Zc) :=
  zrz s0 c
def f_Mo_isIn_13 (nf : Nat)  (c : Zc) : Option (Int32 × Zc) :=
  f_Mo_isIn_14 nf 0 c
def f_Mo_isIn (nf : Nat) (a0 : Int32) (a1 : Int32) (c : Zc) : Option (Int32 × Zc) :=
  if a0 < 0 then (f_Mo_isIn_13 nf  c) else (if a1 ≤ a0 then (f_Mo_isIn_13 nf  c) else (f_Mo_isIn_14 nf 1 c))
set_option maxRecDepth 100000 in
set_option maxHeartbeats 4000000 in
theorem t_Mo_isIn_14  (X : zX p s m args cd D cid B bb_Mo_isIn 2 rr_Mo zT) (H : zH s meth B n0 (some (.boolean)) "isIn") {nf : Nat} {s0 : Int32} {c : Zc} {res : Int32 × Zc} (h : f_Mo_isIn_14 nf s0 c = some res) : Zz p l e (zRm 0 0 0 0) s m args below meth cd (MQ below (zQi D cid B res.1 res.2 n0 0) args s 0 0 (fun q => B ≤ q)) D cid B 2 0 0 c 14 [] [.int s0] := by
  unfold f_Mo_isIn_14 at h
  obtain ⟨hz, h⟩ := zrz_s h
  obtain rfl := h
  exact z_zret X H.1 (zn_z hz) H.2.1 H.2.2.1 dd_Mo_isIn_14
set_option maxRecDepth 100000 in
set_option maxHeartbeats 4000000 in
theorem t_Mo_isIn_13  (X : zX p s m args cd D cid B bb_Mo_isIn 2 rr_Mo zT) (H : zH s meth B n0 (some (.boolean)) "isIn") {nf : Nat}  {c : Zc} {res : Int32 × Zc} (h : f_Mo_isIn_13 nf  c = some res) : Zz p l e (zRm 0 0 0 0) s m args below meth cd (MQ below (zQi D cid B res.1 res.2 n0 0) args s 0 0 (fun q => B ≤ q)) D cid B 2 0 0 c 13 [] [] := by
  unfold f_Mo_isIn_13 at h
  refine z_iconst (v := 0) X dd_Mo_isIn_13 (by decide) ?_
  exact t_Mo_isIn_14 X H h
set_option maxRecDepth 100000 in
set_option maxHeartbeats 4000000 in
theorem c_Mo_isIn (l : Launch) {nf : Nat} {a0 : Int32} {a1 : Int32} {c : Zc} {res : Int32 × Zc} (h : f_Mo_isIn nf a0 a1 c = some res) : zM l yy_Mo_isIn ww_Mo_isIn 0 0 0 0 [.int a0, .int a1] c (fun D cid B => zQi D cid B res.1 res.2 c.length 0) := by
  refine z_met (cc := bb_Mo_isIn) (maxL := 2) (ret := (some (.boolean))) (by decide +kernel) rfl (Nat.le_of_ble_eq_true rfl) ?_
  intro p e s m args below meth cd D cid B X h1 h2 h3 h4
  have X : zX p s m args cd D cid B bb_Mo_isIn 2 rr_Mo zT := X
  have H : zH s meth B c.length (some (.boolean)) "isIn" := ⟨h1, h2, h4, h3⟩
  unfold f_Mo_isIn at h
  show Zz p l e (zRm 0 0 0 0) s m args below meth cd _ D cid B 2 0 0 c 0 [(0, .int a0), (1, .int a1)] []
  refine z_iload_n X dd_Mo_isIn_0 rfl 0 rfl ?_
  refine z_if_lt (tgt := 13) X dd_Mo_isIn_1 (by decide) (fun q1 => ?_) (fun q1 => ?_)
  · rw [if_pos q1] at h
    refine z_sub [] rfl ?_
    exact t_Mo_isIn_13 X H h
  · rw [if_neg q1] at h
    refine z_iload_n X dd_Mo_isIn_4 rfl 0 rfl ?_
    refine z_iload_n X dd_Mo_isIn_5 rfl 1 rfl ?_
    refine z_icmp_ge (tgt := 13) X dd_Mo_isIn_6 (by decide) (fun q2 => ?_) (fun q2 => ?_)
    · rw [if_pos q2] at h
      refine z_sub [] rfl ?_
      exact t_Mo_isIn_13 X H h
    · rw [if_neg q2] at h
      refine z_iconst (v := 1) X dd_Mo_isIn_9 (by decide) ?_
      refine z_goto (tgt := 14) X dd_Mo_isIn_10 (by decide) ?_
      refine z_sub [] rfl ?_
      exact t_Mo_isIn_14 X H h
theorem dd_Mo_changed_0 : decode bb_Mo_changed 0 = .ok (.aload_n 0, 1) := by decide +kernel
theorem dd_Mo_changed_1 : decode bb_Mo_changed 1 = .ok (.iconst 1, 1) := by decide +kernel
theorem dd_Mo_changed_2 : decode bb_Mo_changed 2 = .ok (.putfield 35, 3) := by decide +kernel
theorem dd_Mo_changed_5 : decode bb_Mo_changed 5 = .ok (.iconst 0, 1) := by decide +kernel
theorem dd_Mo_changed_6 : decode bb_Mo_changed 6 = .ok (.istore_n 1, 1) := by decide +kernel
theorem dd_Mo_changed_7 : decode bb_Mo_changed 7 = .ok (.iload_n 1, 1) := by decide +kernel
theorem dd_Mo_changed_8 : decode bb_Mo_changed 8 = .ok (.iconst 4, 1) := by decide +kernel
theorem dd_Mo_changed_9 : decode bb_Mo_changed 9 = .ok (.if_icmp .ge 16, 3) := by decide +kernel
theorem dd_Mo_changed_12 : decode bb_Mo_changed 12 = .ok (.aload_n 0, 1) := by decide +kernel
theorem dd_Mo_changed_13 : decode bb_Mo_changed 13 = .ok (.getfield 223, 3) := by decide +kernel
theorem dd_Mo_changed_16 : decode bb_Mo_changed 16 = .ok (.iload_n 1, 1) := by decide +kernel
theorem dd_Mo_changed_17 : decode bb_Mo_changed 17 = .ok (.iconst 0, 1) := by decide +kernel
theorem dd_Mo_changed_18 : decode bb_Mo_changed 18 = .ok (.bastore, 1) := by decide +kernel
theorem dd_Mo_changed_19 : decode bb_Mo_changed 19 = .ok (.iinc 1 1, 3) := by decide +kernel
theorem dd_Mo_changed_22 : decode bb_Mo_changed 22 = .ok (.goto (-15), 3) := by decide +kernel
theorem dd_Mo_changed_25 : decode bb_Mo_changed 25 = .ok (.return_, 1) := by decide +kernel
def g_Mo_changed_7 (nf : Nat) (x0 : Nat) (x1 : Int32) (c : Zc) : Option ((Nat × Int32 × Zc) ⊕ (Zc)) :=
  if 4 ≤ x1 then (some (.inr c)) else ((zgr c x0 12 85).bind fun v3 => (zsi c v3 6 x1 (vp_nar .boolean 0)).bind fun c4 => some (.inl (x0, (x1 + 1), c4)))
def f_Mo_changed_7 (nf : Nat) (x0 : Nat) (x1 : Int32) (c : Zc) : Option (Zc) :=
  (zlp (fun a => g_Mo_changed_7 nf a.1 a.2.1 a.2.2) nf (x0, x1, c)).bind fun b => some b
def f_Mo_changed (nf : Nat) (a0 : Nat) (c : Zc) : Option (Zc) :=
  (zpv c a0 12 10 (.int 1)).bind fun c1 => f_Mo_changed_7 nf a0 0 c1
set_option maxRecDepth 100000 in
set_option maxHeartbeats 4000000 in
theorem u_Mo_changed_7  (X : zX p s m args cd D cid B bb_Mo_changed 2 rr_Mo zT) (H : zH s meth B n0 none "changed") {nf : Nat} {x0 : Nat} {x1 : Int32} {c : Zc} {r : (Nat × Int32 × Zc) ⊕ (Zc)} (h : g_Mo_changed_7 nf x0 x1 c = some r) (k0 : ∀ a, r = .inl a → (fun a : Nat × Int32 × Zc => Zz p l e (zRm 0 0 0 0) s m args below meth cd Q D cid B 2 0 0 a.2.2 7 [(0, .ref a.1), (1, .int a.2.1)] []) a) (k1 : ∀ b, r = .inr b → (fun b : Zc => Zz p l e (zRm 0 0 0 0) s m args below meth cd Q D cid B 2 0 0 b 25 [] []) b) : Zz p l e (zRm 0 0 0 0) s m args below meth cd Q D cid B 2 0 0 c 7 [(0, .ref x0), (1, .int x1)] [] := by
  unfold g_Mo_changed_7 at h
  refine z_iload_n X dd_Mo_changed_7 rfl 1 rfl ?_
  refine z_iconst (v := 4) X dd_Mo_changed_8 (by decide) ?_
  refine z_icmp_ge (tgt := 25) X dd_Mo_changed_9 (by decide) (fun q2 => ?_) (fun q2 => ?_)
  · rw [if_pos q2] at h
    refine z_sub [] rfl ?_
    obtain rfl := Option.some.inj h
    exact k1 _ rfl
  · rw [if_neg q2] at h
    refine z_aload_n X dd_Mo_changed_12 rfl 0 rfl ?_
    obtain ⟨v3, ev3, h⟩ := zb h
    refine z_get (j := 85) X dd_Mo_changed_13 kc_12 ki_12 (by decide) km_1606 (zgr_v ev3) ?_
    refine z_iload_n X dd_Mo_changed_16 rfl 1 rfl ?_
    refine z_iconst (v := 0) X dd_Mo_changed_17 (by decide) ?_
    obtain ⟨c4, ec4, h⟩ := zb h
    refine z_zastore X dd_Mo_changed_18 rfl ec4 ?_
    refine z_iinc (v := (x1 + 1)) (lv' := [(1, .int (x1 + 1)), (0, .ref x0)]) X dd_Mo_changed_19 1 rfl rfl (by decide) rfl ?_
    refine z_goto (tgt := 7) X dd_Mo_changed_22 (by decide) ?_
    refine z_sub [1, 0] rfl ?_
    obtain rfl := Option.some.inj h
    exact k0 _ rfl
set_option maxRecDepth 100000 in
set_option maxHeartbeats 4000000 in
theorem t_Mo_changed_7  (X : zX p s m args cd D cid B bb_Mo_changed 2 rr_Mo zT) (H : zH s meth B n0 none "changed") {nf : Nat} {x0 : Nat} {x1 : Int32} {c : Zc} {res : Zc} (h : f_Mo_changed_7 nf x0 x1 c = some res) : Zz p l e (zRm 0 0 0 0) s m args below meth cd (MQ below (zQv D cid B res n0 0) args s 0 0 (fun q => B ≤ q)) D cid B 2 0 0 c 7 [(0, .ref x0), (1, .int x1)] [] := by
  unfold f_Mo_changed_7 at h
  obtain ⟨b, eb, h⟩ := zb h
  refine zlp_ok (P := fun a : Nat × Int32 × Zc => Zz p l e (zRm 0 0 0 0) s m args below meth cd _ D cid B 2 0 0 a.2.2 7 [(0, .ref a.1), (1, .int a.2.1)] []) (G := fun b : Zc => Zz p l e (zRm 0 0 0 0) s m args below meth cd _ D cid B 2 0 0 b 25 [] []) (fun a r ha k0 k1 => u_Mo_changed_7 X H ha k0 k1) nf _ b eb ?_
  obtain rfl := Option.some.inj h
  exact z_vret X H.1 H.2.1 H.2.2.1 dd_Mo_changed_25
set_option maxRecDepth 100000 in
set_option maxHeartbeats 4000000 in
theorem c_Mo_changed (l : Launch) {nf : Nat} {a0 : Nat} {c : Zc} {res : Zc} (h : f_Mo_changed nf a0 c = some res) : zM l yy_Mo_changed ww_Mo_changed 0 0 0 0 [.ref a0] c (fun D cid B => zQv D cid B res c.length 0) := by
  refine z_met (cc := bb_Mo_changed) (maxL := 2) (ret := none) (by decide +kernel) rfl (Nat.le_of_ble_eq_true rfl) ?_
  intro p e s m args below meth cd D cid B X h1 h2 h3 h4
  have X : zX p s m args cd D cid B bb_Mo_changed 2 rr_Mo zT := X
  have H : zH s meth B c.length none "changed" := ⟨h1, h2, h4, h3⟩
  unfold f_Mo_changed at h
  show Zz p l e (zRm 0 0 0 0) s m args below meth cd _ D cid B 2 0 0 c 0 [(0, .ref a0)] []
  refine z_aload_n X dd_Mo_changed_0 rfl 0 rfl ?_
  refine z_iconst (v := 1) X dd_Mo_changed_1 (by decide) ?_
  obtain ⟨c1, ec1, h⟩ := zb h
  refine z_put (j := 10) X dd_Mo_changed_2 kc_12 ki_12 tt_Mo tk_Mo nn_Mo (by decide) km_1531 rfl (tk_Mo 10 (by decide)) rfl rfl ec1 ?_
  refine z_iconst (v := 0) X dd_Mo_changed_5 (by decide) ?_
  refine z_istore_n (lv' := [(1, .int 0), (0, .ref a0)]) X dd_Mo_changed_6 rfl (by decide) rfl ?_
  refine z_sub [1, 0] rfl ?_
  exact t_Mo_changed_7 X H h
theorem dd_Mo_feedOne_0 : decode bb_Mo_feedOne 0 = .ok (.bipush 24, 2) := by decide +kernel
theorem dd_Mo_feedOne_2 : decode bb_Mo_feedOne 2 = .ok (.istore_n 2, 1) := by decide +kernel
theorem dd_Mo_feedOne_3 : decode bb_Mo_feedOne 3 = .ok (.iload_n 2, 1) := by decide +kernel
theorem dd_Mo_feedOne_4 : decode bb_Mo_feedOne 4 = .ok (.ifCond .lt 32, 3) := by decide +kernel
theorem dd_Mo_feedOne_7 : decode bb_Mo_feedOne 7 = .ok (.aload_n 0, 1) := by decide +kernel
theorem dd_Mo_feedOne_8 : decode bb_Mo_feedOne 8 = .ok (.getfield 39, 3) := by decide +kernel
theorem dd_Mo_feedOne_11 : decode bb_Mo_feedOne 11 = .ok (.aload_n 0, 1) := by decide +kernel
theorem dd_Mo_feedOne_12 : decode bb_Mo_feedOne 12 = .ok (.getfield 426, 3) := by decide +kernel
theorem dd_Mo_feedOne_15 : decode bb_Mo_feedOne 15 = .ok (.iload_n 1, 1) := by decide +kernel
theorem dd_Mo_feedOne_16 : decode bb_Mo_feedOne 16 = .ok (.iload_n 2, 1) := by decide +kernel
theorem dd_Mo_feedOne_17 : decode bb_Mo_feedOne 17 = .ok (.iushr, 1) := by decide +kernel
theorem dd_Mo_feedOne_18 : decode bb_Mo_feedOne 18 = .ok (.i2b, 1) := by decide +kernel
theorem dd_Mo_feedOne_19 : decode bb_Mo_feedOne 19 = .ok (.bastore, 1) := by decide +kernel
theorem dd_Mo_feedOne_20 : decode bb_Mo_feedOne 20 = .ok (.aload_n 0, 1) := by decide +kernel
theorem dd_Mo_feedOne_21 : decode bb_Mo_feedOne 21 = .ok (.dup, 1) := by decide +kernel
theorem dd_Mo_feedOne_22 : decode bb_Mo_feedOne 22 = .ok (.getfield 426, 3) := by decide +kernel
theorem dd_Mo_feedOne_25 : decode bb_Mo_feedOne 25 = .ok (.iconst 1, 1) := by decide +kernel
theorem dd_Mo_feedOne_26 : decode bb_Mo_feedOne 26 = .ok (.iadd, 1) := by decide +kernel
theorem dd_Mo_feedOne_27 : decode bb_Mo_feedOne 27 = .ok (.putfield 426, 3) := by decide +kernel
theorem dd_Mo_feedOne_30 : decode bb_Mo_feedOne 30 = .ok (.iinc 2 (-8), 3) := by decide +kernel
theorem dd_Mo_feedOne_33 : decode bb_Mo_feedOne 33 = .ok (.goto (-30), 3) := by decide +kernel
theorem dd_Mo_feedOne_36 : decode bb_Mo_feedOne 36 = .ok (.return_, 1) := by decide +kernel
def g_Mo_feedOne_3 (nf : Nat) (x0 : Nat) (x1 : Int32) (x2 : Int32) (c : Zc) : Option ((Nat × Int32 × Int32 × Zc) ⊕ (Zc)) :=
  if x2 < 0 then (some (.inr c)) else ((zgr c x0 12 12).bind fun v2 => (zgi c x0 12 13).bind fun v3 => (zsi c v2 1 v3 (vp_nar .byte (Int8.toInt32 (Int32.toInt8 (Int32.toUInt32 x1 >>> (Int32.toUInt32 x2 &&& Int32.toUInt32 31)).toInt32)))).bind fun c4 => (zgi c4 x0 12 13).bind fun v5 => (zpv c4 x0 12 13 (.int (v5 + 1))).bind fun c6 => some (.inl (x0, x1, (x2 + (-8)), c6)))
def f_Mo_feedOne_3 (nf : Nat) (x0 : Nat) (x1 : Int32) (x2 : Int32) (c : Zc) : Option (Zc) :=
  (zlp (fun a => g_Mo_feedOne_3 nf a.1 a.2.1 a.2.2.1 a.2.2.2) nf (x0, x1, x2, c)).bind fun b => some b
def f_Mo_feedOne (nf : Nat) (a0 : Nat) (a1 : Int32) (c : Zc) : Option (Zc) :=
  f_Mo_feedOne_3 nf a0 a1 24 c
set_option maxRecDepth 100000 in
set_option maxHeartbeats 4000000 in
theorem u_Mo_feedOne_3  (X : zX p s m args cd D cid B bb_Mo_feedOne 3 rr_Mo zT) (H : zH s meth B n0 none "feedOne") {nf : Nat} {x0 : Nat} {x1 : Int32} {x2 : Int32} {c : Zc} {r : (Nat × Int32 × Int32 × Zc) ⊕ (Zc)} (h : g_Mo_feedOne_3 nf x0 x1 x2 c = some r) (k0 : ∀ a, r = .inl a → (fun a : Nat × Int32 × Int32 × Zc => Zz p l e (zRm 0 0 0 0) s m args below meth cd Q D cid B 3 0 0 a.2.2.2 3 [(0, .ref a.1), (1, .int a.2.1), (2, .int a.2.2.1)] []) a) (k1 : ∀ b, r = .inr b → (fun b : Zc => Zz p l e (zRm 0 0 0 0) s m args below meth cd Q D cid B 3 0 0 b 36 [] []) b) : Zz p l e (zRm 0 0 0 0) s m args below meth cd Q D cid B 3 0 0 c 3 [(0, .ref x0), (1, .int x1), (2, .int x2)] [] := by
  unfold g_Mo_feedOne_3 at h
  refine z_iload_n X dd_Mo_feedOne_3 rfl 2 rfl ?_
  refine z_if_lt (tgt := 36) X dd_Mo_feedOne_4 (by decide) (fun q1 => ?_) (fun q1 => ?_)
  · rw [if_pos q1] at h
    refine z_sub [] rfl ?_
    obtain rfl := Option.some.inj h
    exact k1 _ rfl
  · rw [if_neg q1] at h
    refine z_aload_n X dd_Mo_feedOne_7 rfl 0 rfl ?_
    obtain ⟨v2, ev2, h⟩ := zb h
    refine z_get (j := 12) X dd_Mo_feedOne_8 kc_12 ki_12 (by decide) km_1533 (zgr_v ev2) ?_
    refine z_aload_n X dd_Mo_feedOne_11 rfl 0 rfl ?_
    obtain ⟨v3, ev3, h⟩ := zb h
    refine z_get (j := 13) X dd_Mo_feedOne_12 kc_12 ki_12 (by decide) km_1534 (zgi_v ev3) ?_
    refine z_iload_n X dd_Mo_feedOne_15 rfl 1 rfl ?_
    refine z_iload_n X dd_Mo_feedOne_16 rfl 2 rfl ?_
    refine z_iushr X dd_Mo_feedOne_17 ?_
    refine z_i2b X dd_Mo_feedOne_18 ?_
    obtain ⟨c4, ec4, h⟩ := zb h
    refine z_bastore X dd_Mo_feedOne_19 rfl ec4 ?_
    refine z_aload_n X dd_Mo_feedOne_20 rfl 0 rfl ?_
    refine z_dup X dd_Mo_feedOne_21 rfl ?_
    obtain ⟨v5, ev5, h⟩ := zb h
    refine z_get (j := 13) X dd_Mo_feedOne_22 kc_12 ki_12 (by decide) km_1534 (zgi_v ev5) ?_
    refine z_iconst (v := 1) X dd_Mo_feedOne_25 (by decide) ?_
    refine z_iadd X dd_Mo_feedOne_26 ?_
    obtain ⟨c6, ec6, h⟩ := zb h
    refine z_put (j := 13) X dd_Mo_feedOne_27 kc_12 ki_12 tt_Mo tk_Mo nn_Mo (by decide) km_1534 rfl (tk_Mo 13 (by decide)) rfl rfl ec6 ?_
    refine z_iinc (v := (x2 + (-8))) (lv' := [(2, .int (x2 + (-8))), (0, .ref x0), (1, .int x1)]) X dd_Mo_feedOne_30 2 rfl rfl (by decide) rfl ?_
    refine z_goto (tgt := 3) X dd_Mo_feedOne_33 (by decide) ?_
    refine z_sub [1, 2, 0] rfl ?_
    obtain rfl := Option.some.inj h
    exact k0 _ rfl
set_option maxRecDepth 100000 in
set_option maxHeartbeats 4000000 in
theorem t_Mo_feedOne_3  (X : zX p s m args cd D cid B bb_Mo_feedOne 3 rr_Mo zT) (H : zH s meth B n0 none "feedOne") {nf : Nat} {x0 : Nat} {x1 : Int32} {x2 : Int32} {c : Zc} {res : Zc} (h : f_Mo_feedOne_3 nf x0 x1 x2 c = some res) : Zz p l e (zRm 0 0 0 0) s m args below meth cd (MQ below (zQv D cid B res n0 0) args s 0 0 (fun q => B ≤ q)) D cid B 3 0 0 c 3 [(0, .ref x0), (1, .int x1), (2, .int x2)] [] := by
  unfold f_Mo_feedOne_3 at h
  obtain ⟨b, eb, h⟩ := zb h
  refine zlp_ok (P := fun a : Nat × Int32 × Int32 × Zc => Zz p l e (zRm 0 0 0 0) s m args below meth cd _ D cid B 3 0 0 a.2.2.2 3 [(0, .ref a.1), (1, .int a.2.1), (2, .int a.2.2.1)] []) (G := fun b : Zc => Zz p l e (zRm 0 0 0 0) s m args below meth cd _ D cid B 3 0 0 b 36 [] []) (fun a r ha k0 k1 => u_Mo_feedOne_3 X H ha k0 k1) nf _ b eb ?_
  obtain rfl := Option.some.inj h
  exact z_vret X H.1 H.2.1 H.2.2.1 dd_Mo_feedOne_36
set_option maxRecDepth 100000 in
set_option maxHeartbeats 4000000 in
theorem c_Mo_feedOne (l : Launch) {nf : Nat} {a0 : Nat} {a1 : Int32} {c : Zc} {res : Zc} (h : f_Mo_feedOne nf a0 a1 c = some res) : zM l yy_Mo_feedOne ww_Mo_feedOne 0 0 0 0 [.ref a0, .int a1] c (fun D cid B => zQv D cid B res c.length 0) := by
  refine z_met (cc := bb_Mo_feedOne) (maxL := 3) (ret := none) (by decide +kernel) rfl (Nat.le_of_ble_eq_true rfl) ?_
  intro p e s m args below meth cd D cid B X h1 h2 h3 h4
  have X : zX p s m args cd D cid B bb_Mo_feedOne 3 rr_Mo zT := X
  have H : zH s meth B c.length none "feedOne" := ⟨h1, h2, h4, h3⟩
  unfold f_Mo_feedOne at h
  show Zz p l e (zRm 0 0 0 0) s m args below meth cd _ D cid B 3 0 0 c 0 [(0, .ref a0), (1, .int a1)] []
  refine z_bipush (v := 24) X dd_Mo_feedOne_0 (by decide) ?_
  refine z_istore_n (lv' := [(2, .int 24), (0, .ref a0), (1, .int a1)]) X dd_Mo_feedOne_2 rfl (by decide) rfl ?_
  refine z_sub [1, 2, 0] rfl ?_
  exact t_Mo_feedOne_3 X H h
theorem dd_Mo_feed_0 : decode bb_Mo_feed 0 = .ok (.aload_n 0, 1) := by decide +kernel
theorem dd_Mo_feed_1 : decode bb_Mo_feed 1 = .ok (.getfield 426, 3) := by decide +kernel
theorem dd_Mo_feed_4 : decode bb_Mo_feed 4 = .ok (.bipush 20, 2) := by decide +kernel
theorem dd_Mo_feed_6 : decode bb_Mo_feed 6 = .ok (.iadd, 1) := by decide +kernel
theorem dd_Mo_feed_7 : decode bb_Mo_feed 7 = .ok (.sipush 1500, 3) := by decide +kernel
theorem dd_Mo_feed_10 : decode bb_Mo_feed 10 = .ok (.if_icmp .le 6, 3) := by decide +kernel
theorem dd_Mo_feed_13 : decode bb_Mo_feed 13 = .ok (.bipush (-3), 2) := by decide +kernel
theorem dd_Mo_feed_15 : decode bb_Mo_feed 15 = .ok (.ireturn, 1) := by decide +kernel
theorem dd_Mo_feed_16 : decode bb_Mo_feed 16 = .ok (.aload_n 0, 1) := by decide +kernel
theorem dd_Mo_feed_17 : decode bb_Mo_feed 17 = .ok (.iload_n 1, 1) := by decide +kernel
theorem dd_Mo_feed_18 : decode bb_Mo_feed 18 = .ok (.invokevirtual 533, 3) := by decide +kernel
theorem dd_Mo_feed_21 : decode bb_Mo_feed 21 = .ok (.aload_n 0, 1) := by decide +kernel
theorem dd_Mo_feed_22 : decode bb_Mo_feed 22 = .ok (.iload_n 2, 1) := by decide +kernel
theorem dd_Mo_feed_23 : decode bb_Mo_feed 23 = .ok (.invokevirtual 533, 3) := by decide +kernel
theorem dd_Mo_feed_26 : decode bb_Mo_feed 26 = .ok (.aload_n 0, 1) := by decide +kernel
theorem dd_Mo_feed_27 : decode bb_Mo_feed 27 = .ok (.iload_n 3, 1) := by decide +kernel
theorem dd_Mo_feed_28 : decode bb_Mo_feed 28 = .ok (.invokevirtual 533, 3) := by decide +kernel
theorem dd_Mo_feed_31 : decode bb_Mo_feed 31 = .ok (.aload_n 0, 1) := by decide +kernel
theorem dd_Mo_feed_32 : decode bb_Mo_feed 32 = .ok (.iload 4, 2) := by decide +kernel
theorem dd_Mo_feed_34 : decode bb_Mo_feed 34 = .ok (.invokevirtual 533, 3) := by decide +kernel
theorem dd_Mo_feed_37 : decode bb_Mo_feed 37 = .ok (.aload_n 0, 1) := by decide +kernel
theorem dd_Mo_feed_38 : decode bb_Mo_feed 38 = .ok (.iload 5, 2) := by decide +kernel
theorem dd_Mo_feed_40 : decode bb_Mo_feed 40 = .ok (.invokevirtual 533, 3) := by decide +kernel
theorem dd_Mo_feed_43 : decode bb_Mo_feed 43 = .ok (.aload_n 0, 1) := by decide +kernel
theorem dd_Mo_feed_44 : decode bb_Mo_feed 44 = .ok (.getfield 426, 3) := by decide +kernel
theorem dd_Mo_feed_47 : decode bb_Mo_feed 47 = .ok (.ireturn, 1) := by decide +kernel
def f_Mo_feed (nf : Nat) (a0 : Nat) (a1 : Int32) (a2 : Int32) (a3 : Int32) (a4 : Int32) (a5 : Int32) (c : Zc) : Option (Int32 × Zc) :=
  (zgi c a0 12 13).bind fun v1 => if (v1 + 20) ≤ 1500 then ((zob c a0 12).bind fun w4 => (f_Mo_feedOne nf a0 a1 c).bind fun q3 => (zob q3 a0 12).bind fun w6 => (f_Mo_feedOne nf a0 a2 q3).bind fun q5 => (zob q5 a0 12).bind fun w8 => (f_Mo_feedOne nf a0 a3 q5).bind fun q7 => (zob q7 a0 12).bind fun w10 => (f_Mo_feedOne nf a0 a4 q7).bind fun q9 => (zob q9 a0 12).bind fun w12 => (f_Mo_feedOne nf a0 a5 q9).bind fun q11 => (zgi q11 a0 12 13).bind fun v13 => some (v13, q11)) else (some ((-3), c))
set_option maxRecDepth 100000 in
set_option maxHeartbeats 4000000 in
theorem c_Mo_feed (l : Launch) {nf : Nat} {a0 : Nat} {a1 : Int32} {a2 : Int32} {a3 : Int32} {a4 : Int32} {a5 : Int32} {c : Zc} {res : Int32 × Zc} (h : f_Mo_feed nf a0 a1 a2 a3 a4 a5 c = some res) : zM l yy_Mo_feed ww_Mo_feed 1 22 0 0 [.ref a0, .int a1, .int a2, .int a3, .int a4, .int a5] c (fun D cid B => zQi D cid B res.1 res.2 c.length 0) := by
  refine z_met (cc := bb_Mo_feed) (maxL := 6) (ret := (some (.int))) (by decide +kernel) rfl (Nat.le_of_ble_eq_true rfl) ?_
  intro p e s m args below meth cd D cid B X h1 h2 h3 h4
  have X : zX p s m args cd D cid B bb_Mo_feed 6 rr_Mo zT := X
  have H : zH s meth B c.length (some (.int)) "feed" := ⟨h1, h2, h4, h3⟩
  unfold f_Mo_feed at h
  show Zz p l e (zRm 1 22 0 0) s m args below meth cd _ D cid B 6 0 0 c 0 [(0, .ref a0), (1, .int a1), (2, .int a2), (3, .int a3), (4, .int a4), (5, .int a5)] []
  refine z_aload_n X dd_Mo_feed_0 rfl 0 rfl ?_
  obtain ⟨v1, ev1, h⟩ := zb h
  refine z_get (j := 13) X dd_Mo_feed_1 kc_12 ki_12 (by decide) km_1534 (zgi_v ev1) ?_
  refine z_bipush (v := 20) X dd_Mo_feed_4 (by decide) ?_
  refine z_iadd X dd_Mo_feed_6 ?_
  refine z_sipush (v := 1500) X dd_Mo_feed_7 (by decide) ?_
  refine z_icmp_le (tgt := 16) X dd_Mo_feed_10 (by decide) (fun q2 => ?_) (fun q2 => ?_)
  · rw [if_pos q2] at h
    refine z_aload_n X dd_Mo_feed_16 rfl 0 rfl ?_
    refine z_iload_n X dd_Mo_feed_17 rfl 1 rfl ?_
    obtain ⟨w4, ew4, h⟩ := zb h
    obtain ⟨q3, eq3, h⟩ := zb h
    refine z_callVv X [.int a1] rfl dd_Mo_feed_18 (c_Mo_feedOne l eq3) (cwV 1 X.1.2.2.2.2 (zg_V km_1797 km_1799 km_59 km_138 km_1800) rfl rfl rfl (by decide +kernel) ⟨Nat.le_of_ble_eq_true rfl, Nat.le_of_ble_eq_true rfl⟩) (zob_s ew4) kc_12 rfl (Nat.le_of_ble_eq_true rfl) ⟨Nat.le_of_ble_eq_true rfl, Nat.le_of_ble_eq_true rfl⟩ ?_
    refine z_aload_n X dd_Mo_feed_21 rfl 0 rfl ?_
    refine z_iload_n X dd_Mo_feed_22 rfl 2 rfl ?_
    obtain ⟨w6, ew6, h⟩ := zb h
    obtain ⟨q5, eq5, h⟩ := zb h
    refine z_callVv X [.int a2] rfl dd_Mo_feed_23 (c_Mo_feedOne l eq5) (cwV 1 X.1.2.2.2.2 (zg_V km_1797 km_1799 km_59 km_138 km_1800) rfl rfl rfl (by decide +kernel) ⟨Nat.le_of_ble_eq_true rfl, Nat.le_of_ble_eq_true rfl⟩) (zob_s ew6) kc_12 rfl (Nat.le_of_ble_eq_true rfl) ⟨Nat.le_of_ble_eq_true rfl, Nat.le_of_ble_eq_true rfl⟩ ?_
    refine z_aload_n X dd_Mo_feed_26 rfl 0 rfl ?_
    refine z_iload_n X dd_Mo_feed_27 rfl 3 rfl ?_
    obtain ⟨w8, ew8, h⟩ := zb h
    obtain ⟨q7, eq7, h⟩ := zb h
    refine z_callVv X [.int a3] rfl dd_Mo_feed_28 (c_Mo_feedOne l eq7) (cwV 1 X.1.2.2.2.2 (zg_V km_1797 km_1799 km_59 km_138 km_1800) rfl rfl rfl (by decide +kernel) ⟨Nat.le_of_ble_eq_true rfl, Nat.le_of_ble_eq_true rfl⟩) (zob_s ew8) kc_12 rfl (Nat.le_of_ble_eq_true rfl) ⟨Nat.le_of_ble_eq_true rfl, Nat.le_of_ble_eq_true rfl⟩ ?_
    refine z_aload_n X dd_Mo_feed_31 rfl 0 rfl ?_
    refine z_iload X dd_Mo_feed_32 4 rfl ?_
    obtain ⟨w10, ew10, h⟩ := zb h
    obtain ⟨q9, eq9, h⟩ := zb h
    refine z_callVv X [.int a4] rfl dd_Mo_feed_34 (c_Mo_feedOne l eq9) (cwV 1 X.1.2.2.2.2 (zg_V km_1797 km_1799 km_59 km_138 km_1800) rfl rfl rfl (by decide +kernel) ⟨Nat.le_of_ble_eq_true rfl, Nat.le_of_ble_eq_true rfl⟩) (zob_s ew10) kc_12 rfl (Nat.le_of_ble_eq_true rfl) ⟨Nat.le_of_ble_eq_true rfl, Nat.le_of_ble_eq_true rfl⟩ ?_
    refine z_aload_n X dd_Mo_feed_37 rfl 0 rfl ?_
    refine z_iload X dd_Mo_feed_38 5 rfl ?_
    obtain ⟨w12, ew12, h⟩ := zb h
    obtain ⟨q11, eq11, h⟩ := zb h
    refine z_callVv X [.int a5] rfl dd_Mo_feed_40 (c_Mo_feedOne l eq11) (cwV 1 X.1.2.2.2.2 (zg_V km_1797 km_1799 km_59 km_138 km_1800) rfl rfl rfl (by decide +kernel) ⟨Nat.le_of_ble_eq_true rfl, Nat.le_of_ble_eq_true rfl⟩) (zob_s ew12) kc_12 rfl (Nat.le_of_ble_eq_true rfl) ⟨Nat.le_of_ble_eq_true rfl, Nat.le_of_ble_eq_true rfl⟩ ?_
    refine z_aload_n X dd_Mo_feed_43 rfl 0 rfl ?_
    obtain ⟨v13, ev13, h⟩ := zb h
    refine z_get (j := 13) X dd_Mo_feed_44 kc_12 ki_12 (by decide) km_1534 (zgi_v ev13) ?_
    obtain rfl := Option.some.inj h
    exact z_iret X H.1 H.2.1 H.2.2.1 dd_Mo_feed_47
  · rw [if_neg q2] at h
    refine z_bipush (v := (-3)) X dd_Mo_feed_13 (by decide) ?_
    obtain rfl := Option.some.inj h
    exact z_iret X H.1 H.2.1 H.2.2.1 dd_Mo_feed_15
theorem dd_Mo_cut_0 : decode bb_Mo_cut 0 = .ok (.iload_n 1, 1) := by decide +kernel
theorem dd_Mo_cut_1 : decode bb_Mo_cut 1 = .ok (.ifCond .lt 11, 3) := by decide +kernel
theorem dd_Mo_cut_4 : decode bb_Mo_cut 4 = .ok (.iload_n 1, 1) := by decide +kernel
theorem dd_Mo_cut_5 : decode bb_Mo_cut 5 = .ok (.aload_n 0, 1) := by decide +kernel
theorem dd_Mo_cut_6 : decode bb_Mo_cut 6 = .ok (.getfield 426, 3) := by decide +kernel
theorem dd_Mo_cut_9 : decode bb_Mo_cut 9 = .ok (.if_icmp .le 5, 3) := by decide +kernel
theorem dd_Mo_cut_12 : decode bb_Mo_cut 12 = .ok (.iconst (-1), 1) := by decide +kernel
theorem dd_Mo_cut_13 : decode bb_Mo_cut 13 = .ok (.ireturn, 1) := by decide +kernel
theorem dd_Mo_cut_14 : decode bb_Mo_cut 14 = .ok (.aload_n 0, 1) := by decide +kernel
theorem dd_Mo_cut_15 : decode bb_Mo_cut 15 = .ok (.dup, 1) := by decide +kernel
theorem dd_Mo_cut_16 : decode bb_Mo_cut 16 = .ok (.getfield 426, 3) := by decide +kernel
theorem dd_Mo_cut_19 : decode bb_Mo_cut 19 = .ok (.iload_n 1, 1) := by decide +kernel
theorem dd_Mo_cut_20 : decode bb_Mo_cut 20 = .ok (.isub, 1) := by decide +kernel
theorem dd_Mo_cut_21 : decode bb_Mo_cut 21 = .ok (.putfield 426, 3) := by decide +kernel
theorem dd_Mo_cut_24 : decode bb_Mo_cut 24 = .ok (.aload_n 0, 1) := by decide +kernel
theorem dd_Mo_cut_25 : decode bb_Mo_cut 25 = .ok (.getfield 426, 3) := by decide +kernel
theorem dd_Mo_cut_28 : decode bb_Mo_cut 28 = .ok (.ireturn, 1) := by decide +kernel
def f_Mo_cut_12 (nf : Nat)  (c : Zc) : Option (Int32 × Zc) :=
  some ((-1), c)
def f_Mo_cut (nf : Nat) (a0 : Nat) (a1 : Int32) (c : Zc) : Option (Int32 × Zc) :=
  if a1 < 0 then (f_Mo_cut_12 nf  c) else ((zgi c a0 12 13).bind fun v2 => if a1 ≤ v2 then ((zgi c a0 12 13).bind fun v4 => (zpv c a0 12 13 (.int (v4 - a1))).bind fun c5 => (zgi c5 a0 12 13).bind fun v6 => some (v6, c5)) else (f_Mo_cut_12 nf  c))
set_option maxRecDepth 100000 in
set_option maxHeartbeats 4000000 in
theorem t_Mo_cut_12  (X : zX p s m args cd D cid B bb_Mo_cut 2 rr_Mo zT) (H : zH s meth B n0 (some (.int)) "cut") {nf : Nat}  {c : Zc} {res : Int32 × Zc} (h : f_Mo_cut_12 nf  c = some res) : Zz p l e (zRm 0 0 0 0) s m args below meth cd (MQ below (zQi D cid B res.1 res.2 n0 0) args s 0 0 (fun q => B ≤ q)) D cid B 2 0 0 c 12 [] [] := by
  unfold f_Mo_cut_12 at h
  refine z_iconst (v := (-1)) X dd_Mo_cut_12 (by decide) ?_
  obtain rfl := Option.some.inj h
  exact z_iret X H.1 H.2.1 H.2.2.1 dd_Mo_cut_13
set_option maxRecDepth 100000 in
set_option maxHeartbeats 4000000 in
theorem c_Mo_cut (l : Launch) {nf : Nat} {a0 : Nat} {a1 : Int32} {c : Zc} {res : Int32 × Zc} (h : f_Mo_cut nf a0 a1 c = some res) : zM l yy_Mo_cut ww_Mo_cut 0 0 0 0 [.ref a0, .int a1] c (fun D cid B => zQi D cid B res.1 res.2 c.length 0) := by
  refine z_met (cc := bb_Mo_cut) (maxL := 2) (ret := (some (.int))) (by decide +kernel) rfl (Nat.le_of_ble_eq_true rfl) ?_
  intro p e s m args below meth cd D cid B X h1 h2 h3 h4
  have X : zX p s m args cd D cid B bb_Mo_cut 2 rr_Mo zT := X
  have H : zH s meth B c.length (some (.int)) "cut" := ⟨h1, h2, h4, h3⟩
  unfold f_Mo_cut at h
  show Zz p l e (zRm 0 0 0 0) s m args below meth cd _ D cid B 2 0 0 c 0 [(0, .ref a0), (1, .int a1)] []
  refine z_iload_n X dd_Mo_cut_0 rfl 1 rfl ?_
  refine z_if_lt (tgt := 12) X dd_Mo_cut_1 (by decide) (fun q1 => ?_) (fun q1 => ?_)
  · rw [if_pos q1] at h
    refine z_sub [] rfl ?_
    exact t_Mo_cut_12 X H h
  · rw [if_neg q1] at h
    refine z_iload_n X dd_Mo_cut_4 rfl 1 rfl ?_
    refine z_aload_n X dd_Mo_cut_5 rfl 0 rfl ?_
    obtain ⟨v2, ev2, h⟩ := zb h
    refine z_get (j := 13) X dd_Mo_cut_6 kc_12 ki_12 (by decide) km_1534 (zgi_v ev2) ?_
    refine z_icmp_le (tgt := 14) X dd_Mo_cut_9 (by decide) (fun q3 => ?_) (fun q3 => ?_)
    · rw [if_pos q3] at h
      refine z_aload_n X dd_Mo_cut_14 rfl 0 rfl ?_
      refine z_dup X dd_Mo_cut_15 rfl ?_
      obtain ⟨v4, ev4, h⟩ := zb h
      refine z_get (j := 13) X dd_Mo_cut_16 kc_12 ki_12 (by decide) km_1534 (zgi_v ev4) ?_
      refine z_iload_n X dd_Mo_cut_19 rfl 1 rfl ?_
      refine z_isub X dd_Mo_cut_20 ?_
      obtain ⟨c5, ec5, h⟩ := zb h
      refine z_put (j := 13) X dd_Mo_cut_21 kc_12 ki_12 tt_Mo tk_Mo nn_Mo (by decide) km_1534 rfl (tk_Mo 13 (by decide)) rfl rfl ec5 ?_
      refine z_aload_n X dd_Mo_cut_24 rfl 0 rfl ?_
      obtain ⟨v6, ev6, h⟩ := zb h
      refine z_get (j := 13) X dd_Mo_cut_25 kc_12 ki_12 (by decide) km_1534 (zgi_v ev6) ?_
      obtain rfl := Option.some.inj h
      exact z_iret X H.1 H.2.1 H.2.2.1 dd_Mo_cut_28
    · rw [if_neg q3] at h
      refine z_sub [] rfl ?_
      exact t_Mo_cut_12 X H h
theorem dd_Mo_node_0 : decode bb_Mo_node 0 = .ok (.iload_n 1, 1) := by decide +kernel
theorem dd_Mo_node_1 : decode bb_Mo_node 1 = .ok (.sipush 256, 3) := by decide +kernel
theorem dd_Mo_node_4 : decode bb_Mo_node 4 = .ok (.invokestatic 536, 3) := by decide +kernel
theorem dd_Mo_node_7 : decode bb_Mo_node 7 = .ok (.ifCond .ne 5, 3) := by decide +kernel
theorem dd_Mo_node_10 : decode bb_Mo_node 10 = .ok (.iconst (-1), 1) := by decide +kernel
theorem dd_Mo_node_11 : decode bb_Mo_node 11 = .ok (.ireturn, 1) := by decide +kernel
theorem dd_Mo_node_12 : decode bb_Mo_node 12 = .ok (.aload_n 0, 1) := by decide +kernel
theorem dd_Mo_node_13 : decode bb_Mo_node 13 = .ok (.getfield 450, 3) := by decide +kernel
theorem dd_Mo_node_16 : decode bb_Mo_node 16 = .ok (.bipush 16, 2) := by decide +kernel
theorem dd_Mo_node_18 : decode bb_Mo_node 18 = .ok (.if_icmp .ne 6, 3) := by decide +kernel
theorem dd_Mo_node_21 : decode bb_Mo_node 21 = .ok (.bipush (-3), 2) := by decide +kernel
theorem dd_Mo_node_23 : decode bb_Mo_node 23 = .ok (.ireturn, 1) := by decide +kernel
theorem dd_Mo_node_24 : decode bb_Mo_node 24 = .ok (.aload_n 0, 1) := by decide +kernel
theorem dd_Mo_node_25 : decode bb_Mo_node 25 = .ok (.getfield 7, 3) := by decide +kernel
theorem dd_Mo_node_28 : decode bb_Mo_node 28 = .ok (.aload_n 0, 1) := by decide +kernel
theorem dd_Mo_node_29 : decode bb_Mo_node 29 = .ok (.getfield 450, 3) := by decide +kernel
theorem dd_Mo_node_32 : decode bb_Mo_node 32 = .ok (.iload_n 1, 1) := by decide +kernel
theorem dd_Mo_node_33 : decode bb_Mo_node 33 = .ok (.iastore, 1) := by decide +kernel
theorem dd_Mo_node_34 : decode bb_Mo_node 34 = .ok (.iconst 0, 1) := by decide +kernel
theorem dd_Mo_node_35 : decode bb_Mo_node 35 = .ok (.istore_n 2, 1) := by decide +kernel
theorem dd_Mo_node_36 : decode bb_Mo_node 36 = .ok (.iload_n 2, 1) := by decide +kernel
theorem dd_Mo_node_37 : decode bb_Mo_node 37 = .ok (.iconst 4, 1) := by decide +kernel
theorem dd_Mo_node_38 : decode bb_Mo_node 38 = .ok (.if_icmp .ge 23, 3) := by decide +kernel
theorem dd_Mo_node_41 : decode bb_Mo_node 41 = .ok (.aload_n 0, 1) := by decide +kernel
theorem dd_Mo_node_42 : decode bb_Mo_node 42 = .ok (.getfield 13, 3) := by decide +kernel
theorem dd_Mo_node_45 : decode bb_Mo_node 45 = .ok (.iconst 4, 1) := by decide +kernel
theorem dd_Mo_node_46 : decode bb_Mo_node 46 = .ok (.aload_n 0, 1) := by decide +kernel
theorem dd_Mo_node_47 : decode bb_Mo_node 47 = .ok (.getfield 450, 3) := by decide +kernel
theorem dd_Mo_node_50 : decode bb_Mo_node 50 = .ok (.imul, 1) := by decide +kernel
theorem dd_Mo_node_51 : decode bb_Mo_node 51 = .ok (.iload_n 2, 1) := by decide +kernel
theorem dd_Mo_node_52 : decode bb_Mo_node 52 = .ok (.iadd, 1) := by decide +kernel
theorem dd_Mo_node_53 : decode bb_Mo_node 53 = .ok (.iconst 0, 1) := by decide +kernel
theorem dd_Mo_node_54 : decode bb_Mo_node 54 = .ok (.iastore, 1) := by decide +kernel
theorem dd_Mo_node_55 : decode bb_Mo_node 55 = .ok (.iinc 2 1, 3) := by decide +kernel
theorem dd_Mo_node_58 : decode bb_Mo_node 58 = .ok (.goto (-22), 3) := by decide +kernel
theorem dd_Mo_node_61 : decode bb_Mo_node 61 = .ok (.aload_n 0, 1) := by decide +kernel
theorem dd_Mo_node_62 : decode bb_Mo_node 62 = .ok (.dup, 1) := by decide +kernel
theorem dd_Mo_node_63 : decode bb_Mo_node 63 = .ok (.getfield 450, 3) := by decide +kernel
theorem dd_Mo_node_66 : decode bb_Mo_node 66 = .ok (.iconst 1, 1) := by decide +kernel
theorem dd_Mo_node_67 : decode bb_Mo_node 67 = .ok (.iadd, 1) := by decide +kernel
theorem dd_Mo_node_68 : decode bb_Mo_node 68 = .ok (.putfield 450, 3) := by decide +kernel
theorem dd_Mo_node_71 : decode bb_Mo_node 71 = .ok (.aload_n 0, 1) := by decide +kernel
theorem dd_Mo_node_72 : decode bb_Mo_node 72 = .ok (.invokevirtual 540, 3) := by decide +kernel
theorem dd_Mo_node_75 : decode bb_Mo_node 75 = .ok (.aload_n 0, 1) := by decide +kernel
theorem dd_Mo_node_76 : decode bb_Mo_node 76 = .ok (.getfield 450, 3) := by decide +kernel
theorem dd_Mo_node_79 : decode bb_Mo_node 79 = .ok (.iconst 1, 1) := by decide +kernel
theorem dd_Mo_node_80 : decode bb_Mo_node 80 = .ok (.isub, 1) := by decide +kernel
theorem dd_Mo_node_81 : decode bb_Mo_node 81 = .ok (.ireturn, 1) := by decide +kernel
def g_Mo_node_36 (nf : Nat) (x0 : Nat) (x2 : Int32) (c : Zc) : Option ((Nat × Int32 × Zc) ⊕ (Nat × Zc)) :=
  if 4 ≤ x2 then (some (.inr (x0, c))) else ((zgr c x0 12 2).bind fun v9 => (zgi c x0 12 0).bind fun v10 => (zsi c v9 0 ((4 * v10) + x2) 0).bind fun c11 => some (.inl (x0, (x2 + 1), c11)))
def f_Mo_node_36 (nf : Nat) (x0 : Nat) (x2 : Int32) (c : Zc) : Option (Int32 × Zc) :=
  (zlp (fun a => g_Mo_node_36 nf a.1 a.2.1 a.2.2) nf (x0, x2, c)).bind fun b => (zgi b.2 b.1 12 0).bind fun v12 => (zpv b.2 b.1 12 0 (.int (v12 + 1))).bind fun c13 => (zob c13 b.1 12).bind fun w15 => (f_Mo_changed nf b.1 c13).bind fun q14 => (zgi q14 b.1 12 0).bind fun v16 => some ((v16 - 1), q14)
def f_Mo_node (nf : Nat) (a0 : Nat) (a1 : Int32) (c : Zc) : Option (Int32 × Zc) :=
  (f_Mo_isIn nf a1 256 c).bind fun q1 => if q1.1 = 0 then (some ((-1), q1.2)) else ((zgi q1.2 a0 12 0).bind fun v3 => if v3 = 16 then (some ((-3), q1.2)) else ((zgr q1.2 a0 12 1).bind fun v5 => (zgi q1.2 a0 12 0).bind fun v6 => (zsi q1.2 v5 0 v6 a1).bind fun c7 => f_Mo_node_36 nf a0 0 c7))
set_option maxRecDepth 100000 in
set_option maxHeartbeats 4000000 in
theorem u_Mo_node_36  (X : zX p s m args cd D cid B bb_Mo_node 3 rr_Mo zT) (H : zH s meth B n0 (some (.int)) "node") {nf : Nat} {x0 : Nat} {x2 : Int32} {c : Zc} {r : (Nat × Int32 × Zc) ⊕ (Nat × Zc)} (h : g_Mo_node_36 nf x0 x2 c = some r) (k0 : ∀ a, r = .inl a → (fun a : Nat × Int32 × Zc => Zz p l e (zRm 1 21 0 0) s m args below meth cd Q D cid B 3 0 0 a.2.2 36 [(0, .ref a.1), (2, .int a.2.1)] []) a) (k1 : ∀ b, r = .inr b → (fun b : Nat × Zc => Zz p l e (zRm 1 21 0 0) s m args below meth cd Q D cid B 3 0 0 b.2 61 [(0, .ref b.1)] []) b) : Zz p l e (zRm 1 21 0 0) s m args below meth cd Q D cid B 3 0 0 c 36 [(0, .ref x0), (2, .int x2)] [] := by
  unfold g_Mo_node_36 at h
  refine z_iload_n X dd_Mo_node_36 rfl 1 rfl ?_
  refine z_iconst (v := 4) X dd_Mo_node_37 (by decide) ?_
  refine z_icmp_ge (tgt := 61) X dd_Mo_node_38 (by decide) (fun q8 => ?_) (fun q8 => ?_)
  · rw [if_pos q8] at h
    refine z_sub [0] rfl ?_
    obtain rfl := Option.some.inj h
    exact k1 _ rfl
  · rw [if_neg q8] at h
    refine z_aload_n X dd_Mo_node_41 rfl 0 rfl ?_
    obtain ⟨v9, ev9, h⟩ := zb h
    refine z_get (j := 2) X dd_Mo_node_42 kc_12 ki_12 (by decide) km_1523 (zgr_v ev9) ?_
    refine z_iconst (v := 4) X dd_Mo_node_45 (by decide) ?_
    refine z_aload_n X dd_Mo_node_46 rfl 0 rfl ?_
    obtain ⟨v10, ev10, h⟩ := zb h
    refine z_get (j := 0) X dd_Mo_node_47 kc_12 ki_12 (by decide) km_1521 (zgi_v ev10) ?_
    refine z_imul X dd_Mo_node_50 ?_
    refine z_iload_n X dd_Mo_node_51 rfl 1 rfl ?_
    refine z_iadd X dd_Mo_node_52 ?_
    refine z_iconst (v := 0) X dd_Mo_node_53 (by decide) ?_
    obtain ⟨c11, ec11, h⟩ := zb h
    refine z_iastore X dd_Mo_node_54 rfl ec11 ?_
    refine z_iinc (v := (x2 + 1)) (lv' := [(2, .int (x2 + 1)), (0, .ref x0)]) X dd_Mo_node_55 1 rfl rfl (by decide) rfl ?_
    refine z_goto (tgt := 36) X dd_Mo_node_58 (by decide) ?_
    refine z_sub [1, 0] rfl ?_
    obtain rfl := Option.some.inj h
    exact k0 _ rfl
set_option maxRecDepth 100000 in
set_option maxHeartbeats 4000000 in
theorem t_Mo_node_36  (X : zX p s m args cd D cid B bb_Mo_node 3 rr_Mo zT) (H : zH s meth B n0 (some (.int)) "node") {nf : Nat} {x0 : Nat} {x2 : Int32} {c : Zc} {res : Int32 × Zc} (h : f_Mo_node_36 nf x0 x2 c = some res) : Zz p l e (zRm 1 21 0 0) s m args below meth cd (MQ below (zQi D cid B res.1 res.2 n0 0) args s 0 0 (fun q => B ≤ q)) D cid B 3 0 0 c 36 [(0, .ref x0), (2, .int x2)] [] := by
  unfold f_Mo_node_36 at h
  obtain ⟨b, eb, h⟩ := zb h
  refine zlp_ok (P := fun a : Nat × Int32 × Zc => Zz p l e (zRm 1 21 0 0) s m args below meth cd _ D cid B 3 0 0 a.2.2 36 [(0, .ref a.1), (2, .int a.2.1)] []) (G := fun b : Nat × Zc => Zz p l e (zRm 1 21 0 0) s m args below meth cd _ D cid B 3 0 0 b.2 61 [(0, .ref b.1)] []) (fun a r ha k0 k1 => u_Mo_node_36 X H ha k0 k1) nf _ b eb ?_
  refine z_aload_n X dd_Mo_node_61 rfl 0 rfl ?_
  refine z_dup X dd_Mo_node_62 rfl ?_
  obtain ⟨v12, ev12, h⟩ := zb h
  refine z_get (j := 0) X dd_Mo_node_63 kc_12 ki_12 (by decide) km_1521 (zgi_v ev12) ?_
  refine z_iconst (v := 1) X dd_Mo_node_66 (by decide) ?_
  refine z_iadd X dd_Mo_node_67 ?_
  obtain ⟨c13, ec13, h⟩ := zb h
  refine z_put (j := 0) X dd_Mo_node_68 kc_12 ki_12 tt_Mo tk_Mo nn_Mo (by decide) km_1521 rfl (tk_Mo 0 (by decide)) rfl rfl ec13 ?_
  refine z_aload_n X dd_Mo_node_71 rfl 0 rfl ?_
  obtain ⟨w15, ew15, h⟩ := zb h
  obtain ⟨q14, eq14, h⟩ := zb h
  refine z_callVv X [] rfl dd_Mo_node_72 (c_Mo_changed l eq14) (cwV 0 X.1.2.2.2.2 (zg_V km_1812 km_1814 km_60 km_138 km_1815) rfl rfl rfl (by decide +kernel) ⟨Nat.le_of_ble_eq_true rfl, Nat.le_of_ble_eq_true rfl⟩) (zob_s ew15) kc_12 rfl (Nat.le_of_ble_eq_true rfl) ⟨Nat.le_of_ble_eq_true rfl, Nat.le_of_ble_eq_true rfl⟩ ?_
  refine z_aload_n X dd_Mo_node_75 rfl 0 rfl ?_
  obtain ⟨v16, ev16, h⟩ := zb h
  refine z_get (j := 0) X dd_Mo_node_76 kc_12 ki_12 (by decide) km_1521 (zgi_v ev16) ?_
  refine z_iconst (v := 1) X dd_Mo_node_79 (by decide) ?_
  refine z_isub X dd_Mo_node_80 ?_
  obtain rfl := Option.some.inj h
  exact z_iret X H.1 H.2.1 H.2.2.1 dd_Mo_node_81
set_option maxRecDepth 100000 in
set_option maxHeartbeats 4000000 in
theorem c_Mo_node (l : Launch) {nf : Nat} {a0 : Nat} {a1 : Int32} {c : Zc} {res : Int32 × Zc} (h : f_Mo_node nf a0 a1 c = some res) : zM l yy_Mo_node ww_Mo_node 1 21 0 0 [.ref a0, .int a1] c (fun D cid B => zQi D cid B res.1 res.2 c.length 0) := by
  refine z_met (cc := bb_Mo_node) (maxL := 3) (ret := (some (.int))) (by decide +kernel) rfl (Nat.le_of_ble_eq_true rfl) ?_
  intro p e s m args below meth cd D cid B X h1 h2 h3 h4
  have X : zX p s m args cd D cid B bb_Mo_node 3 rr_Mo zT := X
  have H : zH s meth B c.length (some (.int)) "node" := ⟨h1, h2, h4, h3⟩
  unfold f_Mo_node at h
  show Zz p l e (zRm 1 21 0 0) s m args below meth cd _ D cid B 3 0 0 c 0 [(0, .ref a0), (1, .int a1)] []
  refine z_iload_n X dd_Mo_node_0 rfl 1 rfl ?_
  refine z_sipush (v := 256) X dd_Mo_node_1 (by decide) ?_
  obtain ⟨q1, eq1, h⟩ := zb h
  refine z_callSi X [.int a1, .int 256] rfl dd_Mo_node_4 (c_Mo_isIn l eq1) (va_cwS 2 X.1.2.2.2.2 (zg_S km_1809 km_1810 km_138 km_1811) rfl rfl rfl (by decide +kernel) ⟨Nat.le_of_ble_eq_true rfl, Nat.le_of_ble_eq_true rfl⟩) rfl (Nat.le_of_ble_eq_true rfl) ⟨Nat.le_of_ble_eq_true rfl, Nat.le_of_ble_eq_true rfl⟩ ?_
  refine z_if_ne (tgt := 12) X dd_Mo_node_7 (by decide) (fun q2 => ?_) (fun q2 => ?_)
  · rw [if_neg q2] at h
    refine z_aload_n X dd_Mo_node_12 rfl 0 rfl ?_
    obtain ⟨v3, ev3, h⟩ := zb h
    refine z_get (j := 0) X dd_Mo_node_13 kc_12 ki_12 (by decide) km_1521 (zgi_v ev3) ?_
    refine z_bipush (v := 16) X dd_Mo_node_16 (by decide) ?_
    refine z_icmp_ne (tgt := 24) X dd_Mo_node_18 (by decide) (fun q4 => ?_) (fun q4 => ?_)
    · rw [if_neg q4] at h
      refine z_aload_n X dd_Mo_node_24 rfl 0 rfl ?_
      obtain ⟨v5, ev5, h⟩ := zb h
      refine z_get (j := 1) X dd_Mo_node_25 kc_12 ki_12 (by decide) km_1522 (zgr_v ev5) ?_
      refine z_aload_n X dd_Mo_node_28 rfl 0 rfl ?_
      obtain ⟨v6, ev6, h⟩ := zb h
      refine z_get (j := 0) X dd_Mo_node_29 kc_12 ki_12 (by decide) km_1521 (zgi_v ev6) ?_
      refine z_iload_n X dd_Mo_node_32 rfl 1 rfl ?_
      obtain ⟨c7, ec7, h⟩ := zb h
      refine z_iastore X dd_Mo_node_33 rfl ec7 ?_
      refine z_iconst (v := 0) X dd_Mo_node_34 (by decide) ?_
      refine z_istore_n (lv' := [(2, .int 0), (0, .ref a0), (1, .int a1)]) X dd_Mo_node_35 rfl (by decide) rfl ?_
      refine z_sub [1, 0] rfl ?_
      exact t_Mo_node_36 X H h
    · rw [if_pos q4] at h
      refine z_bipush (v := (-3)) X dd_Mo_node_21 (by decide) ?_
      obtain rfl := Option.some.inj h
      exact z_iret X H.1 H.2.1 H.2.2.1 dd_Mo_node_23
  · rw [if_pos q2] at h
    refine z_iconst (v := (-1)) X dd_Mo_node_10 (by decide) ?_
    obtain rfl := Option.some.inj h
    exact z_iret X H.1 H.2.1 H.2.2.1 dd_Mo_node_11
theorem dd_Mo_mark_0 : decode bb_Mo_mark 0 = .ok (.iload_n 1, 1) := by decide +kernel
theorem dd_Mo_mark_1 : decode bb_Mo_mark 1 = .ok (.aload_n 0, 1) := by decide +kernel
theorem dd_Mo_mark_2 : decode bb_Mo_mark 2 = .ok (.getfield 450, 3) := by decide +kernel
theorem dd_Mo_mark_5 : decode bb_Mo_mark 5 = .ok (.invokestatic 536, 3) := by decide +kernel
theorem dd_Mo_mark_8 : decode bb_Mo_mark 8 = .ok (.ifCond .eq 13, 3) := by decide +kernel
theorem dd_Mo_mark_11 : decode bb_Mo_mark 11 = .ok (.iload_n 2, 1) := by decide +kernel
theorem dd_Mo_mark_12 : decode bb_Mo_mark 12 = .ok (.sipush 256, 3) := by decide +kernel
theorem dd_Mo_mark_15 : decode bb_Mo_mark 15 = .ok (.invokestatic 536, 3) := by decide +kernel
theorem dd_Mo_mark_18 : decode bb_Mo_mark 18 = .ok (.ifCond .ne 5, 3) := by decide +kernel
theorem dd_Mo_mark_21 : decode bb_Mo_mark 21 = .ok (.iconst (-1), 1) := by decide +kernel
theorem dd_Mo_mark_22 : decode bb_Mo_mark 22 = .ok (.ireturn, 1) := by decide +kernel
theorem dd_Mo_mark_23 : decode bb_Mo_mark 23 = .ok (.aload_n 0, 1) := by decide +kernel
theorem dd_Mo_mark_24 : decode bb_Mo_mark 24 = .ok (.getfield 7, 3) := by decide +kernel
theorem dd_Mo_mark_27 : decode bb_Mo_mark 27 = .ok (.iload_n 1, 1) := by decide +kernel
theorem dd_Mo_mark_28 : decode bb_Mo_mark 28 = .ok (.iaload, 1) := by decide +kernel
theorem dd_Mo_mark_29 : decode bb_Mo_mark 29 = .ok (.istore_n 3, 1) := by decide +kernel
theorem dd_Mo_mark_30 : decode bb_Mo_mark 30 = .ok (.aload_n 0, 1) := by decide +kernel
theorem dd_Mo_mark_31 : decode bb_Mo_mark 31 = .ok (.getfield 7, 3) := by decide +kernel
theorem dd_Mo_mark_34 : decode bb_Mo_mark 34 = .ok (.iload_n 1, 1) := by decide +kernel
theorem dd_Mo_mark_35 : decode bb_Mo_mark 35 = .ok (.iload_n 2, 1) := by decide +kernel
theorem dd_Mo_mark_36 : decode bb_Mo_mark 36 = .ok (.iastore, 1) := by decide +kernel
theorem dd_Mo_mark_37 : decode bb_Mo_mark 37 = .ok (.aload_n 0, 1) := by decide +kernel
theorem dd_Mo_mark_38 : decode bb_Mo_mark 38 = .ok (.invokevirtual 540, 3) := by decide +kernel
theorem dd_Mo_mark_41 : decode bb_Mo_mark 41 = .ok (.iload_n 3, 1) := by decide +kernel
theorem dd_Mo_mark_42 : decode bb_Mo_mark 42 = .ok (.ireturn, 1) := by decide +kernel
def f_Mo_mark_21 (nf : Nat)  (c : Zc) : Option (Int32 × Zc) :=
  some ((-1), c)
def f_Mo_mark (nf : Nat) (a0 : Nat) (a1 : Int32) (a2 : Int32) (c : Zc) : Option (Int32 × Zc) :=
  (zgi c a0 12 0).bind fun v1 => (f_Mo_isIn nf a1 v1 c).bind fun q2 => if q2.1 = 0 then (f_Mo_mark_21 nf  q2.2) else ((f_Mo_isIn nf a2 256 q2.2).bind fun q4 => if q4.1 = 0 then (f_Mo_mark_21 nf  q4.2) else ((zgr q4.2 a0 12 1).bind fun v6 => (zai q4.2 v6 0 a1).bind fun v7 => (zgr q4.2 a0 12 1).bind fun v8 => (zsi q4.2 v8 0 a1 a2).bind fun c9 => (zob c9 a0 12).bind fun w11 => (f_Mo_changed nf a0 c9).bind fun q10 => some (v7, q10)))
set_option maxRecDepth 100000 in
set_option maxHeartbeats 4000000 in
theorem t_Mo_mark_21  (X : zX p s m args cd D cid B bb_Mo_mark 4 rr_Mo zT) (H : zH s meth B n0 (some (.int)) "mark") {nf : Nat}  {c : Zc} {res : Int32 × Zc} (h : f_Mo_mark_21 nf  c = some res) : Zz p l e (zRm 1 21 0 0) s m args below meth cd (MQ below (zQi D cid B res.1 res.2 n0 0) args s 0 0 (fun q => B ≤ q)) D cid B 4 0 0 c 21 [] [] := by
  unfold f_Mo_mark_21 at h
  refine z_iconst (v := (-1)) X dd_Mo_mark_21 (by decide) ?_
  obtain rfl := Option.some.inj h
  exact z_iret X H.1 H.2.1 H.2.2.1 dd_Mo_mark_22
set_option maxRecDepth 100000 in
set_option maxHeartbeats 4000000 in
theorem c_Mo_mark (l : Launch) {nf : Nat} {a0 : Nat} {a1 : Int32} {a2 : Int32} {c : Zc} {res : Int32 × Zc} (h : f_Mo_mark nf a0 a1 a2 c = some res) : zM l yy_Mo_mark ww_Mo_mark 1 21 0 0 [.ref a0, .int a1, .int a2] c (fun D cid B => zQi D cid B res.1 res.2 c.length 0) := by
  refine z_met (cc := bb_Mo_mark) (maxL := 4) (ret := (some (.int))) (by decide +kernel) rfl (Nat.le_of_ble_eq_true rfl) ?_
  intro p e s m args below meth cd D cid B X h1 h2 h3 h4
  have X : zX p s m args cd D cid B bb_Mo_mark 4 rr_Mo zT := X
  have H : zH s meth B c.length (some (.int)) "mark" := ⟨h1, h2, h4, h3⟩
  unfold f_Mo_mark at h
  show Zz p l e (zRm 1 21 0 0) s m args below meth cd _ D cid B 4 0 0 c 0 [(0, .ref a0), (1, .int a1), (2, .int a2)] []
  refine z_iload_n X dd_Mo_mark_0 rfl 1 rfl ?_
  refine z_aload_n X dd_Mo_mark_1 rfl 0 rfl ?_
  obtain ⟨v1, ev1, h⟩ := zb h
  refine z_get (j := 0) X dd_Mo_mark_2 kc_12 ki_12 (by decide) km_1521 (zgi_v ev1) ?_
  obtain ⟨q2, eq2, h⟩ := zb h
  refine z_callSi X [.int a1, .int v1] rfl dd_Mo_mark_5 (c_Mo_isIn l eq2) (va_cwS 2 X.1.2.2.2.2 (zg_S km_1809 km_1810 km_138 km_1811) rfl rfl rfl (by decide +kernel) ⟨Nat.le_of_ble_eq_true rfl, Nat.le_of_ble_eq_true rfl⟩) rfl (Nat.le_of_ble_eq_true rfl) ⟨Nat.le_of_ble_eq_true rfl, Nat.le_of_ble_eq_true rfl⟩ ?_
  refine z_if_eq (tgt := 21) X dd_Mo_mark_8 (by decide) (fun q3 => ?_) (fun q3 => ?_)
  · rw [if_pos q3] at h
    refine z_sub [] rfl ?_
    exact t_Mo_mark_21 X H h
  · rw [if_neg q3] at h
    refine z_iload_n X dd_Mo_mark_11 rfl 2 rfl ?_
    refine z_sipush (v := 256) X dd_Mo_mark_12 (by decide) ?_
    obtain ⟨q4, eq4, h⟩ := zb h
    refine z_callSi X [.int a2, .int 256] rfl dd_Mo_mark_15 (c_Mo_isIn l eq4) (va_cwS 2 X.1.2.2.2.2 (zg_S km_1809 km_1810 km_138 km_1811) rfl rfl rfl (by decide +kernel) ⟨Nat.le_of_ble_eq_true rfl, Nat.le_of_ble_eq_true rfl⟩) rfl (Nat.le_of_ble_eq_true rfl) ⟨Nat.le_of_ble_eq_true rfl, Nat.le_of_ble_eq_true rfl⟩ ?_
    refine z_if_ne (tgt := 23) X dd_Mo_mark_18 (by decide) (fun q5 => ?_) (fun q5 => ?_)
    · rw [if_neg q5] at h
      refine z_aload_n X dd_Mo_mark_23 rfl 0 rfl ?_
      obtain ⟨v6, ev6, h⟩ := zb h
      refine z_get (j := 1) X dd_Mo_mark_24 kc_12 ki_12 (by decide) km_1522 (zgr_v ev6) ?_
      refine z_iload_n X dd_Mo_mark_27 rfl 1 rfl ?_
      obtain ⟨v7, ev7, h⟩ := zb h
      refine z_iaload X dd_Mo_mark_28 rfl ev7 ?_
      refine z_istore_n (lv' := [(3, .int v7), (0, .ref a0), (1, .int a1), (2, .int a2)]) X dd_Mo_mark_29 rfl (by decide) rfl ?_
      refine z_aload_n X dd_Mo_mark_30 rfl 1 rfl ?_
      obtain ⟨v8, ev8, h⟩ := zb h
      refine z_get (j := 1) X dd_Mo_mark_31 kc_12 ki_12 (by decide) km_1522 (zgr_v ev8) ?_
      refine z_iload_n X dd_Mo_mark_34 rfl 2 rfl ?_
      refine z_iload_n X dd_Mo_mark_35 rfl 3 rfl ?_
      obtain ⟨c9, ec9, h⟩ := zb h
      refine z_iastore X dd_Mo_mark_36 rfl ec9 ?_
      refine z_aload_n X dd_Mo_mark_37 rfl 1 rfl ?_
      obtain ⟨w11, ew11, h⟩ := zb h
      obtain ⟨q10, eq10, h⟩ := zb h
      refine z_callVv X [] rfl dd_Mo_mark_38 (c_Mo_changed l eq10) (cwV 0 X.1.2.2.2.2 (zg_V km_1812 km_1814 km_60 km_138 km_1815) rfl rfl rfl (by decide +kernel) ⟨Nat.le_of_ble_eq_true rfl, Nat.le_of_ble_eq_true rfl⟩) (zob_s ew11) kc_12 rfl (Nat.le_of_ble_eq_true rfl) ⟨Nat.le_of_ble_eq_true rfl, Nat.le_of_ble_eq_true rfl⟩ ?_
      refine z_iload_n X dd_Mo_mark_41 rfl 0 rfl ?_
      obtain rfl := Option.some.inj h
      exact z_iret X H.1 H.2.1 H.2.2.1 dd_Mo_mark_42
    · rw [if_pos q5] at h
      refine z_sub [] rfl ?_
      exact t_Mo_mark_21 X H h
theorem dd_Mo_put_0 : decode bb_Mo_put 0 = .ok (.iload_n 1, 1) := by decide +kernel
theorem dd_Mo_put_1 : decode bb_Mo_put 1 = .ok (.aload_n 0, 1) := by decide +kernel
theorem dd_Mo_put_2 : decode bb_Mo_put 2 = .ok (.getfield 450, 3) := by decide +kernel
theorem dd_Mo_put_5 : decode bb_Mo_put 5 = .ok (.invokestatic 536, 3) := by decide +kernel
theorem dd_Mo_put_8 : decode bb_Mo_put 8 = .ok (.ifCond .eq 25, 3) := by decide +kernel
theorem dd_Mo_put_11 : decode bb_Mo_put 11 = .ok (.iload_n 2, 1) := by decide +kernel
theorem dd_Mo_put_12 : decode bb_Mo_put 12 = .ok (.iconst 4, 1) := by decide +kernel
theorem dd_Mo_put_13 : decode bb_Mo_put 13 = .ok (.invokestatic 536, 3) := by decide +kernel
theorem dd_Mo_put_16 : decode bb_Mo_put 16 = .ok (.ifCond .eq 17, 3) := by decide +kernel
theorem dd_Mo_put_19 : decode bb_Mo_put 19 = .ok (.iload_n 3, 1) := by decide +kernel
theorem dd_Mo_put_20 : decode bb_Mo_put 20 = .ok (.sipush (-9999), 3) := by decide +kernel
theorem dd_Mo_put_23 : decode bb_Mo_put 23 = .ok (.if_icmp .lt 10, 3) := by decide +kernel
theorem dd_Mo_put_26 : decode bb_Mo_put 26 = .ok (.iload_n 3, 1) := by decide +kernel
theorem dd_Mo_put_27 : decode bb_Mo_put 27 = .ok (.sipush 9999, 3) := by decide +kernel
theorem dd_Mo_put_30 : decode bb_Mo_put 30 = .ok (.if_icmp .le 7, 3) := by decide +kernel
theorem dd_Mo_put_33 : decode bb_Mo_put 33 = .ok (.sipush 10000, 3) := by decide +kernel
theorem dd_Mo_put_36 : decode bb_Mo_put 36 = .ok (.ireturn, 1) := by decide +kernel
theorem dd_Mo_put_37 : decode bb_Mo_put 37 = .ok (.aload_n 0, 1) := by decide +kernel
theorem dd_Mo_put_38 : decode bb_Mo_put 38 = .ok (.getfield 13, 3) := by decide +kernel
theorem dd_Mo_put_41 : decode bb_Mo_put 41 = .ok (.iconst 4, 1) := by decide +kernel
theorem dd_Mo_put_42 : decode bb_Mo_put 42 = .ok (.iload_n 1, 1) := by decide +kernel
theorem dd_Mo_put_43 : decode bb_Mo_put 43 = .ok (.imul, 1) := by decide +kernel
theorem dd_Mo_put_44 : decode bb_Mo_put 44 = .ok (.iload_n 2, 1) := by decide +kernel
theorem dd_Mo_put_45 : decode bb_Mo_put 45 = .ok (.iadd, 1) := by decide +kernel
theorem dd_Mo_put_46 : decode bb_Mo_put 46 = .ok (.iaload, 1) := by decide +kernel
theorem dd_Mo_put_47 : decode bb_Mo_put 47 = .ok (.istore 4, 2) := by decide +kernel
theorem dd_Mo_put_49 : decode bb_Mo_put 49 = .ok (.aload_n 0, 1) := by decide +kernel
theorem dd_Mo_put_50 : decode bb_Mo_put 50 = .ok (.getfield 13, 3) := by decide +kernel
theorem dd_Mo_put_53 : decode bb_Mo_put 53 = .ok (.iconst 4, 1) := by decide +kernel
theorem dd_Mo_put_54 : decode bb_Mo_put 54 = .ok (.iload_n 1, 1) := by decide +kernel
theorem dd_Mo_put_55 : decode bb_Mo_put 55 = .ok (.imul, 1) := by decide +kernel
theorem dd_Mo_put_56 : decode bb_Mo_put 56 = .ok (.iload_n 2, 1) := by decide +kernel
theorem dd_Mo_put_57 : decode bb_Mo_put 57 = .ok (.iadd, 1) := by decide +kernel
theorem dd_Mo_put_58 : decode bb_Mo_put 58 = .ok (.iload_n 3, 1) := by decide +kernel
theorem dd_Mo_put_59 : decode bb_Mo_put 59 = .ok (.iastore, 1) := by decide +kernel
theorem dd_Mo_put_60 : decode bb_Mo_put 60 = .ok (.aload_n 0, 1) := by decide +kernel
theorem dd_Mo_put_61 : decode bb_Mo_put 61 = .ok (.invokevirtual 540, 3) := by decide +kernel
theorem dd_Mo_put_64 : decode bb_Mo_put 64 = .ok (.iload 4, 2) := by decide +kernel
theorem dd_Mo_put_66 : decode bb_Mo_put 66 = .ok (.ireturn, 1) := by decide +kernel
def f_Mo_put_33 (nf : Nat)  (c : Zc) : Option (Int32 × Zc) :=
  some (10000, c)
def f_Mo_put (nf : Nat) (a0 : Nat) (a1 : Int32) (a2 : Int32) (a3 : Int32) (c : Zc) : Option (Int32 × Zc) :=
  (zgi c a0 12 0).bind fun v1 => (f_Mo_isIn nf a1 v1 c).bind fun q2 => if q2.1 = 0 then (f_Mo_put_33 nf  q2.2) else ((f_Mo_isIn nf a2 4 q2.2).bind fun q4 => if q4.1 = 0 then (f_Mo_put_33 nf  q4.2) else (if a3 < (-9999) then (f_Mo_put_33 nf  q4.2) else (if a3 ≤ 9999 then ((zgr q4.2 a0 12 2).bind fun v8 => (zai q4.2 v8 0 ((4 * a1) + a2)).bind fun v9 => (zgr q4.2 a0 12 2).bind fun v10 => (zsi q4.2 v10 0 ((4 * a1) + a2) a3).bind fun c11 => (zob c11 a0 12).bind fun w13 => (f_Mo_changed nf a0 c11).bind fun q12 => some (v9, q12)) else (f_Mo_put_33 nf  q4.2))))
set_option maxRecDepth 100000 in
set_option maxHeartbeats 4000000 in
theorem t_Mo_put_33  (X : zX p s m args cd D cid B bb_Mo_put 5 rr_Mo zT) (H : zH s meth B n0 (some (.int)) "put") {nf : Nat}  {c : Zc} {res : Int32 × Zc} (h : f_Mo_put_33 nf  c = some res) : Zz p l e (zRm 1 21 0 0) s m args below meth cd (MQ below (zQi D cid B res.1 res.2 n0 0) args s 0 0 (fun q => B ≤ q)) D cid B 5 0 0 c 33 [] [] := by
  unfold f_Mo_put_33 at h
  refine z_sipush (v := 10000) X dd_Mo_put_33 (by decide) ?_
  obtain rfl := Option.some.inj h
  exact z_iret X H.1 H.2.1 H.2.2.1 dd_Mo_put_36
set_option maxRecDepth 100000 in
set_option maxHeartbeats 4000000 in
theorem c_Mo_put (l : Launch) {nf : Nat} {a0 : Nat} {a1 : Int32} {a2 : Int32} {a3 : Int32} {c : Zc} {res : Int32 × Zc} (h : f_Mo_put nf a0 a1 a2 a3 c = some res) : zM l yy_Mo_put ww_Mo_put 1 21 0 0 [.ref a0, .int a1, .int a2, .int a3] c (fun D cid B => zQi D cid B res.1 res.2 c.length 0) := by
  refine z_met (cc := bb_Mo_put) (maxL := 5) (ret := (some (.int))) (by decide +kernel) rfl (Nat.le_of_ble_eq_true rfl) ?_
  intro p e s m args below meth cd D cid B X h1 h2 h3 h4
  have X : zX p s m args cd D cid B bb_Mo_put 5 rr_Mo zT := X
  have H : zH s meth B c.length (some (.int)) "put" := ⟨h1, h2, h4, h3⟩
  unfold f_Mo_put at h
  show Zz p l e (zRm 1 21 0 0) s m args below meth cd _ D cid B 5 0 0 c 0 [(0, .ref a0), (1, .int a1), (2, .int a2), (3, .int a3)] []
  refine z_iload_n X dd_Mo_put_0 rfl 1 rfl ?_
  refine z_aload_n X dd_Mo_put_1 rfl 0 rfl ?_
  obtain ⟨v1, ev1, h⟩ := zb h
  refine z_get (j := 0) X dd_Mo_put_2 kc_12 ki_12 (by decide) km_1521 (zgi_v ev1) ?_
  obtain ⟨q2, eq2, h⟩ := zb h
  refine z_callSi X [.int a1, .int v1] rfl dd_Mo_put_5 (c_Mo_isIn l eq2) (va_cwS 2 X.1.2.2.2.2 (zg_S km_1809 km_1810 km_138 km_1811) rfl rfl rfl (by decide +kernel) ⟨Nat.le_of_ble_eq_true rfl, Nat.le_of_ble_eq_true rfl⟩) rfl (Nat.le_of_ble_eq_true rfl) ⟨Nat.le_of_ble_eq_true rfl, Nat.le_of_ble_eq_true rfl⟩ ?_
  refine z_if_eq (tgt := 33) X dd_Mo_put_8 (by decide) (fun q3 => ?_) (fun q3 => ?_)
  · rw [if_pos q3] at h
    refine z_sub [] rfl ?_
    exact t_Mo_put_33 X H h
  · rw [if_neg q3] at h
    refine z_iload_n X dd_Mo_put_11 rfl 2 rfl ?_
    refine z_iconst (v := 4) X dd_Mo_put_12 (by decide) ?_
    obtain ⟨q4, eq4, h⟩ := zb h
    refine z_callSi X [.int a2, .int 4] rfl dd_Mo_put_13 (c_Mo_isIn l eq4) (va_cwS 2 X.1.2.2.2.2 (zg_S km_1809 km_1810 km_138 km_1811) rfl rfl rfl (by decide +kernel) ⟨Nat.le_of_ble_eq_true rfl, Nat.le_of_ble_eq_true rfl⟩) rfl (Nat.le_of_ble_eq_true rfl) ⟨Nat.le_of_ble_eq_true rfl, Nat.le_of_ble_eq_true rfl⟩ ?_
    refine z_if_eq (tgt := 33) X dd_Mo_put_16 (by decide) (fun q5 => ?_) (fun q5 => ?_)
    · rw [if_pos q5] at h
      refine z_sub [] rfl ?_
      exact t_Mo_put_33 X H h
    · rw [if_neg q5] at h
      refine z_iload_n X dd_Mo_put_19 rfl 3 rfl ?_
      refine z_sipush (v := (-9999)) X dd_Mo_put_20 (by decide) ?_
      refine z_icmp_lt (tgt := 33) X dd_Mo_put_23 (by decide) (fun q6 => ?_) (fun q6 => ?_)
      · rw [if_pos q6] at h
        refine z_sub [] rfl ?_
        exact t_Mo_put_33 X H h
      · rw [if_neg q6] at h
        refine z_iload_n X dd_Mo_put_26 rfl 3 rfl ?_
        refine z_sipush (v := 9999) X dd_Mo_put_27 (by decide) ?_
        refine z_icmp_le (tgt := 37) X dd_Mo_put_30 (by decide) (fun q7 => ?_) (fun q7 => ?_)
        · rw [if_pos q7] at h
          refine z_aload_n X dd_Mo_put_37 rfl 0 rfl ?_
          obtain ⟨v8, ev8, h⟩ := zb h
          refine z_get (j := 2) X dd_Mo_put_38 kc_12 ki_12 (by decide) km_1523 (zgr_v ev8) ?_
          refine z_iconst (v := 4) X dd_Mo_put_41 (by decide) ?_
          refine z_iload_n X dd_Mo_put_42 rfl 1 rfl ?_
          refine z_imul X dd_Mo_put_43 ?_
          refine z_iload_n X dd_Mo_put_44 rfl 2 rfl ?_
          refine z_iadd X dd_Mo_put_45 ?_
          obtain ⟨v9, ev9, h⟩ := zb h
          refine z_iaload X dd_Mo_put_46 rfl ev9 ?_
          refine z_istore (lv' := [(4, .int v9), (0, .ref a0), (1, .int a1), (2, .int a2), (3, .int a3)]) X dd_Mo_put_47 (by decide) rfl ?_
          refine z_aload_n X dd_Mo_put_49 rfl 1 rfl ?_
          obtain ⟨v10, ev10, h⟩ := zb h
          refine z_get (j := 2) X dd_Mo_put_50 kc_12 ki_12 (by decide) km_1523 (zgr_v ev10) ?_
          refine z_iconst (v := 4) X dd_Mo_put_53 (by decide) ?_
          refine z_iload_n X dd_Mo_put_54 rfl 2 rfl ?_
          refine z_imul X dd_Mo_put_55 ?_
          refine z_iload_n X dd_Mo_put_56 rfl 3 rfl ?_
          refine z_iadd X dd_Mo_put_57 ?_
          refine z_iload_n X dd_Mo_put_58 rfl 4 rfl ?_
          obtain ⟨c11, ec11, h⟩ := zb h
          refine z_iastore X dd_Mo_put_59 rfl ec11 ?_
          refine z_aload_n X dd_Mo_put_60 rfl 1 rfl ?_
          obtain ⟨w13, ew13, h⟩ := zb h
          obtain ⟨q12, eq12, h⟩ := zb h
          refine z_callVv X [] rfl dd_Mo_put_61 (c_Mo_changed l eq12) (cwV 0 X.1.2.2.2.2 (zg_V km_1812 km_1814 km_60 km_138 km_1815) rfl rfl rfl (by decide +kernel) ⟨Nat.le_of_ble_eq_true rfl, Nat.le_of_ble_eq_true rfl⟩) (zob_s ew13) kc_12 rfl (Nat.le_of_ble_eq_true rfl) ⟨Nat.le_of_ble_eq_true rfl, Nat.le_of_ble_eq_true rfl⟩ ?_
          refine z_iload X dd_Mo_put_64 0 rfl ?_
          obtain rfl := Option.some.inj h
          exact z_iret X H.1 H.2.1 H.2.2.1 dd_Mo_put_66
        · rw [if_neg q7] at h
          refine z_sub [] rfl ?_
          exact t_Mo_put_33 X H h
theorem dd_Mo_arc_0 : decode bb_Mo_arc 0 = .ok (.iload_n 1, 1) := by decide +kernel
theorem dd_Mo_arc_1 : decode bb_Mo_arc 1 = .ok (.aload_n 0, 1) := by decide +kernel
theorem dd_Mo_arc_2 : decode bb_Mo_arc 2 = .ok (.getfield 450, 3) := by decide +kernel
theorem dd_Mo_arc_5 : decode bb_Mo_arc 5 = .ok (.invokestatic 536, 3) := by decide +kernel
theorem dd_Mo_arc_8 : decode bb_Mo_arc 8 = .ok (.ifCond .eq 33, 3) := by decide +kernel
theorem dd_Mo_arc_11 : decode bb_Mo_arc 11 = .ok (.iload_n 2, 1) := by decide +kernel
theorem dd_Mo_arc_12 : decode bb_Mo_arc 12 = .ok (.aload_n 0, 1) := by decide +kernel
theorem dd_Mo_arc_13 : decode bb_Mo_arc 13 = .ok (.getfield 450, 3) := by decide +kernel
theorem dd_Mo_arc_16 : decode bb_Mo_arc 16 = .ok (.invokestatic 536, 3) := by decide +kernel
theorem dd_Mo_arc_19 : decode bb_Mo_arc 19 = .ok (.ifCond .eq 22, 3) := by decide +kernel
theorem dd_Mo_arc_22 : decode bb_Mo_arc 22 = .ok (.iload_n 3, 1) := by decide +kernel
theorem dd_Mo_arc_23 : decode bb_Mo_arc 23 = .ok (.bipush 8, 2) := by decide +kernel
theorem dd_Mo_arc_25 : decode bb_Mo_arc 25 = .ok (.invokestatic 536, 3) := by decide +kernel
theorem dd_Mo_arc_28 : decode bb_Mo_arc 28 = .ok (.ifCond .eq 13, 3) := by decide +kernel
theorem dd_Mo_arc_31 : decode bb_Mo_arc 31 = .ok (.iload 4, 2) := by decide +kernel
theorem dd_Mo_arc_33 : decode bb_Mo_arc 33 = .ok (.bipush 100, 2) := by decide +kernel
theorem dd_Mo_arc_35 : decode bb_Mo_arc 35 = .ok (.invokestatic 536, 3) := by decide +kernel
theorem dd_Mo_arc_38 : decode bb_Mo_arc 38 = .ok (.ifCond .ne 5, 3) := by decide +kernel
theorem dd_Mo_arc_41 : decode bb_Mo_arc 41 = .ok (.iconst (-1), 1) := by decide +kernel
theorem dd_Mo_arc_42 : decode bb_Mo_arc 42 = .ok (.ireturn, 1) := by decide +kernel
theorem dd_Mo_arc_43 : decode bb_Mo_arc 43 = .ok (.aload_n 0, 1) := by decide +kernel
theorem dd_Mo_arc_44 : decode bb_Mo_arc 44 = .ok (.getfield 543, 3) := by decide +kernel
theorem dd_Mo_arc_47 : decode bb_Mo_arc 47 = .ok (.bipush 100, 2) := by decide +kernel
theorem dd_Mo_arc_49 : decode bb_Mo_arc 49 = .ok (.if_icmp .ne 6, 3) := by decide +kernel
theorem dd_Mo_arc_52 : decode bb_Mo_arc 52 = .ok (.bipush (-3), 2) := by decide +kernel
theorem dd_Mo_arc_54 : decode bb_Mo_arc 54 = .ok (.ireturn, 1) := by decide +kernel
theorem dd_Mo_arc_55 : decode bb_Mo_arc 55 = .ok (.iconst 0, 1) := by decide +kernel
theorem dd_Mo_arc_56 : decode bb_Mo_arc 56 = .ok (.istore 5, 2) := by decide +kernel
theorem dd_Mo_arc_58 : decode bb_Mo_arc 58 = .ok (.aload_n 0, 1) := by decide +kernel
theorem dd_Mo_arc_59 : decode bb_Mo_arc 59 = .ok (.getfield 16, 3) := by decide +kernel
theorem dd_Mo_arc_62 : decode bb_Mo_arc 62 = .ok (.iload 5, 2) := by decide +kernel
theorem dd_Mo_arc_64 : decode bb_Mo_arc 64 = .ok (.baload, 1) := by decide +kernel
theorem dd_Mo_arc_65 : decode bb_Mo_arc 65 = .ok (.ifCond .eq 9, 3) := by decide +kernel
theorem dd_Mo_arc_68 : decode bb_Mo_arc 68 = .ok (.iinc 5 1, 3) := by decide +kernel
theorem dd_Mo_arc_71 : decode bb_Mo_arc 71 = .ok (.goto (-13), 3) := by decide +kernel
theorem dd_Mo_arc_74 : decode bb_Mo_arc 74 = .ok (.aload_n 0, 1) := by decide +kernel
theorem dd_Mo_arc_75 : decode bb_Mo_arc 75 = .ok (.getfield 16, 3) := by decide +kernel
theorem dd_Mo_arc_78 : decode bb_Mo_arc 78 = .ok (.iload 5, 2) := by decide +kernel
theorem dd_Mo_arc_80 : decode bb_Mo_arc 80 = .ok (.iconst 1, 1) := by decide +kernel
theorem dd_Mo_arc_81 : decode bb_Mo_arc 81 = .ok (.bastore, 1) := by decide +kernel
theorem dd_Mo_arc_82 : decode bb_Mo_arc 82 = .ok (.aload_n 0, 1) := by decide +kernel
theorem dd_Mo_arc_83 : decode bb_Mo_arc 83 = .ok (.getfield 20, 3) := by decide +kernel
theorem dd_Mo_arc_86 : decode bb_Mo_arc 86 = .ok (.iload 5, 2) := by decide +kernel
theorem dd_Mo_arc_88 : decode bb_Mo_arc 88 = .ok (.iload_n 1, 1) := by decide +kernel
theorem dd_Mo_arc_89 : decode bb_Mo_arc 89 = .ok (.iastore, 1) := by decide +kernel
theorem dd_Mo_arc_90 : decode bb_Mo_arc 90 = .ok (.aload_n 0, 1) := by decide +kernel
theorem dd_Mo_arc_91 : decode bb_Mo_arc 91 = .ok (.getfield 23, 3) := by decide +kernel
theorem dd_Mo_arc_94 : decode bb_Mo_arc 94 = .ok (.iload 5, 2) := by decide +kernel
theorem dd_Mo_arc_96 : decode bb_Mo_arc 96 = .ok (.iload_n 2, 1) := by decide +kernel
theorem dd_Mo_arc_97 : decode bb_Mo_arc 97 = .ok (.iastore, 1) := by decide +kernel
theorem dd_Mo_arc_98 : decode bb_Mo_arc 98 = .ok (.aload_n 0, 1) := by decide +kernel
theorem dd_Mo_arc_99 : decode bb_Mo_arc 99 = .ok (.getfield 26, 3) := by decide +kernel
theorem dd_Mo_arc_102 : decode bb_Mo_arc 102 = .ok (.iload 5, 2) := by decide +kernel
theorem dd_Mo_arc_104 : decode bb_Mo_arc 104 = .ok (.iload_n 3, 1) := by decide +kernel
theorem dd_Mo_arc_105 : decode bb_Mo_arc 105 = .ok (.iastore, 1) := by decide +kernel
theorem dd_Mo_arc_106 : decode bb_Mo_arc 106 = .ok (.aload_n 0, 1) := by decide +kernel
theorem dd_Mo_arc_107 : decode bb_Mo_arc 107 = .ok (.getfield 29, 3) := by decide +kernel
theorem dd_Mo_arc_110 : decode bb_Mo_arc 110 = .ok (.iload 5, 2) := by decide +kernel
theorem dd_Mo_arc_112 : decode bb_Mo_arc 112 = .ok (.iload 4, 2) := by decide +kernel
theorem dd_Mo_arc_114 : decode bb_Mo_arc 114 = .ok (.iastore, 1) := by decide +kernel
theorem dd_Mo_arc_115 : decode bb_Mo_arc 115 = .ok (.aload_n 0, 1) := by decide +kernel
theorem dd_Mo_arc_116 : decode bb_Mo_arc 116 = .ok (.dup, 1) := by decide +kernel
theorem dd_Mo_arc_117 : decode bb_Mo_arc 117 = .ok (.getfield 543, 3) := by decide +kernel
theorem dd_Mo_arc_120 : decode bb_Mo_arc 120 = .ok (.iconst 1, 1) := by decide +kernel
theorem dd_Mo_arc_121 : decode bb_Mo_arc 121 = .ok (.iadd, 1) := by decide +kernel
theorem dd_Mo_arc_122 : decode bb_Mo_arc 122 = .ok (.putfield 543, 3) := by decide +kernel
theorem dd_Mo_arc_125 : decode bb_Mo_arc 125 = .ok (.aload_n 0, 1) := by decide +kernel
theorem dd_Mo_arc_126 : decode bb_Mo_arc 126 = .ok (.invokevirtual 540, 3) := by decide +kernel
theorem dd_Mo_arc_129 : decode bb_Mo_arc 129 = .ok (.iload 5, 2) := by decide +kernel
theorem dd_Mo_arc_131 : decode bb_Mo_arc 131 = .ok (.ireturn, 1) := by decide +kernel
def f_Mo_arc_41 (nf : Nat)  (c : Zc) : Option (Int32 × Zc) :=
  some ((-1), c)
def g_Mo_arc_58 (nf : Nat) (x0 : Nat) (x1 : Int32) (x2 : Int32) (x3 : Int32) (x4 : Int32) (x5 : Int32) (c : Zc) : Option ((Nat × Int32 × Int32 × Int32 × Int32 × Int32 × Zc) ⊕ (Nat × Int32 × Int32 × Int32 × Int32 × Int32 × Zc)) :=
  (zgr c x0 12 3).bind fun v13 => (zai c v13 6 x5).bind fun v14 => if v14 = 0 then (some (.inr (x0, x1, x2, x3, x4, x5, c))) else (some (.inl (x0, x1, x2, x3, x4, (x5 + 1), c)))
def f_Mo_arc_58 (nf : Nat) (x0 : Nat) (x1 : Int32) (x2 : Int32) (x3 : Int32) (x4 : Int32) (x5 : Int32) (c : Zc) : Option (Int32 × Zc) :=
  (zlp (fun a => g_Mo_arc_58 nf a.1 a.2.1 a.2.2.1 a.2.2.2.1 a.2.2.2.2.1 a.2.2.2.2.2.1 a.2.2.2.2.2.2) nf (x0, x1, x2, x3, x4, x5, c)).bind fun b => (zgr b.2.2.2.2.2.2 b.1 12 3).bind fun v16 => (zsi b.2.2.2.2.2.2 v16 6 b.2.2.2.2.2.1 (vp_nar .boolean 1)).bind fun c17 => (zgr c17 b.1 12 4).bind fun v18 => (zsi c17 v18 0 b.2.2.2.2.2.1 b.2.1).bind fun c19 => (zgr c19 b.1 12 5).bind fun v20 => (zsi c19 v20 0 b.2.2.2.2.2.1 b.2.2.1).bind fun c21 => (zgr c21 b.1 12 6).bind fun v22 => (zsi c21 v22 0 b.2.2.2.2.2.1 b.2.2.2.1).bind fun c23 => (zgr c23 b.1 12 7).bind fun v24 => (zsi c23 v24 0 b.2.2.2.2.2.1 b.2.2.2.2.1).bind fun c25 => (zgi c25 b.1 12 8).bind fun v26 => (zpv c25 b.1 12 8 (.int (v26 + 1))).bind fun c27 => (zob c27 b.1 12).bind fun w29 => (f_Mo_changed nf b.1 c27).bind fun q28 => some (b.2.2.2.2.2.1, q28)
def f_Mo_arc (nf : Nat) (a0 : Nat) (a1 : Int32) (a2 : Int32) (a3 : Int32) (a4 : Int32) (c : Zc) : Option (Int32 × Zc) :=
  (zgi c a0 12 0).bind fun v1 => (f_Mo_isIn nf a1 v1 c).bind fun q2 => if q2.1 = 0 then (f_Mo_arc_41 nf  q2.2) else ((zgi q2.2 a0 12 0).bind fun v4 => (f_Mo_isIn nf a2 v4 q2.2).bind fun q5 => if q5.1 = 0 then (f_Mo_arc_41 nf  q5.2) else ((f_Mo_isIn nf a3 8 q5.2).bind fun q7 => if q7.1 = 0 then (f_Mo_arc_41 nf  q7.2) else ((f_Mo_isIn nf a4 100 q7.2).bind fun q9 => if q9.1 = 0 then (f_Mo_arc_41 nf  q9.2) else ((zgi q9.2 a0 12 8).bind fun v11 => if v11 = 100 then (some ((-3), q9.2)) else (f_Mo_arc_58 nf a0 a1 a2 a3 a4 0 q9.2)))))
set_option maxRecDepth 100000 in
set_option maxHeartbeats 4000000 in
theorem t_Mo_arc_41  (X : zX p s m args cd D cid B bb_Mo_arc 6 rr_Mo zT) (H : zH s meth B n0 (some (.int)) "arc") {nf : Nat}  {c : Zc} {res : Int32 × Zc} (h : f_Mo_arc_41 nf  c = some res) : Zz p l e (zRm 1 21 0 0) s m args below meth cd (MQ below (zQi D cid B res.1 res.2 n0 0) args s 0 0 (fun q => B ≤ q)) D cid B 6 0 0 c 41 [] [] := by
  unfold f_Mo_arc_41 at h
  refine z_iconst (v := (-1)) X dd_Mo_arc_41 (by decide) ?_
  obtain rfl := Option.some.inj h
  exact z_iret X H.1 H.2.1 H.2.2.1 dd_Mo_arc_42
set_option maxRecDepth 100000 in
set_option maxHeartbeats 4000000 in
theorem u_Mo_arc_58  (X : zX p s m args cd D cid B bb_Mo_arc 6 rr_Mo zT) (H : zH s meth B n0 (some (.int)) "arc") {nf : Nat} {x0 : Nat} {x1 : Int32} {x2 : Int32} {x3 : Int32} {x4 : Int32} {x5 : Int32} {c : Zc} {r : (Nat × Int32 × Int32 × Int32 × Int32 × Int32 × Zc) ⊕ (Nat × Int32 × Int32 × Int32 × Int32 × Int32 × Zc)} (h : g_Mo_arc_58 nf x0 x1 x2 x3 x4 x5 c = some r) (k0 : ∀ a, r = .inl a → (fun a : Nat × Int32 × Int32 × Int32 × Int32 × Int32 × Zc => Zz p l e (zRm 1 21 0 0) s m args below meth cd Q D cid B 6 0 0 a.2.2.2.2.2.2 58 [(0, .ref a.1), (1, .int a.2.1), (2, .int a.2.2.1), (3, .int a.2.2.2.1), (4, .int a.2.2.2.2.1), (5, .int a.2.2.2.2.2.1)] []) a) (k1 : ∀ b, r = .inr b → (fun b : Nat × Int32 × Int32 × Int32 × Int32 × Int32 × Zc => Zz p l e (zRm 1 21 0 0) s m args below meth cd Q D cid B 6 0 0 b.2.2.2.2.2.2 74 [(0, .ref b.1), (1, .int b.2.1), (2, .int b.2.2.1), (3, .int b.2.2.2.1), (4, .int b.2.2.2.2.1), (5, .int b.2.2.2.2.2.1)] []) b) : Zz p l e (zRm 1 21 0 0) s m args below meth cd Q D cid B 6 0 0 c 58 [(0, .ref x0), (1, .int x1), (2, .int x2), (3, .int x3), (4, .int x4), (5, .int x5)] [] := by
  unfold g_Mo_arc_58 at h
  refine z_aload_n X dd_Mo_arc_58 rfl 0 rfl ?_
  obtain ⟨v13, ev13, h⟩ := zb h
  refine z_get (j := 3) X dd_Mo_arc_59 kc_12 ki_12 (by decide) km_1524 (zgr_v ev13) ?_
  refine z_iload X dd_Mo_arc_62 5 rfl ?_
  obtain ⟨v14, ev14, h⟩ := zb h
  refine z_zaload X dd_Mo_arc_64 rfl ev14 ?_
  refine z_if_eq (tgt := 74) X dd_Mo_arc_65 (by decide) (fun q15 => ?_) (fun q15 => ?_)
  · rw [if_pos q15] at h
    obtain rfl := Option.some.inj h
    exact k1 _ rfl
  · rw [if_neg q15] at h
    refine z_iinc (v := (x5 + 1)) (lv' := [(5, .int (x5 + 1)), (0, .ref x0), (1, .int x1), (2, .int x2), (3, .int x3), (4, .int x4)]) X dd_Mo_arc_68 5 rfl rfl (by decide) rfl ?_
    refine z_goto (tgt := 58) X dd_Mo_arc_71 (by decide) ?_
    refine z_sub [1, 2, 3, 4, 5, 0] rfl ?_
    obtain rfl := Option.some.inj h
    exact k0 _ rfl
set_option maxRecDepth 100000 in
set_option maxHeartbeats 4000000 in
theorem t_Mo_arc_58  (X : zX p s m args cd D cid B bb_Mo_arc 6 rr_Mo zT) (H : zH s meth B n0 (some (.int)) "arc") {nf : Nat} {x0 : Nat} {x1 : Int32} {x2 : Int32} {x3 : Int32} {x4 : Int32} {x5 : Int32} {c : Zc} {res : Int32 × Zc} (h : f_Mo_arc_58 nf x0 x1 x2 x3 x4 x5 c = some res) : Zz p l e (zRm 1 21 0 0) s m args below meth cd (MQ below (zQi D cid B res.1 res.2 n0 0) args s 0 0 (fun q => B ≤ q)) D cid B 6 0 0 c 58 [(0, .ref x0), (1, .int x1), (2, .int x2), (3, .int x3), (4, .int x4), (5, .int x5)] [] := by
  unfold f_Mo_arc_58 at h
  obtain ⟨b, eb, h⟩ := zb h
  refine zlp_ok (P := fun a : Nat × Int32 × Int32 × Int32 × Int32 × Int32 × Zc => Zz p l e (zRm 1 21 0 0) s m args below meth cd _ D cid B 6 0 0 a.2.2.2.2.2.2 58 [(0, .ref a.1), (1, .int a.2.1), (2, .int a.2.2.1), (3, .int a.2.2.2.1), (4, .int a.2.2.2.2.1), (5, .int a.2.2.2.2.2.1)] []) (G := fun b : Nat × Int32 × Int32 × Int32 × Int32 × Int32 × Zc => Zz p l e (zRm 1 21 0 0) s m args below meth cd _ D cid B 6 0 0 b.2.2.2.2.2.2 74 [(0, .ref b.1), (1, .int b.2.1), (2, .int b.2.2.1), (3, .int b.2.2.2.1), (4, .int b.2.2.2.2.1), (5, .int b.2.2.2.2.2.1)] []) (fun a r ha k0 k1 => u_Mo_arc_58 X H ha k0 k1) nf _ b eb ?_
  refine z_aload_n X dd_Mo_arc_74 rfl 0 rfl ?_
  obtain ⟨v16, ev16, h⟩ := zb h
  refine z_get (j := 3) X dd_Mo_arc_75 kc_12 ki_12 (by decide) km_1524 (zgr_v ev16) ?_
  refine z_iload X dd_Mo_arc_78 5 rfl ?_
  refine z_iconst (v := 1) X dd_Mo_arc_80 (by decide) ?_
  obtain ⟨c17, ec17, h⟩ := zb h
  refine z_zastore X dd_Mo_arc_81 rfl ec17 ?_
  refine z_aload_n X dd_Mo_arc_82 rfl 0 rfl ?_
  obtain ⟨v18, ev18, h⟩ := zb h
  refine z_get (j := 4) X dd_Mo_arc_83 kc_12 ki_12 (by decide) km_1525 (zgr_v ev18) ?_
  refine z_iload X dd_Mo_arc_86 5 rfl ?_
  refine z_iload_n X dd_Mo_arc_88 rfl 1 rfl ?_
  obtain ⟨c19, ec19, h⟩ := zb h
  refine z_iastore X dd_Mo_arc_89 rfl ec19 ?_
  refine z_aload_n X dd_Mo_arc_90 rfl 0 rfl ?_
  obtain ⟨v20, ev20, h⟩ := zb h
  refine z_get (j := 5) X dd_Mo_arc_91 kc_12 ki_12 (by decide) km_1526 (zgr_v ev20) ?_
  refine z_iload X dd_Mo_arc_94 5 rfl ?_
  refine z_iload_n X dd_Mo_arc_96 rfl 2 rfl ?_
  obtain ⟨c21, ec21, h⟩ := zb h
  refine z_iastore X dd_Mo_arc_97 rfl ec21 ?_
  refine z_aload_n X dd_Mo_arc_98 rfl 0 rfl ?_
  obtain ⟨v22, ev22, h⟩ := zb h
  refine z_get (j := 6) X dd_Mo_arc_99 kc_12 ki_12 (by decide) km_1527 (zgr_v ev22) ?_
  refine z_iload X dd_Mo_arc_102 5 rfl ?_
  refine z_iload_n X dd_Mo_arc_104 rfl 3 rfl ?_
  obtain ⟨c23, ec23, h⟩ := zb h
  refine z_iastore X dd_Mo_arc_105 rfl ec23 ?_
  refine z_aload_n X dd_Mo_arc_106 rfl 0 rfl ?_
  obtain ⟨v24, ev24, h⟩ := zb h
  refine z_get (j := 7) X dd_Mo_arc_107 kc_12 ki_12 (by decide) km_1528 (zgr_v ev24) ?_
  refine z_iload X dd_Mo_arc_110 5 rfl ?_
  refine z_iload X dd_Mo_arc_112 4 rfl ?_
  obtain ⟨c25, ec25, h⟩ := zb h
  refine z_iastore X dd_Mo_arc_114 rfl ec25 ?_
  refine z_aload_n X dd_Mo_arc_115 rfl 0 rfl ?_
  refine z_dup X dd_Mo_arc_116 rfl ?_
  obtain ⟨v26, ev26, h⟩ := zb h
  refine z_get (j := 8) X dd_Mo_arc_117 kc_12 ki_12 (by decide) km_1529 (zgi_v ev26) ?_
  refine z_iconst (v := 1) X dd_Mo_arc_120 (by decide) ?_
  refine z_iadd X dd_Mo_arc_121 ?_
  obtain ⟨c27, ec27, h⟩ := zb h
  refine z_put (j := 8) X dd_Mo_arc_122 kc_12 ki_12 tt_Mo tk_Mo nn_Mo (by decide) km_1529 rfl (tk_Mo 8 (by decide)) rfl rfl ec27 ?_
  refine z_aload_n X dd_Mo_arc_125 rfl 0 rfl ?_
  obtain ⟨w29, ew29, h⟩ := zb h
  obtain ⟨q28, eq28, h⟩ := zb h
  refine z_callVv X [] rfl dd_Mo_arc_126 (c_Mo_changed l eq28) (cwV 0 X.1.2.2.2.2 (zg_V km_1812 km_1814 km_60 km_138 km_1815) rfl rfl rfl (by decide +kernel) ⟨Nat.le_of_ble_eq_true rfl, Nat.le_of_ble_eq_true rfl⟩) (zob_s ew29) kc_12 rfl (Nat.le_of_ble_eq_true rfl) ⟨Nat.le_of_ble_eq_true rfl, Nat.le_of_ble_eq_true rfl⟩ ?_
  refine z_iload X dd_Mo_arc_129 5 rfl ?_
  obtain rfl := Option.some.inj h
  exact z_iret X H.1 H.2.1 H.2.2.1 dd_Mo_arc_131
set_option maxRecDepth 100000 in
set_option maxHeartbeats 4000000 in
theorem c_Mo_arc (l : Launch) {nf : Nat} {a0 : Nat} {a1 : Int32} {a2 : Int32} {a3 : Int32} {a4 : Int32} {c : Zc} {res : Int32 × Zc} (h : f_Mo_arc nf a0 a1 a2 a3 a4 c = some res) : zM l yy_Mo_arc ww_Mo_arc 1 21 0 0 [.ref a0, .int a1, .int a2, .int a3, .int a4] c (fun D cid B => zQi D cid B res.1 res.2 c.length 0) := by
  refine z_met (cc := bb_Mo_arc) (maxL := 6) (ret := (some (.int))) (by decide +kernel) rfl (Nat.le_of_ble_eq_true rfl) ?_
  intro p e s m args below meth cd D cid B X h1 h2 h3 h4
  have X : zX p s m args cd D cid B bb_Mo_arc 6 rr_Mo zT := X
  have H : zH s meth B c.length (some (.int)) "arc" := ⟨h1, h2, h4, h3⟩
  unfold f_Mo_arc at h
  show Zz p l e (zRm 1 21 0 0) s m args below meth cd _ D cid B 6 0 0 c 0 [(0, .ref a0), (1, .int a1), (2, .int a2), (3, .int a3), (4, .int a4)] []
  refine z_iload_n X dd_Mo_arc_0 rfl 1 rfl ?_
  refine z_aload_n X dd_Mo_arc_1 rfl 0 rfl ?_
  obtain ⟨v1, ev1, h⟩ := zb h
  refine z_get (j := 0) X dd_Mo_arc_2 kc_12 ki_12 (by decide) km_1521 (zgi_v ev1) ?_
  obtain ⟨q2, eq2, h⟩ := zb h
  refine z_callSi X [.int a1, .int v1] rfl dd_Mo_arc_5 (c_Mo_isIn l eq2) (va_cwS 2 X.1.2.2.2.2 (zg_S km_1809 km_1810 km_138 km_1811) rfl rfl rfl (by decide +kernel) ⟨Nat.le_of_ble_eq_true rfl, Nat.le_of_ble_eq_true rfl⟩) rfl (Nat.le_of_ble_eq_true rfl) ⟨Nat.le_of_ble_eq_true rfl, Nat.le_of_ble_eq_true rfl⟩ ?_
  refine z_if_eq (tgt := 41) X dd_Mo_arc_8 (by decide) (fun q3 => ?_) (fun q3 => ?_)
  · rw [if_pos q3] at h
    refine z_sub [] rfl ?_
    exact t_Mo_arc_41 X H h
  · rw [if_neg q3] at h
    refine z_iload_n X dd_Mo_arc_11 rfl 2 rfl ?_
    refine z_aload_n X dd_Mo_arc_12 rfl 0 rfl ?_
    obtain ⟨v4, ev4, h⟩ := zb h
    refine z_get (j := 0) X dd_Mo_arc_13 kc_12 ki_12 (by decide) km_1521 (zgi_v ev4) ?_
    obtain ⟨q5, eq5, h⟩ := zb h
    refine z_callSi X [.int a2, .int v4] rfl dd_Mo_arc_16 (c_Mo_isIn l eq5) (va_cwS 2 X.1.2.2.2.2 (zg_S km_1809 km_1810 km_138 km_1811) rfl rfl rfl (by decide +kernel) ⟨Nat.le_of_ble_eq_true rfl, Nat.le_of_ble_eq_true rfl⟩) rfl (Nat.le_of_ble_eq_true rfl) ⟨Nat.le_of_ble_eq_true rfl, Nat.le_of_ble_eq_true rfl⟩ ?_
    refine z_if_eq (tgt := 41) X dd_Mo_arc_19 (by decide) (fun q6 => ?_) (fun q6 => ?_)
    · rw [if_pos q6] at h
      refine z_sub [] rfl ?_
      exact t_Mo_arc_41 X H h
    · rw [if_neg q6] at h
      refine z_iload_n X dd_Mo_arc_22 rfl 3 rfl ?_
      refine z_bipush (v := 8) X dd_Mo_arc_23 (by decide) ?_
      obtain ⟨q7, eq7, h⟩ := zb h
      refine z_callSi X [.int a3, .int 8] rfl dd_Mo_arc_25 (c_Mo_isIn l eq7) (va_cwS 2 X.1.2.2.2.2 (zg_S km_1809 km_1810 km_138 km_1811) rfl rfl rfl (by decide +kernel) ⟨Nat.le_of_ble_eq_true rfl, Nat.le_of_ble_eq_true rfl⟩) rfl (Nat.le_of_ble_eq_true rfl) ⟨Nat.le_of_ble_eq_true rfl, Nat.le_of_ble_eq_true rfl⟩ ?_
      refine z_if_eq (tgt := 41) X dd_Mo_arc_28 (by decide) (fun q8 => ?_) (fun q8 => ?_)
      · rw [if_pos q8] at h
        refine z_sub [] rfl ?_
        exact t_Mo_arc_41 X H h
      · rw [if_neg q8] at h
        refine z_iload X dd_Mo_arc_31 4 rfl ?_
        refine z_bipush (v := 100) X dd_Mo_arc_33 (by decide) ?_
        obtain ⟨q9, eq9, h⟩ := zb h
        refine z_callSi X [.int a4, .int 100] rfl dd_Mo_arc_35 (c_Mo_isIn l eq9) (va_cwS 2 X.1.2.2.2.2 (zg_S km_1809 km_1810 km_138 km_1811) rfl rfl rfl (by decide +kernel) ⟨Nat.le_of_ble_eq_true rfl, Nat.le_of_ble_eq_true rfl⟩) rfl (Nat.le_of_ble_eq_true rfl) ⟨Nat.le_of_ble_eq_true rfl, Nat.le_of_ble_eq_true rfl⟩ ?_
        refine z_if_ne (tgt := 43) X dd_Mo_arc_38 (by decide) (fun q10 => ?_) (fun q10 => ?_)
        · rw [if_neg q10] at h
          refine z_aload_n X dd_Mo_arc_43 rfl 0 rfl ?_
          obtain ⟨v11, ev11, h⟩ := zb h
          refine z_get (j := 8) X dd_Mo_arc_44 kc_12 ki_12 (by decide) km_1529 (zgi_v ev11) ?_
          refine z_bipush (v := 100) X dd_Mo_arc_47 (by decide) ?_
          refine z_icmp_ne (tgt := 55) X dd_Mo_arc_49 (by decide) (fun q12 => ?_) (fun q12 => ?_)
          · rw [if_neg q12] at h
            refine z_iconst (v := 0) X dd_Mo_arc_55 (by decide) ?_
            refine z_istore (lv' := [(5, .int 0), (0, .ref a0), (1, .int a1), (2, .int a2), (3, .int a3), (4, .int a4)]) X dd_Mo_arc_56 (by decide) rfl ?_
            refine z_sub [1, 2, 3, 4, 5, 0] rfl ?_
            exact t_Mo_arc_58 X H h
          · rw [if_pos q12] at h
            refine z_bipush (v := (-3)) X dd_Mo_arc_52 (by decide) ?_
            obtain rfl := Option.some.inj h
            exact z_iret X H.1 H.2.1 H.2.2.1 dd_Mo_arc_54
        · rw [if_pos q10] at h
          refine z_sub [] rfl ?_
          exact t_Mo_arc_41 X H h
theorem dd_Mo_drop_0 : decode bb_Mo_drop 0 = .ok (.iload_n 1, 1) := by decide +kernel
theorem dd_Mo_drop_1 : decode bb_Mo_drop 1 = .ok (.bipush 100, 2) := by decide +kernel
theorem dd_Mo_drop_3 : decode bb_Mo_drop 3 = .ok (.invokestatic 536, 3) := by decide +kernel
theorem dd_Mo_drop_6 : decode bb_Mo_drop 6 = .ok (.ifCond .eq 12, 3) := by decide +kernel
theorem dd_Mo_drop_9 : decode bb_Mo_drop 9 = .ok (.aload_n 0, 1) := by decide +kernel
theorem dd_Mo_drop_10 : decode bb_Mo_drop 10 = .ok (.getfield 16, 3) := by decide +kernel
theorem dd_Mo_drop_13 : decode bb_Mo_drop 13 = .ok (.iload_n 1, 1) := by decide +kernel
theorem dd_Mo_drop_14 : decode bb_Mo_drop 14 = .ok (.baload, 1) := by decide +kernel
theorem dd_Mo_drop_15 : decode bb_Mo_drop 15 = .ok (.ifCond .ne 5, 3) := by decide +kernel
theorem dd_Mo_drop_18 : decode bb_Mo_drop 18 = .ok (.iconst (-1), 1) := by decide +kernel
theorem dd_Mo_drop_19 : decode bb_Mo_drop 19 = .ok (.ireturn, 1) := by decide +kernel
theorem dd_Mo_drop_20 : decode bb_Mo_drop 20 = .ok (.aload_n 0, 1) := by decide +kernel
theorem dd_Mo_drop_21 : decode bb_Mo_drop 21 = .ok (.getfield 16, 3) := by decide +kernel
theorem dd_Mo_drop_24 : decode bb_Mo_drop 24 = .ok (.iload_n 1, 1) := by decide +kernel
theorem dd_Mo_drop_25 : decode bb_Mo_drop 25 = .ok (.iconst 0, 1) := by decide +kernel
theorem dd_Mo_drop_26 : decode bb_Mo_drop 26 = .ok (.bastore, 1) := by decide +kernel
theorem dd_Mo_drop_27 : decode bb_Mo_drop 27 = .ok (.aload_n 0, 1) := by decide +kernel
theorem dd_Mo_drop_28 : decode bb_Mo_drop 28 = .ok (.dup, 1) := by decide +kernel
theorem dd_Mo_drop_29 : decode bb_Mo_drop 29 = .ok (.getfield 543, 3) := by decide +kernel
theorem dd_Mo_drop_32 : decode bb_Mo_drop 32 = .ok (.iconst 1, 1) := by decide +kernel
theorem dd_Mo_drop_33 : decode bb_Mo_drop 33 = .ok (.isub, 1) := by decide +kernel
theorem dd_Mo_drop_34 : decode bb_Mo_drop 34 = .ok (.putfield 543, 3) := by decide +kernel
theorem dd_Mo_drop_37 : decode bb_Mo_drop 37 = .ok (.aload_n 0, 1) := by decide +kernel
theorem dd_Mo_drop_38 : decode bb_Mo_drop 38 = .ok (.invokevirtual 540, 3) := by decide +kernel
theorem dd_Mo_drop_41 : decode bb_Mo_drop 41 = .ok (.aload_n 0, 1) := by decide +kernel
theorem dd_Mo_drop_42 : decode bb_Mo_drop 42 = .ok (.getfield 543, 3) := by decide +kernel
theorem dd_Mo_drop_45 : decode bb_Mo_drop 45 = .ok (.ireturn, 1) := by decide +kernel
def f_Mo_drop_18 (nf : Nat)  (c : Zc) : Option (Int32 × Zc) :=
  some ((-1), c)
def f_Mo_drop (nf : Nat) (a0 : Nat) (a1 : Int32) (c : Zc) : Option (Int32 × Zc) :=
  (f_Mo_isIn nf a1 100 c).bind fun q1 => if q1.1 = 0 then (f_Mo_drop_18 nf  q1.2) else ((zgr q1.2 a0 12 3).bind fun v3 => (zai q1.2 v3 6 a1).bind fun v4 => if v4 = 0 then (f_Mo_drop_18 nf  q1.2) else ((zgr q1.2 a0 12 3).bind fun v6 => (zsi q1.2 v6 6 a1 (vp_nar .boolean 0)).bind fun c7 => (zgi c7 a0 12 8).bind fun v8 => (zpv c7 a0 12 8 (.int (v8 - 1))).bind fun c9 => (zob c9 a0 12).bind fun w11 => (f_Mo_changed nf a0 c9).bind fun q10 => (zgi q10 a0 12 8).bind fun v12 => some (v12, q10)))
set_option maxRecDepth 100000 in
set_option maxHeartbeats 4000000 in
theorem t_Mo_drop_18  (X : zX p s m args cd D cid B bb_Mo_drop 2 rr_Mo zT) (H : zH s meth B n0 (some (.int)) "drop") {nf : Nat}  {c : Zc} {res : Int32 × Zc} (h : f_Mo_drop_18 nf  c = some res) : Zz p l e (zRm 1 21 0 0) s m args below meth cd (MQ below (zQi D cid B res.1 res.2 n0 0) args s 0 0 (fun q => B ≤ q)) D cid B 2 0 0 c 18 [] [] := by
  unfold f_Mo_drop_18 at h
  refine z_iconst (v := (-1)) X dd_Mo_drop_18 (by decide) ?_
  obtain rfl := Option.some.inj h
  exact z_iret X H.1 H.2.1 H.2.2.1 dd_Mo_drop_19
set_option maxRecDepth 100000 in
set_option maxHeartbeats 4000000 in
theorem c_Mo_drop (l : Launch) {nf : Nat} {a0 : Nat} {a1 : Int32} {c : Zc} {res : Int32 × Zc} (h : f_Mo_drop nf a0 a1 c = some res) : zM l yy_Mo_drop ww_Mo_drop 1 21 0 0 [.ref a0, .int a1] c (fun D cid B => zQi D cid B res.1 res.2 c.length 0) := by
  refine z_met (cc := bb_Mo_drop) (maxL := 2) (ret := (some (.int))) (by decide +kernel) rfl (Nat.le_of_ble_eq_true rfl) ?_
  intro p e s m args below meth cd D cid B X h1 h2 h3 h4
  have X : zX p s m args cd D cid B bb_Mo_drop 2 rr_Mo zT := X
  have H : zH s meth B c.length (some (.int)) "drop" := ⟨h1, h2, h4, h3⟩
  unfold f_Mo_drop at h
  show Zz p l e (zRm 1 21 0 0) s m args below meth cd _ D cid B 2 0 0 c 0 [(0, .ref a0), (1, .int a1)] []
  refine z_iload_n X dd_Mo_drop_0 rfl 1 rfl ?_
  refine z_bipush (v := 100) X dd_Mo_drop_1 (by decide) ?_
  obtain ⟨q1, eq1, h⟩ := zb h
  refine z_callSi X [.int a1, .int 100] rfl dd_Mo_drop_3 (c_Mo_isIn l eq1) (va_cwS 2 X.1.2.2.2.2 (zg_S km_1809 km_1810 km_138 km_1811) rfl rfl rfl (by decide +kernel) ⟨Nat.le_of_ble_eq_true rfl, Nat.le_of_ble_eq_true rfl⟩) rfl (Nat.le_of_ble_eq_true rfl) ⟨Nat.le_of_ble_eq_true rfl, Nat.le_of_ble_eq_true rfl⟩ ?_
  refine z_if_eq (tgt := 18) X dd_Mo_drop_6 (by decide) (fun q2 => ?_) (fun q2 => ?_)
  · rw [if_pos q2] at h
    refine z_sub [] rfl ?_
    exact t_Mo_drop_18 X H h
  · rw [if_neg q2] at h
    refine z_aload_n X dd_Mo_drop_9 rfl 0 rfl ?_
    obtain ⟨v3, ev3, h⟩ := zb h
    refine z_get (j := 3) X dd_Mo_drop_10 kc_12 ki_12 (by decide) km_1524 (zgr_v ev3) ?_
    refine z_iload_n X dd_Mo_drop_13 rfl 1 rfl ?_
    obtain ⟨v4, ev4, h⟩ := zb h
    refine z_zaload X dd_Mo_drop_14 rfl ev4 ?_
    refine z_if_ne (tgt := 20) X dd_Mo_drop_15 (by decide) (fun q5 => ?_) (fun q5 => ?_)
    · rw [if_neg q5] at h
      refine z_aload_n X dd_Mo_drop_20 rfl 0 rfl ?_
      obtain ⟨v6, ev6, h⟩ := zb h
      refine z_get (j := 3) X dd_Mo_drop_21 kc_12 ki_12 (by decide) km_1524 (zgr_v ev6) ?_
      refine z_iload_n X dd_Mo_drop_24 rfl 1 rfl ?_
      refine z_iconst (v := 0) X dd_Mo_drop_25 (by decide) ?_
      obtain ⟨c7, ec7, h⟩ := zb h
      refine z_zastore X dd_Mo_drop_26 rfl ec7 ?_
      refine z_aload_n X dd_Mo_drop_27 rfl 0 rfl ?_
      refine z_dup X dd_Mo_drop_28 rfl ?_
      obtain ⟨v8, ev8, h⟩ := zb h
      refine z_get (j := 8) X dd_Mo_drop_29 kc_12 ki_12 (by decide) km_1529 (zgi_v ev8) ?_
      refine z_iconst (v := 1) X dd_Mo_drop_32 (by decide) ?_
      refine z_isub X dd_Mo_drop_33 ?_
      obtain ⟨c9, ec9, h⟩ := zb h
      refine z_put (j := 8) X dd_Mo_drop_34 kc_12 ki_12 tt_Mo tk_Mo nn_Mo (by decide) km_1529 rfl (tk_Mo 8 (by decide)) rfl rfl ec9 ?_
      refine z_aload_n X dd_Mo_drop_37 rfl 0 rfl ?_
      obtain ⟨w11, ew11, h⟩ := zb h
      obtain ⟨q10, eq10, h⟩ := zb h
      refine z_callVv X [] rfl dd_Mo_drop_38 (c_Mo_changed l eq10) (cwV 0 X.1.2.2.2.2 (zg_V km_1812 km_1814 km_60 km_138 km_1815) rfl rfl rfl (by decide +kernel) ⟨Nat.le_of_ble_eq_true rfl, Nat.le_of_ble_eq_true rfl⟩) (zob_s ew11) kc_12 rfl (Nat.le_of_ble_eq_true rfl) ⟨Nat.le_of_ble_eq_true rfl, Nat.le_of_ble_eq_true rfl⟩ ?_
      refine z_aload_n X dd_Mo_drop_41 rfl 0 rfl ?_
      obtain ⟨v12, ev12, h⟩ := zb h
      refine z_get (j := 8) X dd_Mo_drop_42 kc_12 ki_12 (by decide) km_1529 (zgi_v ev12) ?_
      obtain rfl := Option.some.inj h
      exact z_iret X H.1 H.2.1 H.2.2.1 dd_Mo_drop_45
    · rw [if_pos q5] at h
      refine z_sub [] rfl ?_
      exact t_Mo_drop_18 X H h
theorem dd_Mo_ruleCount_0 : decode bb_Mo_ruleCount 0 = .ok (.iconst 0, 1) := by decide +kernel
theorem dd_Mo_ruleCount_1 : decode bb_Mo_ruleCount 1 = .ok (.istore_n 1, 1) := by decide +kernel
theorem dd_Mo_ruleCount_2 : decode bb_Mo_ruleCount 2 = .ok (.iconst 4, 1) := by decide +kernel
theorem dd_Mo_ruleCount_3 : decode bb_Mo_ruleCount 3 = .ok (.istore_n 2, 1) := by decide +kernel
theorem dd_Mo_ruleCount_4 : decode bb_Mo_ruleCount 4 = .ok (.iload_n 2, 1) := by decide +kernel
theorem dd_Mo_ruleCount_5 : decode bb_Mo_ruleCount 5 = .ok (.bipush 8, 2) := by decide +kernel
theorem dd_Mo_ruleCount_7 : decode bb_Mo_ruleCount 7 = .ok (.if_icmp .ge 26, 3) := by decide +kernel
theorem dd_Mo_ruleCount_10 : decode bb_Mo_ruleCount 10 = .ok (.iload_n 1, 1) := by decide +kernel
theorem dd_Mo_ruleCount_11 : decode bb_Mo_ruleCount 11 = .ok (.aload_n 0, 1) := by decide +kernel
theorem dd_Mo_ruleCount_12 : decode bb_Mo_ruleCount 12 = .ok (.getfield 59, 3) := by decide +kernel
theorem dd_Mo_ruleCount_15 : decode bb_Mo_ruleCount 15 = .ok (.iload_n 2, 1) := by decide +kernel
theorem dd_Mo_ruleCount_16 : decode bb_Mo_ruleCount 16 = .ok (.baload, 1) := by decide +kernel
theorem dd_Mo_ruleCount_17 : decode bb_Mo_ruleCount 17 = .ok (.ifCond .eq 7, 3) := by decide +kernel
theorem dd_Mo_ruleCount_20 : decode bb_Mo_ruleCount 20 = .ok (.iconst 1, 1) := by decide +kernel
theorem dd_Mo_ruleCount_21 : decode bb_Mo_ruleCount 21 = .ok (.goto 4, 3) := by decide +kernel
theorem dd_Mo_ruleCount_24 : decode bb_Mo_ruleCount 24 = .ok (.iconst 0, 1) := by decide +kernel
theorem dd_Mo_ruleCount_25 : decode bb_Mo_ruleCount 25 = .ok (.iadd, 1) := by decide +kernel
theorem dd_Mo_ruleCount_26 : decode bb_Mo_ruleCount 26 = .ok (.istore_n 1, 1) := by decide +kernel
theorem dd_Mo_ruleCount_27 : decode bb_Mo_ruleCount 27 = .ok (.iinc 2 1, 3) := by decide +kernel
theorem dd_Mo_ruleCount_30 : decode bb_Mo_ruleCount 30 = .ok (.goto (-26), 3) := by decide +kernel
theorem dd_Mo_ruleCount_33 : decode bb_Mo_ruleCount 33 = .ok (.iload_n 1, 1) := by decide +kernel
theorem dd_Mo_ruleCount_34 : decode bb_Mo_ruleCount 34 = .ok (.ireturn, 1) := by decide +kernel
def f_Mo_ruleCount_25 (nf : Nat) (x0 : Nat) (x2 : Int32) (s0 : Int32) (s1 : Int32) (c : Zc) : Option ((Nat × Int32 × Int32 × Zc) ⊕ (Int32 × Zc)) :=
  some (.inl (x0, (s0 + s1), (x2 + 1), c))
def g_Mo_ruleCount_4 (nf : Nat) (x0 : Nat) (x1 : Int32) (x2 : Int32) (c : Zc) : Option ((Nat × Int32 × Int32 × Zc) ⊕ (Int32 × Zc)) :=
  if 8 ≤ x2 then (some (.inr (x1, c))) else ((zgr c x0 12 23).bind fun v2 => (zai c v2 6 x2).bind fun v3 => if v3 = 0 then (f_Mo_ruleCount_25 nf x0 x2 x1 0 c) else (f_Mo_ruleCount_25 nf x0 x2 x1 1 c))
def f_Mo_ruleCount_4 (nf : Nat) (x0 : Nat) (x1 : Int32) (x2 : Int32) (c : Zc) : Option (Int32 × Zc) :=
  (zlp (fun a => g_Mo_ruleCount_4 nf a.1 a.2.1 a.2.2.1 a.2.2.2) nf (x0, x1, x2, c)).bind fun b => some (b.1, b.2)
def f_Mo_ruleCount (nf : Nat) (a0 : Nat) (c : Zc) : Option (Int32 × Zc) :=
  f_Mo_ruleCount_4 nf a0 0 4 c
set_option maxRecDepth 100000 in
set_option maxHeartbeats 4000000 in
theorem t_Mo_ruleCount_25  (X : zX p s m args cd D cid B bb_Mo_ruleCount 3 rr_Mo zT) (H : zH s meth B n0 (some (.int)) "ruleCount") {nf : Nat} {x0 : Nat} {x2 : Int32} {s0 : Int32} {s1 : Int32} {c : Zc} {r : (Nat × Int32 × Int32 × Zc) ⊕ (Int32 × Zc)} (h : f_Mo_ruleCount_25 nf x0 x2 s0 s1 c = some r) (k0 : ∀ a, r = .inl a → (fun a : Nat × Int32 × Int32 × Zc => Zz p l e (zRm 0 0 0 0) s m args below meth cd Q D cid B 3 0 0 a.2.2.2 4 [(0, .ref a.1), (1, .int a.2.1), (2, .int a.2.2.1)] []) a) (k1 : ∀ b, r = .inr b → (fun b : Int32 × Zc => Zz p l e (zRm 0 0 0 0) s m args below meth cd Q D cid B 3 0 0 b.2 33 [(1, .int b.1)] []) b) : Zz p l e (zRm 0 0 0 0) s m args below meth cd Q D cid B 3 0 0 c 25 [(0, .ref x0), (2, .int x2)] [.int s1, .int s0] := by
  unfold f_Mo_ruleCount_25 at h
  refine z_iadd X dd_Mo_ruleCount_25 ?_
  refine z_istore_n (lv' := [(1, .int (s0 + s1)), (0, .ref x0), (2, .int x2)]) X dd_Mo_ruleCount_26 rfl (by decide) rfl ?_
  refine z_iinc (v := (x2 + 1)) (lv' := [(2, .int (x2 + 1)), (1, .int (s0 + s1)), (0, .ref x0)]) X dd_Mo_ruleCount_27 2 rfl rfl (by decide) rfl ?_
  refine z_goto (tgt := 4) X dd_Mo_ruleCount_30 (by decide) ?_
  refine z_sub [2, 1, 0] rfl ?_
  obtain rfl := Option.some.inj h
  exact k0 _ rfl
set_option maxRecDepth 100000 in
set_option maxHeartbeats 4000000 in
theorem u_Mo_ruleCount_4  (X : zX p s m args cd D cid B bb_Mo_ruleCount 3 rr_Mo zT) (H : zH s meth B n0 (some (.int)) "ruleCount") {nf : Nat} {x0 : Nat} {x1 : Int32} {x2 : Int32} {c : Zc} {r : (Nat × Int32 × Int32 × Zc) ⊕ (Int32 × Zc)} (h : g_Mo_ruleCount_4 nf x0 x1 x2 c = some r) (k0 : ∀ a, r = .inl a → (fun a : Nat × Int32 × Int32 × Zc => Zz p l e (zRm 0 0 0 0) s m args below meth cd Q D cid B 3 0 0 a.2.2.2 4 [(0, .ref a.1), (1, .int a.2.1), (2, .int a.2.2.1)] []) a) (k1 : ∀ b, r = .inr b → (fun b : Int32 × Zc => Zz p l e (zRm 0 0 0 0) s m args below meth cd Q D cid B 3 0 0 b.2 33 [(1, .int b.1)] []) b) : Zz p l e (zRm 0 0 0 0) s m args below meth cd Q D cid B 3 0 0 c 4 [(0, .ref x0), (1, .int x1), (2, .int x2)] [] := by
  unfold g_Mo_ruleCount_4 at h
  refine z_iload_n X dd_Mo_ruleCount_4 rfl 2 rfl ?_
  refine z_bipush (v := 8) X dd_Mo_ruleCount_5 (by decide) ?_
  refine z_icmp_ge (tgt := 33) X dd_Mo_ruleCount_7 (by decide) (fun q1 => ?_) (fun q1 => ?_)
  · rw [if_pos q1] at h
    refine z_sub [1] rfl ?_
    obtain rfl := Option.some.inj h
    exact k1 _ rfl
  · rw [if_neg q1] at h
    refine z_iload_n X dd_Mo_ruleCount_10 rfl 1 rfl ?_
    refine z_aload_n X dd_Mo_ruleCount_11 rfl 0 rfl ?_
    obtain ⟨v2, ev2, h⟩ := zb h
    refine z_get (j := 23) X dd_Mo_ruleCount_12 kc_12 ki_12 (by decide) km_1544 (zgr_v ev2) ?_
    refine z_iload_n X dd_Mo_ruleCount_15 rfl 2 rfl ?_
    obtain ⟨v3, ev3, h⟩ := zb h
    refine z_zaload X dd_Mo_ruleCount_16 rfl ev3 ?_
    refine z_if_eq (tgt := 24) X dd_Mo_ruleCount_17 (by decide) (fun q4 => ?_) (fun q4 => ?_)
    · rw [if_pos q4] at h
      refine z_iconst (v := 0) X dd_Mo_ruleCount_24 (by decide) ?_
      refine z_sub [0, 2] rfl ?_
      exact t_Mo_ruleCount_25 X H h k0 k1
    · rw [if_neg q4] at h
      refine z_iconst (v := 1) X dd_Mo_ruleCount_20 (by decide) ?_
      refine z_goto (tgt := 25) X dd_Mo_ruleCount_21 (by decide) ?_
      refine z_sub [0, 2] rfl ?_
      exact t_Mo_ruleCount_25 X H h k0 k1
set_option maxRecDepth 100000 in
set_option maxHeartbeats 4000000 in
theorem t_Mo_ruleCount_4  (X : zX p s m args cd D cid B bb_Mo_ruleCount 3 rr_Mo zT) (H : zH s meth B n0 (some (.int)) "ruleCount") {nf : Nat} {x0 : Nat} {x1 : Int32} {x2 : Int32} {c : Zc} {res : Int32 × Zc} (h : f_Mo_ruleCount_4 nf x0 x1 x2 c = some res) : Zz p l e (zRm 0 0 0 0) s m args below meth cd (MQ below (zQi D cid B res.1 res.2 n0 0) args s 0 0 (fun q => B ≤ q)) D cid B 3 0 0 c 4 [(0, .ref x0), (1, .int x1), (2, .int x2)] [] := by
  unfold f_Mo_ruleCount_4 at h
  obtain ⟨b, eb, h⟩ := zb h
  refine zlp_ok (P := fun a : Nat × Int32 × Int32 × Zc => Zz p l e (zRm 0 0 0 0) s m args below meth cd _ D cid B 3 0 0 a.2.2.2 4 [(0, .ref a.1), (1, .int a.2.1), (2, .int a.2.2.1)] []) (G := fun b : Int32 × Zc => Zz p l e (zRm 0 0 0 0) s m args below meth cd _ D cid B 3 0 0 b.2 33 [(1, .int b.1)] []) (fun a r ha k0 k1 => u_Mo_ruleCount_4 X H ha k0 k1) nf _ b eb ?_
  refine z_iload_n X dd_Mo_ruleCount_33 rfl 0 rfl ?_
  obtain rfl := Option.some.inj h
  exact z_iret X H.1 H.2.1 H.2.2.1 dd_Mo_ruleCount_34
set_option maxRecDepth 100000 in
set_option maxHeartbeats 4000000 in
theorem c_Mo_ruleCount (l : Launch) {nf : Nat} {a0 : Nat} {c : Zc} {res : Int32 × Zc} (h : f_Mo_ruleCount nf a0 c = some res) : zM l yy_Mo_ruleCount ww_Mo_ruleCount 0 0 0 0 [.ref a0] c (fun D cid B => zQi D cid B res.1 res.2 c.length 0) := by
  refine z_met (cc := bb_Mo_ruleCount) (maxL := 3) (ret := (some (.int))) (by decide +kernel) rfl (Nat.le_of_ble_eq_true rfl) ?_
  intro p e s m args below meth cd D cid B X h1 h2 h3 h4
  have X : zX p s m args cd D cid B bb_Mo_ruleCount 3 rr_Mo zT := X
  have H : zH s meth B c.length (some (.int)) "ruleCount" := ⟨h1, h2, h4, h3⟩
  unfold f_Mo_ruleCount at h
  show Zz p l e (zRm 0 0 0 0) s m args below meth cd _ D cid B 3 0 0 c 0 [(0, .ref a0)] []
  refine z_iconst (v := 0) X dd_Mo_ruleCount_0 (by decide) ?_
  refine z_istore_n (lv' := [(1, .int 0), (0, .ref a0)]) X dd_Mo_ruleCount_1 rfl (by decide) rfl ?_
  refine z_iconst (v := 4) X dd_Mo_ruleCount_2 (by decide) ?_
  refine z_istore_n (lv' := [(2, .int 4), (1, .int 0), (0, .ref a0)]) X dd_Mo_ruleCount_3 rfl (by decide) rfl ?_
  refine z_sub [2, 1, 0] rfl ?_
  exact t_Mo_ruleCount_4 X H h
theorem dd_Mo_told_0 : decode bb_Mo_told 0 = .ok (.iload_n 1, 1) := by decide +kernel
theorem dd_Mo_told_1 : decode bb_Mo_told 1 = .ok (.ifCond .eq 13, 3) := by decide +kernel
theorem dd_Mo_told_4 : decode bb_Mo_told 4 = .ok (.iload_n 1, 1) := by decide +kernel
theorem dd_Mo_told_5 : decode bb_Mo_told 5 = .ok (.iconst 1, 1) := by decide +kernel
theorem dd_Mo_told_6 : decode bb_Mo_told 6 = .ok (.if_icmp .eq 8, 3) := by decide +kernel
theorem dd_Mo_told_9 : decode bb_Mo_told 9 = .ok (.iload_n 1, 1) := by decide +kernel
theorem dd_Mo_told_10 : decode bb_Mo_told 10 = .ok (.iconst 2, 1) := by decide +kernel
theorem dd_Mo_told_11 : decode bb_Mo_told 11 = .ok (.if_icmp .ne 31, 3) := by decide +kernel
theorem dd_Mo_told_14 : decode bb_Mo_told 14 = .ok (.iload_n 1, 1) := by decide +kernel
theorem dd_Mo_told_15 : decode bb_Mo_told 15 = .ok (.ifCond .ne 10, 3) := by decide +kernel
theorem dd_Mo_told_18 : decode bb_Mo_told 18 = .ok (.aload_n 0, 1) := by decide +kernel
theorem dd_Mo_told_19 : decode bb_Mo_told 19 = .ok (.getfield 450, 3) := by decide +kernel
theorem dd_Mo_told_22 : decode bb_Mo_told 22 = .ok (.goto 19, 3) := by decide +kernel
theorem dd_Mo_told_25 : decode bb_Mo_told 25 = .ok (.iload_n 1, 1) := by decide +kernel
theorem dd_Mo_told_26 : decode bb_Mo_told 26 = .ok (.iconst 1, 1) := by decide +kernel
theorem dd_Mo_told_27 : decode bb_Mo_told 27 = .ok (.if_icmp .ne 10, 3) := by decide +kernel
theorem dd_Mo_told_30 : decode bb_Mo_told 30 = .ok (.aload_n 0, 1) := by decide +kernel
theorem dd_Mo_told_31 : decode bb_Mo_told 31 = .ok (.getfield 543, 3) := by decide +kernel
theorem dd_Mo_told_34 : decode bb_Mo_told 34 = .ok (.goto 7, 3) := by decide +kernel
theorem dd_Mo_told_37 : decode bb_Mo_told 37 = .ok (.aload_n 0, 1) := by decide +kernel
theorem dd_Mo_told_38 : decode bb_Mo_told 38 = .ok (.invokevirtual 546, 3) := by decide +kernel
theorem dd_Mo_told_41 : decode bb_Mo_told 41 = .ok (.ireturn, 1) := by decide +kernel
theorem dd_Mo_told_42 : decode bb_Mo_told 42 = .ok (.iload_n 1, 1) := by decide +kernel
theorem dd_Mo_told_43 : decode bb_Mo_told 43 = .ok (.bipush 10, 2) := by decide +kernel
theorem dd_Mo_told_45 : decode bb_Mo_told 45 = .ok (.if_icmp .lt 83, 3) := by decide +kernel
theorem dd_Mo_told_48 : decode bb_Mo_told 48 = .ok (.iload_n 1, 1) := by decide +kernel
theorem dd_Mo_told_49 : decode bb_Mo_told 49 = .ok (.bipush 13, 2) := by decide +kernel
theorem dd_Mo_told_51 : decode bb_Mo_told 51 = .ok (.if_icmp .gt 77, 3) := by decide +kernel
theorem dd_Mo_told_54 : decode bb_Mo_told 54 = .ok (.iload_n 2, 1) := by decide +kernel
theorem dd_Mo_told_55 : decode bb_Mo_told 55 = .ok (.bipush 100, 2) := by decide +kernel
theorem dd_Mo_told_57 : decode bb_Mo_told 57 = .ok (.invokestatic 536, 3) := by decide +kernel
theorem dd_Mo_told_60 : decode bb_Mo_told 60 = .ok (.ifCond .eq 12, 3) := by decide +kernel
theorem dd_Mo_told_63 : decode bb_Mo_told 63 = .ok (.aload_n 0, 1) := by decide +kernel
theorem dd_Mo_told_64 : decode bb_Mo_told 64 = .ok (.getfield 16, 3) := by decide +kernel
theorem dd_Mo_told_67 : decode bb_Mo_told 67 = .ok (.iload_n 2, 1) := by decide +kernel
theorem dd_Mo_told_68 : decode bb_Mo_told 68 = .ok (.baload, 1) := by decide +kernel
theorem dd_Mo_told_69 : decode bb_Mo_told 69 = .ok (.ifCond .ne 7, 3) := by decide +kernel
theorem dd_Mo_told_72 : decode bb_Mo_told 72 = .ok (.sipush 10000, 3) := by decide +kernel
theorem dd_Mo_told_75 : decode bb_Mo_told 75 = .ok (.ireturn, 1) := by decide +kernel
theorem dd_Mo_told_76 : decode bb_Mo_told 76 = .ok (.iload_n 1, 1) := by decide +kernel
theorem dd_Mo_told_77 : decode bb_Mo_told 77 = .ok (.bipush 10, 2) := by decide +kernel
theorem dd_Mo_told_79 : decode bb_Mo_told 79 = .ok (.if_icmp .ne 12, 3) := by decide +kernel
theorem dd_Mo_told_82 : decode bb_Mo_told 82 = .ok (.aload_n 0, 1) := by decide +kernel
theorem dd_Mo_told_83 : decode bb_Mo_told 83 = .ok (.getfield 20, 3) := by decide +kernel
theorem dd_Mo_told_86 : decode bb_Mo_told 86 = .ok (.iload_n 2, 1) := by decide +kernel
theorem dd_Mo_told_87 : decode bb_Mo_told 87 = .ok (.iaload, 1) := by decide +kernel
theorem dd_Mo_told_88 : decode bb_Mo_told 88 = .ok (.goto 39, 3) := by decide +kernel
theorem dd_Mo_told_91 : decode bb_Mo_told 91 = .ok (.iload_n 1, 1) := by decide +kernel
theorem dd_Mo_told_92 : decode bb_Mo_told 92 = .ok (.bipush 11, 2) := by decide +kernel
theorem dd_Mo_told_94 : decode bb_Mo_told 94 = .ok (.if_icmp .ne 12, 3) := by decide +kernel
theorem dd_Mo_told_97 : decode bb_Mo_told 97 = .ok (.aload_n 0, 1) := by decide +kernel
theorem dd_Mo_told_98 : decode bb_Mo_told 98 = .ok (.getfield 23, 3) := by decide +kernel
theorem dd_Mo_told_101 : decode bb_Mo_told 101 = .ok (.iload_n 2, 1) := by decide +kernel
theorem dd_Mo_told_102 : decode bb_Mo_told 102 = .ok (.iaload, 1) := by decide +kernel
theorem dd_Mo_told_103 : decode bb_Mo_told 103 = .ok (.goto 24, 3) := by decide +kernel
theorem dd_Mo_told_106 : decode bb_Mo_told 106 = .ok (.iload_n 1, 1) := by decide +kernel
theorem dd_Mo_told_107 : decode bb_Mo_told 107 = .ok (.bipush 12, 2) := by decide +kernel
theorem dd_Mo_told_109 : decode bb_Mo_told 109 = .ok (.if_icmp .ne 12, 3) := by decide +kernel
theorem dd_Mo_told_112 : decode bb_Mo_told 112 = .ok (.aload_n 0, 1) := by decide +kernel
theorem dd_Mo_told_113 : decode bb_Mo_told 113 = .ok (.getfield 26, 3) := by decide +kernel
theorem dd_Mo_told_116 : decode bb_Mo_told 116 = .ok (.iload_n 2, 1) := by decide +kernel
theorem dd_Mo_told_117 : decode bb_Mo_told 117 = .ok (.iaload, 1) := by decide +kernel
theorem dd_Mo_told_118 : decode bb_Mo_told 118 = .ok (.goto 9, 3) := by decide +kernel
theorem dd_Mo_told_121 : decode bb_Mo_told 121 = .ok (.aload_n 0, 1) := by decide +kernel
theorem dd_Mo_told_122 : decode bb_Mo_told 122 = .ok (.getfield 29, 3) := by decide +kernel
theorem dd_Mo_told_125 : decode bb_Mo_told 125 = .ok (.iload_n 2, 1) := by decide +kernel
theorem dd_Mo_told_126 : decode bb_Mo_told 126 = .ok (.iaload, 1) := by decide +kernel
theorem dd_Mo_told_127 : decode bb_Mo_told 127 = .ok (.ireturn, 1) := by decide +kernel
theorem dd_Mo_told_128 : decode bb_Mo_told 128 = .ok (.iload_n 1, 1) := by decide +kernel
theorem dd_Mo_told_129 : decode bb_Mo_told 129 = .ok (.iconst 3, 1) := by decide +kernel
theorem dd_Mo_told_130 : decode bb_Mo_told 130 = .ok (.if_icmp .lt 20, 3) := by decide +kernel
theorem dd_Mo_told_133 : decode bb_Mo_told 133 = .ok (.iload_n 1, 1) := by decide +kernel
theorem dd_Mo_told_134 : decode bb_Mo_told 134 = .ok (.bipush 9, 2) := by decide +kernel
theorem dd_Mo_told_136 : decode bb_Mo_told 136 = .ok (.if_icmp .gt 14, 3) := by decide +kernel
theorem dd_Mo_told_139 : decode bb_Mo_told 139 = .ok (.iload_n 2, 1) := by decide +kernel
theorem dd_Mo_told_140 : decode bb_Mo_told 140 = .ok (.aload_n 0, 1) := by decide +kernel
theorem dd_Mo_told_141 : decode bb_Mo_told 141 = .ok (.getfield 450, 3) := by decide +kernel
theorem dd_Mo_told_144 : decode bb_Mo_told 144 = .ok (.invokestatic 536, 3) := by decide +kernel
theorem dd_Mo_told_147 : decode bb_Mo_told 147 = .ok (.ifCond .ne 7, 3) := by decide +kernel
theorem dd_Mo_told_150 : decode bb_Mo_told 150 = .ok (.sipush 10000, 3) := by decide +kernel
theorem dd_Mo_told_153 : decode bb_Mo_told 153 = .ok (.ireturn, 1) := by decide +kernel
theorem dd_Mo_told_154 : decode bb_Mo_told 154 = .ok (.iload_n 1, 1) := by decide +kernel
theorem dd_Mo_told_155 : decode bb_Mo_told 155 = .ok (.iconst 3, 1) := by decide +kernel
theorem dd_Mo_told_156 : decode bb_Mo_told 156 = .ok (.if_icmp .ne 10, 3) := by decide +kernel
theorem dd_Mo_told_159 : decode bb_Mo_told 159 = .ok (.aload_n 0, 1) := by decide +kernel
theorem dd_Mo_told_160 : decode bb_Mo_told 160 = .ok (.getfield 7, 3) := by decide +kernel
theorem dd_Mo_told_163 : decode bb_Mo_told 163 = .ok (.iload_n 2, 1) := by decide +kernel
theorem dd_Mo_told_164 : decode bb_Mo_told 164 = .ok (.iaload, 1) := by decide +kernel
theorem dd_Mo_told_165 : decode bb_Mo_told 165 = .ok (.ireturn, 1) := by decide +kernel
theorem dd_Mo_told_166 : decode bb_Mo_told 166 = .ok (.iload_n 1, 1) := by decide +kernel
theorem dd_Mo_told_167 : decode bb_Mo_told 167 = .ok (.bipush 8, 2) := by decide +kernel
theorem dd_Mo_told_169 : decode bb_Mo_told 169 = .ok (.if_icmp .ge 16, 3) := by decide +kernel
theorem dd_Mo_told_172 : decode bb_Mo_told 172 = .ok (.aload_n 0, 1) := by decide +kernel
theorem dd_Mo_told_173 : decode bb_Mo_told 173 = .ok (.getfield 13, 3) := by decide +kernel
theorem dd_Mo_told_176 : decode bb_Mo_told 176 = .ok (.iconst 4, 1) := by decide +kernel
theorem dd_Mo_told_177 : decode bb_Mo_told 177 = .ok (.iload_n 2, 1) := by decide +kernel
theorem dd_Mo_told_178 : decode bb_Mo_told 178 = .ok (.imul, 1) := by decide +kernel
theorem dd_Mo_told_179 : decode bb_Mo_told 179 = .ok (.iload_n 1, 1) := by decide +kernel
theorem dd_Mo_told_180 : decode bb_Mo_told 180 = .ok (.iadd, 1) := by decide +kernel
theorem dd_Mo_told_181 : decode bb_Mo_told 181 = .ok (.iconst 4, 1) := by decide +kernel
theorem dd_Mo_told_182 : decode bb_Mo_told 182 = .ok (.isub, 1) := by decide +kernel
theorem dd_Mo_told_183 : decode bb_Mo_told 183 = .ok (.iaload, 1) := by decide +kernel
theorem dd_Mo_told_184 : decode bb_Mo_told 184 = .ok (.ireturn, 1) := by decide +kernel
theorem dd_Mo_told_185 : decode bb_Mo_told 185 = .ok (.iconst 0, 1) := by decide +kernel
theorem dd_Mo_told_186 : decode bb_Mo_told 186 = .ok (.istore_n 3, 1) := by decide +kernel
theorem dd_Mo_told_187 : decode bb_Mo_told 187 = .ok (.iconst 0, 1) := by decide +kernel
theorem dd_Mo_told_188 : decode bb_Mo_told 188 = .ok (.istore 4, 2) := by decide +kernel
theorem dd_Mo_told_190 : decode bb_Mo_told 190 = .ok (.iload 4, 2) := by decide +kernel
theorem dd_Mo_told_192 : decode bb_Mo_told 192 = .ok (.bipush 100, 2) := by decide +kernel
theorem dd_Mo_told_194 : decode bb_Mo_told 194 = .ok (.if_icmp .ge 54, 3) := by decide +kernel
theorem dd_Mo_told_197 : decode bb_Mo_told 197 = .ok (.iload_n 3, 1) := by decide +kernel
theorem dd_Mo_told_198 : decode bb_Mo_told 198 = .ok (.aload_n 0, 1) := by decide +kernel
theorem dd_Mo_told_199 : decode bb_Mo_told 199 = .ok (.getfield 16, 3) := by decide +kernel
theorem dd_Mo_told_202 : decode bb_Mo_told 202 = .ok (.iload 4, 2) := by decide +kernel
theorem dd_Mo_told_204 : decode bb_Mo_told 204 = .ok (.baload, 1) := by decide +kernel
theorem dd_Mo_told_205 : decode bb_Mo_told 205 = .ok (.ifCond .eq 34, 3) := by decide +kernel
theorem dd_Mo_told_208 : decode bb_Mo_told 208 = .ok (.iload_n 1, 1) := by decide +kernel
theorem dd_Mo_told_209 : decode bb_Mo_told 209 = .ok (.bipush 8, 2) := by decide +kernel
theorem dd_Mo_told_211 : decode bb_Mo_told 211 = .ok (.if_icmp .ne 13, 3) := by decide +kernel
theorem dd_Mo_told_214 : decode bb_Mo_told 214 = .ok (.aload_n 0, 1) := by decide +kernel
theorem dd_Mo_told_215 : decode bb_Mo_told 215 = .ok (.getfield 20, 3) := by decide +kernel
theorem dd_Mo_told_218 : decode bb_Mo_told 218 = .ok (.iload 4, 2) := by decide +kernel
theorem dd_Mo_told_220 : decode bb_Mo_told 220 = .ok (.iaload, 1) := by decide +kernel
theorem dd_Mo_told_221 : decode bb_Mo_told 221 = .ok (.goto 10, 3) := by decide +kernel
theorem dd_Mo_told_224 : decode bb_Mo_told 224 = .ok (.aload_n 0, 1) := by decide +kernel
theorem dd_Mo_told_225 : decode bb_Mo_told 225 = .ok (.getfield 23, 3) := by decide +kernel
theorem dd_Mo_told_228 : decode bb_Mo_told 228 = .ok (.iload 4, 2) := by decide +kernel
theorem dd_Mo_told_230 : decode bb_Mo_told 230 = .ok (.iaload, 1) := by decide +kernel
theorem dd_Mo_told_231 : decode bb_Mo_told 231 = .ok (.iload_n 2, 1) := by decide +kernel
theorem dd_Mo_told_232 : decode bb_Mo_told 232 = .ok (.if_icmp .ne 7, 3) := by decide +kernel
theorem dd_Mo_told_235 : decode bb_Mo_told 235 = .ok (.iconst 1, 1) := by decide +kernel
theorem dd_Mo_told_236 : decode bb_Mo_told 236 = .ok (.goto 4, 3) := by decide +kernel
theorem dd_Mo_told_239 : decode bb_Mo_told 239 = .ok (.iconst 0, 1) := by decide +kernel
theorem dd_Mo_told_240 : decode bb_Mo_told 240 = .ok (.iadd, 1) := by decide +kernel
theorem dd_Mo_told_241 : decode bb_Mo_told 241 = .ok (.istore_n 3, 1) := by decide +kernel
theorem dd_Mo_told_242 : decode bb_Mo_told 242 = .ok (.iinc 4 1, 3) := by decide +kernel
theorem dd_Mo_told_245 : decode bb_Mo_told 245 = .ok (.goto (-55), 3) := by decide +kernel
theorem dd_Mo_told_248 : decode bb_Mo_told 248 = .ok (.iload_n 3, 1) := by decide +kernel
theorem dd_Mo_told_249 : decode bb_Mo_told 249 = .ok (.ireturn, 1) := by decide +kernel
def f_Mo_told_41 (nf : Nat) (s0 : Int32) (c : Zc) : Option (Int32 × Zc) :=
  some (s0, c)
def f_Mo_told_14 (nf : Nat) (x0 : Nat) (x1 : Int32) (c : Zc) : Option (Int32 × Zc) :=
  if x1 = 0 then ((zgi c x0 12 0).bind fun v7 => f_Mo_told_41 nf v7 c) else (if x1 = 1 then ((zgi c x0 12 8).bind fun v6 => f_Mo_told_41 nf v6 c) else ((zob c x0 12).bind fun w5 => (f_Mo_ruleCount nf x0 c).bind fun q4 => f_Mo_told_41 nf q4.1 q4.2))
def f_Mo_told_150 (nf : Nat)  (c : Zc) : Option (Int32 × Zc) :=
  some (10000, c)
def f_Mo_told_240 (nf : Nat) (x0 : Nat) (x1 : Int32) (x2 : Int32) (x4 : Int32) (s0 : Int32) (s1 : Int32) (c : Zc) : Option ((Nat × Int32 × Int32 × Int32 × Int32 × Zc) ⊕ (Int32 × Zc)) :=
  some (.inl (x0, x1, x2, (s0 + s1), (x4 + 1), c))
def f_Mo_told_239 (nf : Nat) (x0 : Nat) (x1 : Int32) (x2 : Int32) (x4 : Int32) (s0 : Int32) (c : Zc) : Option ((Nat × Int32 × Int32 × Int32 × Int32 × Zc) ⊕ (Int32 × Zc)) :=
  f_Mo_told_240 nf x0 x1 x2 x4 s0 0 c
def f_Mo_told_231 (nf : Nat) (x0 : Nat) (x1 : Int32) (x2 : Int32) (x4 : Int32) (s0 : Int32) (s1 : Int32) (c : Zc) : Option ((Nat × Int32 × Int32 × Int32 × Int32 × Zc) ⊕ (Int32 × Zc)) :=
  if s1 = x2 then (f_Mo_told_240 nf x0 x1 x2 x4 s0 1 c) else (f_Mo_told_239 nf x0 x1 x2 x4 s0 c)
def g_Mo_told_190 (nf : Nat) (x0 : Nat) (x1 : Int32) (x2 : Int32) (x3 : Int32) (x4 : Int32) (c : Zc) : Option ((Nat × Int32 × Int32 × Int32 × Int32 × Zc) ⊕ (Int32 × Zc)) :=
  if 100 ≤ x4 then (some (.inr (x3, c))) else ((zgr c x0 12 3).bind fun v19 => (zai c v19 6 x4).bind fun v20 => if v20 = 0 then (f_Mo_told_239 nf x0 x1 x2 x4 x3 c) else (if x1 = 8 then ((zgr c x0 12 4).bind fun v26 => (zai c v26 0 x4).bind fun v27 => f_Mo_told_231 nf x0 x1 x2 x4 x3 v27 c) else ((zgr c x0 12 5).bind fun v23 => (zai c v23 0 x4).bind fun v24 => f_Mo_told_231 nf x0 x1 x2 x4 x3 v24 c)))
def f_Mo_told_190 (nf : Nat) (x0 : Nat) (x1 : Int32) (x2 : Int32) (x3 : Int32) (x4 : Int32) (c : Zc) : Option (Int32 × Zc) :=
  (zlp (fun a => g_Mo_told_190 nf a.1 a.2.1 a.2.2.1 a.2.2.2.1 a.2.2.2.2.1 a.2.2.2.2.2) nf (x0, x1, x2, x3, x4, c)).bind fun b => some (b.1, b.2)
def f_Mo_told_128 (nf : Nat) (x0 : Nat) (x1 : Int32) (x2 : Int32) (c : Zc) : Option (Int32 × Zc) :=
  if x1 < 3 then (f_Mo_told_150 nf  c) else (if 9 < x1 then (f_Mo_told_150 nf  c) else ((zgi c x0 12 0).bind fun v13 => (f_Mo_isIn nf x2 v13 c).bind fun q14 => if q14.1 = 0 then (f_Mo_told_150 nf  q14.2) else (if x1 = 3 then ((zgr q14.2 x0 12 1).bind fun v30 => (zai q14.2 v30 0 x2).bind fun v31 => some (v31, q14.2)) else (if 8 ≤ x1 then (f_Mo_told_190 nf x0 x1 x2 0 0 q14.2) else ((zgr q14.2 x0 12 2).bind fun v28 => (zai q14.2 v28 0 (((4 * x2) + x1) - 4)).bind fun v29 => some (v29, q14.2))))))
def f_Mo_told_72 (nf : Nat)  (c : Zc) : Option (Int32 × Zc) :=
  some (10000, c)
def f_Mo_told_127 (nf : Nat) (s0 : Int32) (c : Zc) : Option (Int32 × Zc) :=
  some (s0, c)
def f_Mo_told (nf : Nat) (a0 : Nat) (a1 : Int32) (a2 : Int32) (c : Zc) : Option (Int32 × Zc) :=
  if a1 = 0 then (f_Mo_told_14 nf a0 a1 c) else (if a1 = 1 then (f_Mo_told_14 nf a0 a1 c) else (if a1 = 2 then (f_Mo_told_14 nf a0 a1 c) else (if a1 < 10 then (f_Mo_told_128 nf a0 a1 a2 c) else (if 13 < a1 then (f_Mo_told_128 nf a0 a1 a2 c) else ((f_Mo_isIn nf a2 100 c).bind fun q33 => if q33.1 = 0 then (f_Mo_told_72 nf  q33.2) else ((zgr q33.2 a0 12 3).bind fun v35 => (zai q33.2 v35 6 a2).bind fun v36 => if v36 = 0 then (f_Mo_told_72 nf  q33.2) else (if a1 = 10 then ((zgr q33.2 a0 12 4).bind fun v47 => (zai q33.2 v47 0 a2).bind fun v48 => f_Mo_told_127 nf v48 q33.2) else (if a1 = 11 then ((zgr q33.2 a0 12 5).bind fun v45 => (zai q33.2 v45 0 a2).bind fun v46 => f_Mo_told_127 nf v46 q33.2) else (if a1 = 12 then ((zgr q33.2 a0 12 6).bind fun v43 => (zai q33.2 v43 0 a2).bind fun v44 => f_Mo_told_127 nf v44 q33.2) else ((zgr q33.2 a0 12 7).bind fun v41 => (zai q33.2 v41 0 a2).bind fun v42 => f_Mo_told_127 nf v42 q33.2))))))))))
set_option maxRecDepth 100000 in
set_option maxHeartbeats 4000000 in
theorem t_Mo_told_41  (X : zX p s m args cd D cid B bb_Mo_told 5 rr_Mo zT) (H : zH s meth B n0 (some (.int)) "told") {nf : Nat} {s0 : Int32} {c : Zc} {res : Int32 × Zc} (h : f_Mo_told_41 nf s0 c = some res) : Zz p l e (zRm 1 22 0 0) s m args below meth cd (MQ below (zQi D cid B res.1 res.2 n0 0) args s 0 0 (fun q => B ≤ q)) D cid B 5 0 0 c 41 [] [.int s0] := by
  unfold f_Mo_told_41 at h
  obtain rfl := Option.some.inj h
  exact z_iret X H.1 H.2.1 H.2.2.1 dd_Mo_told_41
set_option maxRecDepth 100000 in
set_option maxHeartbeats 4000000 in
theorem t_Mo_told_14  (X : zX p s m args cd D cid B bb_Mo_told 5 rr_Mo zT) (H : zH s meth B n0 (some (.int)) "told") {nf : Nat} {x0 : Nat} {x1 : Int32} {c : Zc} {res : Int32 × Zc} (h : f_Mo_told_14 nf x0 x1 c = some res) : Zz p l e (zRm 1 22 0 0) s m args below meth cd (MQ below (zQi D cid B res.1 res.2 n0 0) args s 0 0 (fun q => B ≤ q)) D cid B 5 0 0 c 14 [(0, .ref x0), (1, .int x1)] [] := by
  unfold f_Mo_told_14 at h
  refine z_iload_n X dd_Mo_told_14 rfl 1 rfl ?_
  refine z_if_ne (tgt := 25) X dd_Mo_told_15 (by decide) (fun q2 => ?_) (fun q2 => ?_)
  · rw [if_neg q2] at h
    refine z_iload_n X dd_Mo_told_25 rfl 1 rfl ?_
    refine z_iconst (v := 1) X dd_Mo_told_26 (by decide) ?_
    refine z_icmp_ne (tgt := 37) X dd_Mo_told_27 (by decide) (fun q3 => ?_) (fun q3 => ?_)
    · rw [if_neg q3] at h
      refine z_aload_n X dd_Mo_told_37 rfl 0 rfl ?_
      obtain ⟨w5, ew5, h⟩ := zb h
      obtain ⟨q4, eq4, h⟩ := zb h
      refine z_callVi X [] rfl dd_Mo_told_38 (c_Mo_ruleCount l eq4) (cwV 0 X.1.2.2.2.2 (zg_V km_1836 km_1838 km_61 km_138 km_1839) rfl rfl rfl (by decide +kernel) ⟨Nat.le_of_ble_eq_true rfl, Nat.le_of_ble_eq_true rfl⟩) (zob_s ew5) kc_12 rfl (Nat.le_of_ble_eq_true rfl) ⟨Nat.le_of_ble_eq_true rfl, Nat.le_of_ble_eq_true rfl⟩ ?_
      refine z_sub [] rfl ?_
      exact t_Mo_told_41 X H h
    · rw [if_pos q3] at h
      refine z_aload_n X dd_Mo_told_30 rfl 0 rfl ?_
      obtain ⟨v6, ev6, h⟩ := zb h
      refine z_get (j := 8) X dd_Mo_told_31 kc_12 ki_12 (by decide) km_1529 (zgi_v ev6) ?_
      refine z_goto (tgt := 41) X dd_Mo_told_34 (by decide) ?_
      refine z_sub [] rfl ?_
      exact t_Mo_told_41 X H h
  · rw [if_pos q2] at h
    refine z_aload_n X dd_Mo_told_18 rfl 0 rfl ?_
    obtain ⟨v7, ev7, h⟩ := zb h
    refine z_get (j := 0) X dd_Mo_told_19 kc_12 ki_12 (by decide) km_1521 (zgi_v ev7) ?_
    refine z_goto (tgt := 41) X dd_Mo_told_22 (by decide) ?_
    refine z_sub [] rfl ?_
    exact t_Mo_told_41 X H h
set_option maxRecDepth 100000 in
set_option maxHeartbeats 4000000 in
theorem t_Mo_told_150  (X : zX p s m args cd D cid B bb_Mo_told 5 rr_Mo zT) (H : zH s meth B n0 (some (.int)) "told") {nf : Nat}  {c : Zc} {res : Int32 × Zc} (h : f_Mo_told_150 nf  c = some res) : Zz p l e (zRm 1 22 0 0) s m args below meth cd (MQ below (zQi D cid B res.1 res.2 n0 0) args s 0 0 (fun q => B ≤ q)) D cid B 5 0 0 c 150 [] [] := by
  unfold f_Mo_told_150 at h
  refine z_sipush (v := 10000) X dd_Mo_told_150 (by decide) ?_
  obtain rfl := Option.some.inj h
  exact z_iret X H.1 H.2.1 H.2.2.1 dd_Mo_told_153
set_option maxRecDepth 100000 in
set_option maxHeartbeats 4000000 in
theorem t_Mo_told_240  (X : zX p s m args cd D cid B bb_Mo_told 5 rr_Mo zT) (H : zH s meth B n0 (some (.int)) "told") {nf : Nat} {x0 : Nat} {x1 : Int32} {x2 : Int32} {x4 : Int32} {s0 : Int32} {s1 : Int32} {c : Zc} {r : (Nat × Int32 × Int32 × Int32 × Int32 × Zc) ⊕ (Int32 × Zc)} (h : f_Mo_told_240 nf x0 x1 x2 x4 s0 s1 c = some r) (k0 : ∀ a, r = .inl a → (fun a : Nat × Int32 × Int32 × Int32 × Int32 × Zc => Zz p l e (zRm 1 22 0 0) s m args below meth cd Q D cid B 5 0 0 a.2.2.2.2.2 190 [(0, .ref a.1), (1, .int a.2.1), (2, .int a.2.2.1), (3, .int a.2.2.2.1), (4, .int a.2.2.2.2.1)] []) a) (k1 : ∀ b, r = .inr b → (fun b : Int32 × Zc => Zz p l e (zRm 1 22 0 0) s m args below meth cd Q D cid B 5 0 0 b.2 248 [(3, .int b.1)] []) b) : Zz p l e (zRm 1 22 0 0) s m args below meth cd Q D cid B 5 0 0 c 240 [(0, .ref x0), (1, .int x1), (2, .int x2), (4, .int x4)] [.int s1, .int s0] := by
  unfold f_Mo_told_240 at h
  refine z_iadd X dd_Mo_told_240 ?_
  refine z_istore_n (lv' := [(3, .int (s0 + s1)), (0, .ref x0), (1, .int x1), (2, .int x2), (4, .int x4)]) X dd_Mo_told_241 rfl (by decide) rfl ?_
  refine z_iinc (v := (x4 + 1)) (lv' := [(4, .int (x4 + 1)), (3, .int (s0 + s1)), (0, .ref x0), (1, .int x1), (2, .int x2)]) X dd_Mo_told_242 4 rfl rfl (by decide) rfl ?_
  refine z_goto (tgt := 190) X dd_Mo_told_245 (by decide) ?_
  refine z_sub [2, 3, 4, 1, 0] rfl ?_
  obtain rfl := Option.some.inj h
  exact k0 _ rfl
set_option maxRecDepth 100000 in
set_option maxHeartbeats 4000000 in
theorem t_Mo_told_239  (X : zX p s m args cd D cid B bb_Mo_told 5 rr_Mo zT) (H : zH s meth B n0 (some (.int)) "told") {nf : Nat} {x0 : Nat} {x1 : Int32} {x2 : Int32} {x4 : Int32} {s0 : Int32} {c : Zc} {r : (Nat × Int32 × Int32 × Int32 × Int32 × Zc) ⊕ (Int32 × Zc)} (h : f_Mo_told_239 nf x0 x1 x2 x4 s0 c = some r) (k0 : ∀ a, r = .inl a → (fun a : Nat × Int32 × Int32 × Int32 × Int32 × Zc => Zz p l e (zRm 1 22 0 0) s m args below meth cd Q D cid B 5 0 0 a.2.2.2.2.2 190 [(0, .ref a.1), (1, .int a.2.1), (2, .int a.2.2.1), (3, .int a.2.2.2.1), (4, .int a.2.2.2.2.1)] []) a) (k1 : ∀ b, r = .inr b → (fun b : Int32 × Zc => Zz p l e (zRm 1 22 0 0) s m args below meth cd Q D cid B 5 0 0 b.2 248 [(3, .int b.1)] []) b) : Zz p l e (zRm 1 22 0 0) s m args below meth cd Q D cid B 5 0 0 c 239 [(0, .ref x0), (1, .int x1), (2, .int x2), (4, .int x4)] [.int s0] := by
  unfold f_Mo_told_239 at h
  refine z_iconst (v := 0) X dd_Mo_told_239 (by decide) ?_
  exact t_Mo_told_240 X H h k0 k1
set_option maxRecDepth 100000 in
set_option maxHeartbeats 4000000 in
theorem t_Mo_told_231  (X : zX p s m args cd D cid B bb_Mo_told 5 rr_Mo zT) (H : zH s meth B n0 (some (.int)) "told") {nf : Nat} {x0 : Nat} {x1 : Int32} {x2 : Int32} {x4 : Int32} {s0 : Int32} {s1 : Int32} {c : Zc} {r : (Nat × Int32 × Int32 × Int32 × Int32 × Zc) ⊕ (Int32 × Zc)} (h : f_Mo_told_231 nf x0 x1 x2 x4 s0 s1 c = some r) (k0 : ∀ a, r = .inl a → (fun a : Nat × Int32 × Int32 × Int32 × Int32 × Zc => Zz p l e (zRm 1 22 0 0) s m args below meth cd Q D cid B 5 0 0 a.2.2.2.2.2 190 [(0, .ref a.1), (1, .int a.2.1), (2, .int a.2.2.1), (3, .int a.2.2.2.1), (4, .int a.2.2.2.2.1)] []) a) (k1 : ∀ b, r = .inr b → (fun b : Int32 × Zc => Zz p l e (zRm 1 22 0 0) s m args below meth cd Q D cid B 5 0 0 b.2 248 [(3, .int b.1)] []) b) : Zz p l e (zRm 1 22 0 0) s m args below meth cd Q D cid B 5 0 0 c 231 [(0, .ref x0), (1, .int x1), (2, .int x2), (4, .int x4)] [.int s1, .int s0] := by
  unfold f_Mo_told_231 at h
  refine z_iload_n X dd_Mo_told_231 rfl 2 rfl ?_
  refine z_icmp_ne (tgt := 239) X dd_Mo_told_232 (by decide) (fun q25 => ?_) (fun q25 => ?_)
  · rw [if_neg q25] at h
    exact t_Mo_told_239 X H h k0 k1
  · rw [if_pos q25] at h
    refine z_iconst (v := 1) X dd_Mo_told_235 (by decide) ?_
    refine z_goto (tgt := 240) X dd_Mo_told_236 (by decide) ?_
    exact t_Mo_told_240 X H h k0 k1
set_option maxRecDepth 100000 in
set_option maxHeartbeats 4000000 in
theorem u_Mo_told_190  (X : zX p s m args cd D cid B bb_Mo_told 5 rr_Mo zT) (H : zH s meth B n0 (some (.int)) "told") {nf : Nat} {x0 : Nat} {x1 : Int32} {x2 : Int32} {x3 : Int32} {x4 : Int32} {c : Zc} {r : (Nat × Int32 × Int32 × Int32 × Int32 × Zc) ⊕ (Int32 × Zc)} (h : g_Mo_told_190 nf x0 x1 x2 x3 x4 c = some r) (k0 : ∀ a, r = .inl a → (fun a : Nat × Int32 × Int32 × Int32 × Int32 × Zc => Zz p l e (zRm 1 22 0 0) s m args below meth cd Q D cid B 5 0 0 a.2.2.2.2.2 190 [(0, .ref a.1), (1, .int a.2.1), (2, .int a.2.2.1), (3, .int a.2.2.2.1), (4, .int a.2.2.2.2.1)] []) a) (k1 : ∀ b, r = .inr b → (fun b : Int32 × Zc => Zz p l e (zRm 1 22 0 0) s m args below meth cd Q D cid B 5 0 0 b.2 248 [(3, .int b.1)] []) b) : Zz p l e (zRm 1 22 0 0) s m args below meth cd Q D cid B 5 0 0 c 190 [(0, .ref x0), (1, .int x1), (2, .int x2), (3, .int x3), (4, .int x4)] [] := by
  unfold g_Mo_told_190 at h
  refine z_iload X dd_Mo_told_190 4 rfl ?_
  refine z_bipush (v := 100) X dd_Mo_told_192 (by decide) ?_
  refine z_icmp_ge (tgt := 248) X dd_Mo_told_194 (by decide) (fun q18 => ?_) (fun q18 => ?_)
  · rw [if_pos q18] at h
    refine z_sub [3] rfl ?_
    obtain rfl := Option.some.inj h
    exact k1 _ rfl
  · rw [if_neg q18] at h
    refine z_iload_n X dd_Mo_told_197 rfl 3 rfl ?_
    refine z_aload_n X dd_Mo_told_198 rfl 0 rfl ?_
    obtain ⟨v19, ev19, h⟩ := zb h
    refine z_get (j := 3) X dd_Mo_told_199 kc_12 ki_12 (by decide) km_1524 (zgr_v ev19) ?_
    refine z_iload X dd_Mo_told_202 4 rfl ?_
    obtain ⟨v20, ev20, h⟩ := zb h
    refine z_zaload X dd_Mo_told_204 rfl ev20 ?_
    refine z_if_eq (tgt := 239) X dd_Mo_told_205 (by decide) (fun q21 => ?_) (fun q21 => ?_)
    · rw [if_pos q21] at h
      refine z_sub [0, 1, 2, 4] rfl ?_
      exact t_Mo_told_239 X H h k0 k1
    · rw [if_neg q21] at h
      refine z_iload_n X dd_Mo_told_208 rfl 1 rfl ?_
      refine z_bipush (v := 8) X dd_Mo_told_209 (by decide) ?_
      refine z_icmp_ne (tgt := 224) X dd_Mo_told_211 (by decide) (fun q22 => ?_) (fun q22 => ?_)
      · rw [if_neg q22] at h
        refine z_aload_n X dd_Mo_told_224 rfl 0 rfl ?_
        obtain ⟨v23, ev23, h⟩ := zb h
        refine z_get (j := 5) X dd_Mo_told_225 kc_12 ki_12 (by decide) km_1526 (zgr_v ev23) ?_
        refine z_iload X dd_Mo_told_228 4 rfl ?_
        obtain ⟨v24, ev24, h⟩ := zb h
        refine z_iaload X dd_Mo_told_230 rfl ev24 ?_
        refine z_sub [0, 1, 2, 4] rfl ?_
        exact t_Mo_told_231 X H h k0 k1
      · rw [if_pos q22] at h
        refine z_aload_n X dd_Mo_told_214 rfl 0 rfl ?_
        obtain ⟨v26, ev26, h⟩ := zb h
        refine z_get (j := 4) X dd_Mo_told_215 kc_12 ki_12 (by decide) km_1525 (zgr_v ev26) ?_
        refine z_iload X dd_Mo_told_218 4 rfl ?_
        obtain ⟨v27, ev27, h⟩ := zb h
        refine z_iaload X dd_Mo_told_220 rfl ev27 ?_
        refine z_goto (tgt := 231) X dd_Mo_told_221 (by decide) ?_
        refine z_sub [0, 1, 2, 4] rfl ?_
        exact t_Mo_told_231 X H h k0 k1
set_option maxRecDepth 100000 in
set_option maxHeartbeats 4000000 in
theorem t_Mo_told_190  (X : zX p s m args cd D cid B bb_Mo_told 5 rr_Mo zT) (H : zH s meth B n0 (some (.int)) "told") {nf : Nat} {x0 : Nat} {x1 : Int32} {x2 : Int32} {x3 : Int32} {x4 : Int32} {c : Zc} {res : Int32 × Zc} (h : f_Mo_told_190 nf x0 x1 x2 x3 x4 c = some res) : Zz p l e (zRm 1 22 0 0) s m args below meth cd (MQ below (zQi D cid B res.1 res.2 n0 0) args s 0 0 (fun q => B ≤ q)) D cid B 5 0 0 c 190 [(0, .ref x0), (1, .int x1), (2, .int x2), (3, .int x3), (4, .int x4)] [] := by
  unfold f_Mo_told_190 at h
  obtain ⟨b, eb, h⟩ := zb h
  refine zlp_ok (P := fun a : Nat × Int32 × Int32 × Int32 × Int32 × Zc => Zz p l e (zRm 1 22 0 0) s m args below meth cd _ D cid B 5 0 0 a.2.2.2.2.2 190 [(0, .ref a.1), (1, .int a.2.1), (2, .int a.2.2.1), (3, .int a.2.2.2.1), (4, .int a.2.2.2.2.1)] []) (G := fun b : Int32 × Zc => Zz p l e (zRm 1 22 0 0) s m args below meth cd _ D cid B 5 0 0 b.2 248 [(3, .int b.1)] []) (fun a r ha k0 k1 => u_Mo_told_190 X H ha k0 k1) nf _ b eb ?_
  refine z_iload_n X dd_Mo_told_248 rfl 0 rfl ?_
  obtain rfl := Option.some.inj h
  exact z_iret X H.1 H.2.1 H.2.2.1 dd_Mo_told_249
set_option maxRecDepth 100000 in
set_option maxHeartbeats 4000000 in
theorem t_Mo_told_128  (X : zX p s m args cd D cid B bb_Mo_told 5 rr_Mo zT) (H : zH s meth B n0 (some (.int)) "told") {nf : Nat} {x0 : Nat} {x1 : Int32} {x2 : Int32} {c : Zc} {res : Int32 × Zc} (h : f_Mo_told_128 nf x0 x1 x2 c = some res) : Zz p l e (zRm 1 22 0 0) s m args below meth cd (MQ below (zQi D cid B res.1 res.2 n0 0) args s 0 0 (fun q => B ≤ q)) D cid B 5 0 0 c 128 [(0, .ref x0), (1, .int x1), (2, .int x2)] [] := by
  unfold f_Mo_told_128 at h
  refine z_iload_n X dd_Mo_told_128 rfl 1 rfl ?_
  refine z_iconst (v := 3) X dd_Mo_told_129 (by decide) ?_
  refine z_icmp_lt (tgt := 150) X dd_Mo_told_130 (by decide) (fun q11 => ?_) (fun q11 => ?_)
  · rw [if_pos q11] at h
    refine z_sub [] rfl ?_
    exact t_Mo_told_150 X H h
  · rw [if_neg q11] at h
    refine z_iload_n X dd_Mo_told_133 rfl 1 rfl ?_
    refine z_bipush (v := 9) X dd_Mo_told_134 (by decide) ?_
    refine z_icmp_gt (tgt := 150) X dd_Mo_told_136 (by decide) (fun q12 => ?_) (fun q12 => ?_)
    · rw [if_pos q12] at h
      refine z_sub [] rfl ?_
      exact t_Mo_told_150 X H h
    · rw [if_neg q12] at h
      refine z_iload_n X dd_Mo_told_139 rfl 2 rfl ?_
      refine z_aload_n X dd_Mo_told_140 rfl 0 rfl ?_
      obtain ⟨v13, ev13, h⟩ := zb h
      refine z_get (j := 0) X dd_Mo_told_141 kc_12 ki_12 (by decide) km_1521 (zgi_v ev13) ?_
      obtain ⟨q14, eq14, h⟩ := zb h
      refine z_callSi X [.int x2, .int v13] rfl dd_Mo_told_144 (c_Mo_isIn l eq14) (va_cwS 2 X.1.2.2.2.2 (zg_S km_1809 km_1810 km_138 km_1811) rfl rfl rfl (by decide +kernel) ⟨Nat.le_of_ble_eq_true rfl, Nat.le_of_ble_eq_true rfl⟩) rfl (Nat.le_of_ble_eq_true rfl) ⟨Nat.le_of_ble_eq_true rfl, Nat.le_of_ble_eq_true rfl⟩ ?_
      refine z_if_ne (tgt := 154) X dd_Mo_told_147 (by decide) (fun q15 => ?_) (fun q15 => ?_)
      · rw [if_neg q15] at h
        refine z_iload_n X dd_Mo_told_154 rfl 1 rfl ?_
        refine z_iconst (v := 3) X dd_Mo_told_155 (by decide) ?_
        refine z_icmp_ne (tgt := 166) X dd_Mo_told_156 (by decide) (fun q16 => ?_) (fun q16 => ?_)
        · rw [if_neg q16] at h
          refine z_iload_n X dd_Mo_told_166 rfl 1 rfl ?_
          refine z_bipush (v := 8) X dd_Mo_told_167 (by decide) ?_
          refine z_icmp_ge (tgt := 185) X dd_Mo_told_169 (by decide) (fun q17 => ?_) (fun q17 => ?_)
          · rw [if_pos q17] at h
            refine z_iconst (v := 0) X dd_Mo_told_185 (by decide) ?_
            refine z_istore_n (lv' := [(3, .int 0), (0, .ref x0), (1, .int x1), (2, .int x2)]) X dd_Mo_told_186 rfl (by decide) rfl ?_
            refine z_iconst (v := 0) X dd_Mo_told_187 (by decide) ?_
            refine z_istore (lv' := [(4, .int 0), (3, .int 0), (0, .ref x0), (1, .int x1), (2, .int x2)]) X dd_Mo_told_188 (by decide) rfl ?_
            refine z_sub [2, 3, 4, 1, 0] rfl ?_
            exact t_Mo_told_190 X H h
          · rw [if_neg q17] at h
            refine z_aload_n X dd_Mo_told_172 rfl 0 rfl ?_
            obtain ⟨v28, ev28, h⟩ := zb h
            refine z_get (j := 2) X dd_Mo_told_173 kc_12 ki_12 (by decide) km_1523 (zgr_v ev28) ?_
            refine z_iconst (v := 4) X dd_Mo_told_176 (by decide) ?_
            refine z_iload_n X dd_Mo_told_177 rfl 2 rfl ?_
            refine z_imul X dd_Mo_told_178 ?_
            refine z_iload_n X dd_Mo_told_179 rfl 1 rfl ?_
            refine z_iadd X dd_Mo_told_180 ?_
            refine z_iconst (v := 4) X dd_Mo_told_181 (by decide) ?_
            refine z_isub X dd_Mo_told_182 ?_
            obtain ⟨v29, ev29, h⟩ := zb h
            refine z_iaload X dd_Mo_told_183 rfl ev29 ?_
            obtain rfl := Option.some.inj h
            exact z_iret X H.1 H.2.1 H.2.2.1 dd_Mo_told_184
        · rw [if_pos q16] at h
          refine z_aload_n X dd_Mo_told_159 rfl 0 rfl ?_
          obtain ⟨v30, ev30, h⟩ := zb h
          refine z_get (j := 1) X dd_Mo_told_160 kc_12 ki_12 (by decide) km_1522 (zgr_v ev30) ?_
          refine z_iload_n X dd_Mo_told_163 rfl 2 rfl ?_
          obtain ⟨v31, ev31, h⟩ := zb h
          refine z_iaload X dd_Mo_told_164 rfl ev31 ?_
          obtain rfl := Option.some.inj h
          exact z_iret X H.1 H.2.1 H.2.2.1 dd_Mo_told_165
      · rw [if_pos q15] at h
        refine z_sub [] rfl ?_
        exact t_Mo_told_150 X H h
set_option maxRecDepth 100000 in
set_option maxHeartbeats 4000000 in
theorem t_Mo_told_72  (X : zX p s m args cd D cid B bb_Mo_told 5 rr_Mo zT) (H : zH s meth B n0 (some (.int)) "told") {nf : Nat}  {c : Zc} {res : Int32 × Zc} (h : f_Mo_told_72 nf  c = some res) : Zz p l e (zRm 1 22 0 0) s m args below meth cd (MQ below (zQi D cid B res.1 res.2 n0 0) args s 0 0 (fun q => B ≤ q)) D cid B 5 0 0 c 72 [] [] := by
  unfold f_Mo_told_72 at h
  refine z_sipush (v := 10000) X dd_Mo_told_72 (by decide) ?_
  obtain rfl := Option.some.inj h
  exact z_iret X H.1 H.2.1 H.2.2.1 dd_Mo_told_75
set_option maxRecDepth 100000 in
set_option maxHeartbeats 4000000 in
theorem t_Mo_told_127  (X : zX p s m args cd D cid B bb_Mo_told 5 rr_Mo zT) (H : zH s meth B n0 (some (.int)) "told") {nf : Nat} {s0 : Int32} {c : Zc} {res : Int32 × Zc} (h : f_Mo_told_127 nf s0 c = some res) : Zz p l e (zRm 1 22 0 0) s m args below meth cd (MQ below (zQi D cid B res.1 res.2 n0 0) args s 0 0 (fun q => B ≤ q)) D cid B 5 0 0 c 127 [] [.int s0] := by
  unfold f_Mo_told_127 at h
  obtain rfl := Option.some.inj h
  exact z_iret X H.1 H.2.1 H.2.2.1 dd_Mo_told_127
set_option maxRecDepth 100000 in
set_option maxHeartbeats 4000000 in
theorem c_Mo_told (l : Launch) {nf : Nat} {a0 : Nat} {a1 : Int32} {a2 : Int32} {c : Zc} {res : Int32 × Zc} (h : f_Mo_told nf a0 a1 a2 c = some res) : zM l yy_Mo_told ww_Mo_told 1 22 0 0 [.ref a0, .int a1, .int a2] c (fun D cid B => zQi D cid B res.1 res.2 c.length 0) := by
  refine z_met (cc := bb_Mo_told) (maxL := 5) (ret := (some (.int))) (by decide +kernel) rfl (Nat.le_of_ble_eq_true rfl) ?_
  intro p e s m args below meth cd D cid B X h1 h2 h3 h4
  have X : zX p s m args cd D cid B bb_Mo_told 5 rr_Mo zT := X
  have H : zH s meth B c.length (some (.int)) "told" := ⟨h1, h2, h4, h3⟩
  unfold f_Mo_told at h
  show Zz p l e (zRm 1 22 0 0) s m args below meth cd _ D cid B 5 0 0 c 0 [(0, .ref a0), (1, .int a1), (2, .int a2)] []
  refine z_iload_n X dd_Mo_told_0 rfl 1 rfl ?_
  refine z_if_eq (tgt := 14) X dd_Mo_told_1 (by decide) (fun q1 => ?_) (fun q1 => ?_)
  · rw [if_pos q1] at h
    refine z_sub [0, 1] rfl ?_
    exact t_Mo_told_14 X H h
  · rw [if_neg q1] at h
    refine z_iload_n X dd_Mo_told_4 rfl 1 rfl ?_
    refine z_iconst (v := 1) X dd_Mo_told_5 (by decide) ?_
    refine z_icmp_eq (tgt := 14) X dd_Mo_told_6 (by decide) (fun q8 => ?_) (fun q8 => ?_)
    · rw [if_pos q8] at h
      refine z_sub [0, 1] rfl ?_
      exact t_Mo_told_14 X H h
    · rw [if_neg q8] at h
      refine z_iload_n X dd_Mo_told_9 rfl 1 rfl ?_
      refine z_iconst (v := 2) X dd_Mo_told_10 (by decide) ?_
      refine z_icmp_ne (tgt := 42) X dd_Mo_told_11 (by decide) (fun q9 => ?_) (fun q9 => ?_)
      · rw [if_neg q9] at h
        refine z_iload_n X dd_Mo_told_42 rfl 1 rfl ?_
        refine z_bipush (v := 10) X dd_Mo_told_43 (by decide) ?_
        refine z_icmp_lt (tgt := 128) X dd_Mo_told_45 (by decide) (fun q10 => ?_) (fun q10 => ?_)
        · rw [if_pos q10] at h
          exact t_Mo_told_128 X H h
        · rw [if_neg q10] at h
          refine z_iload_n X dd_Mo_told_48 rfl 1 rfl ?_
          refine z_bipush (v := 13) X dd_Mo_told_49 (by decide) ?_
          refine z_icmp_gt (tgt := 128) X dd_Mo_told_51 (by decide) (fun q32 => ?_) (fun q32 => ?_)
          · rw [if_pos q32] at h
            exact t_Mo_told_128 X H h
          · rw [if_neg q32] at h
            refine z_iload_n X dd_Mo_told_54 rfl 2 rfl ?_
            refine z_bipush (v := 100) X dd_Mo_told_55 (by decide) ?_
            obtain ⟨q33, eq33, h⟩ := zb h
            refine z_callSi X [.int a2, .int 100] rfl dd_Mo_told_57 (c_Mo_isIn l eq33) (va_cwS 2 X.1.2.2.2.2 (zg_S km_1809 km_1810 km_138 km_1811) rfl rfl rfl (by decide +kernel) ⟨Nat.le_of_ble_eq_true rfl, Nat.le_of_ble_eq_true rfl⟩) rfl (Nat.le_of_ble_eq_true rfl) ⟨Nat.le_of_ble_eq_true rfl, Nat.le_of_ble_eq_true rfl⟩ ?_
            refine z_if_eq (tgt := 72) X dd_Mo_told_60 (by decide) (fun q34 => ?_) (fun q34 => ?_)
            · rw [if_pos q34] at h
              refine z_sub [] rfl ?_
              exact t_Mo_told_72 X H h
            · rw [if_neg q34] at h
              refine z_aload_n X dd_Mo_told_63 rfl 0 rfl ?_
              obtain ⟨v35, ev35, h⟩ := zb h
              refine z_get (j := 3) X dd_Mo_told_64 kc_12 ki_12 (by decide) km_1524 (zgr_v ev35) ?_
              refine z_iload_n X dd_Mo_told_67 rfl 2 rfl ?_
              obtain ⟨v36, ev36, h⟩ := zb h
              refine z_zaload X dd_Mo_told_68 rfl ev36 ?_
              refine z_if_ne (tgt := 76) X dd_Mo_told_69 (by decide) (fun q37 => ?_) (fun q37 => ?_)
              · rw [if_neg q37] at h
                refine z_iload_n X dd_Mo_told_76 rfl 1 rfl ?_
                refine z_bipush (v := 10) X dd_Mo_told_77 (by decide) ?_
                refine z_icmp_ne (tgt := 91) X dd_Mo_told_79 (by decide) (fun q38 => ?_) (fun q38 => ?_)
                · rw [if_neg q38] at h
                  refine z_iload_n X dd_Mo_told_91 rfl 1 rfl ?_
                  refine z_bipush (v := 11) X dd_Mo_told_92 (by decide) ?_
                  refine z_icmp_ne (tgt := 106) X dd_Mo_told_94 (by decide) (fun q39 => ?_) (fun q39 => ?_)
                  · rw [if_neg q39] at h
                    refine z_iload_n X dd_Mo_told_106 rfl 1 rfl ?_
                    refine z_bipush (v := 12) X dd_Mo_told_107 (by decide) ?_
                    refine z_icmp_ne (tgt := 121) X dd_Mo_told_109 (by decide) (fun q40 => ?_) (fun q40 => ?_)
                    · rw [if_neg q40] at h
                      refine z_aload_n X dd_Mo_told_121 rfl 0 rfl ?_
                      obtain ⟨v41, ev41, h⟩ := zb h
                      refine z_get (j := 7) X dd_Mo_told_122 kc_12 ki_12 (by decide) km_1528 (zgr_v ev41) ?_
                      refine z_iload_n X dd_Mo_told_125 rfl 2 rfl ?_
                      obtain ⟨v42, ev42, h⟩ := zb h
                      refine z_iaload X dd_Mo_told_126 rfl ev42 ?_
                      refine z_sub [] rfl ?_
                      exact t_Mo_told_127 X H h
                    · rw [if_pos q40] at h
                      refine z_aload_n X dd_Mo_told_112 rfl 0 rfl ?_
                      obtain ⟨v43, ev43, h⟩ := zb h
                      refine z_get (j := 6) X dd_Mo_told_113 kc_12 ki_12 (by decide) km_1527 (zgr_v ev43) ?_
                      refine z_iload_n X dd_Mo_told_116 rfl 2 rfl ?_
                      obtain ⟨v44, ev44, h⟩ := zb h
                      refine z_iaload X dd_Mo_told_117 rfl ev44 ?_
                      refine z_goto (tgt := 127) X dd_Mo_told_118 (by decide) ?_
                      refine z_sub [] rfl ?_
                      exact t_Mo_told_127 X H h
                  · rw [if_pos q39] at h
                    refine z_aload_n X dd_Mo_told_97 rfl 0 rfl ?_
                    obtain ⟨v45, ev45, h⟩ := zb h
                    refine z_get (j := 5) X dd_Mo_told_98 kc_12 ki_12 (by decide) km_1526 (zgr_v ev45) ?_
                    refine z_iload_n X dd_Mo_told_101 rfl 2 rfl ?_
                    obtain ⟨v46, ev46, h⟩ := zb h
                    refine z_iaload X dd_Mo_told_102 rfl ev46 ?_
                    refine z_goto (tgt := 127) X dd_Mo_told_103 (by decide) ?_
                    refine z_sub [] rfl ?_
                    exact t_Mo_told_127 X H h
                · rw [if_pos q38] at h
                  refine z_aload_n X dd_Mo_told_82 rfl 0 rfl ?_
                  obtain ⟨v47, ev47, h⟩ := zb h
                  refine z_get (j := 4) X dd_Mo_told_83 kc_12 ki_12 (by decide) km_1525 (zgr_v ev47) ?_
                  refine z_iload_n X dd_Mo_told_86 rfl 2 rfl ?_
                  obtain ⟨v48, ev48, h⟩ := zb h
                  refine z_iaload X dd_Mo_told_87 rfl ev48 ?_
                  refine z_goto (tgt := 127) X dd_Mo_told_88 (by decide) ?_
                  refine z_sub [] rfl ?_
                  exact t_Mo_told_127 X H h
              · rw [if_pos q37] at h
                refine z_sub [] rfl ?_
                exact t_Mo_told_72 X H h
      · rw [if_pos q9] at h
        refine z_sub [0, 1] rfl ?_
        exact t_Mo_told_14 X H h
end ZzM
