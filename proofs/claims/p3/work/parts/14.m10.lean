section ZzM
variable {p : Program} {l : Launch} {e : Env} {s : State} {m : MethodId} {args : Array Value} {below : List Frame} {meth : Method} {cd : Code} {Q : State → Prop} {D : va_G} {cid : Nat → ClassId} {B n0 : Nat}
theorem dd_RuleBook_isOneLarge_0 : decode bb_RuleBook_isOneLarge 0 = .ok (.iconst 0, 1) := by decide +kernel
theorem dd_RuleBook_isOneLarge_1 : decode bb_RuleBook_isOneLarge 1 = .ok (.istore_n 1, 1) := by decide +kernel
theorem dd_RuleBook_isOneLarge_2 : decode bb_RuleBook_isOneLarge 2 = .ok (.iload_n 1, 1) := by decide +kernel
theorem dd_RuleBook_isOneLarge_3 : decode bb_RuleBook_isOneLarge 3 = .ok (.iconst 4, 1) := by decide +kernel
theorem dd_RuleBook_isOneLarge_4 : decode bb_RuleBook_isOneLarge 4 = .ok (.if_icmp .ge 46, 3) := by decide +kernel
theorem dd_RuleBook_isOneLarge_7 : decode bb_RuleBook_isOneLarge 7 = .ok (.aload_n 0, 1) := by decide +kernel
theorem dd_RuleBook_isOneLarge_8 : decode bb_RuleBook_isOneLarge 8 = .ok (.getfield 11, 3) := by decide +kernel
theorem dd_RuleBook_isOneLarge_11 : decode bb_RuleBook_isOneLarge 11 = .ok (.iload_n 1, 1) := by decide +kernel
theorem dd_RuleBook_isOneLarge_12 : decode bb_RuleBook_isOneLarge 12 = .ok (.aaload, 1) := by decide +kernel
theorem dd_RuleBook_isOneLarge_13 : decode bb_RuleBook_isOneLarge 13 = .ok (.getfield 38, 3) := by decide +kernel
theorem dd_RuleBook_isOneLarge_16 : decode bb_RuleBook_isOneLarge 16 = .ok (.ifCond .eq 28, 3) := by decide +kernel
theorem dd_RuleBook_isOneLarge_19 : decode bb_RuleBook_isOneLarge 19 = .ok (.aload_n 0, 1) := by decide +kernel
theorem dd_RuleBook_isOneLarge_20 : decode bb_RuleBook_isOneLarge 20 = .ok (.getfield 11, 3) := by decide +kernel
theorem dd_RuleBook_isOneLarge_23 : decode bb_RuleBook_isOneLarge 23 = .ok (.iload_n 1, 1) := by decide +kernel
theorem dd_RuleBook_isOneLarge_24 : decode bb_RuleBook_isOneLarge 24 = .ok (.aaload, 1) := by decide +kernel
theorem dd_RuleBook_isOneLarge_25 : decode bb_RuleBook_isOneLarge 25 = .ok (.aload_n 0, 1) := by decide +kernel
theorem dd_RuleBook_isOneLarge_26 : decode bb_RuleBook_isOneLarge 26 = .ok (.getfield 29, 3) := by decide +kernel
theorem dd_RuleBook_isOneLarge_29 : decode bb_RuleBook_isOneLarge 29 = .ok (.getfield 69, 3) := by decide +kernel
theorem dd_RuleBook_isOneLarge_32 : decode bb_RuleBook_isOneLarge 32 = .ok (.invokevirtual 72, 3) := by decide +kernel
theorem dd_RuleBook_isOneLarge_35 : decode bb_RuleBook_isOneLarge 35 = .ok (.ldc2_w 76, 3) := by decide +kernel
theorem dd_RuleBook_isOneLarge_38 : decode bb_RuleBook_isOneLarge 38 = .ok (.lcmp, 1) := by decide +kernel
theorem dd_RuleBook_isOneLarge_39 : decode bb_RuleBook_isOneLarge 39 = .ok (.ifCond .le 5, 3) := by decide +kernel
theorem dd_RuleBook_isOneLarge_42 : decode bb_RuleBook_isOneLarge 42 = .ok (.iconst 1, 1) := by decide +kernel
theorem dd_RuleBook_isOneLarge_43 : decode bb_RuleBook_isOneLarge 43 = .ok (.ireturn, 1) := by decide +kernel
theorem dd_RuleBook_isOneLarge_44 : decode bb_RuleBook_isOneLarge 44 = .ok (.iinc 1 1, 3) := by decide +kernel
theorem dd_RuleBook_isOneLarge_47 : decode bb_RuleBook_isOneLarge 47 = .ok (.goto (-45), 3) := by decide +kernel
theorem dd_RuleBook_isOneLarge_50 : decode bb_RuleBook_isOneLarge 50 = .ok (.iconst 0, 1) := by decide +kernel
theorem dd_RuleBook_isOneLarge_51 : decode bb_RuleBook_isOneLarge 51 = .ok (.ireturn, 1) := by decide +kernel
def f_RuleBook_isOneLarge_44 (nf : Nat) (x0 : Nat) (x1 : Int32) (c : Zc) : Option ((Nat × Int32 × Zc) ⊕ ((Zc) ⊕ (Zc))) :=
  some (.inl (x0, (x1 + 1), c))
def g_RuleBook_isOneLarge_2 (nf : Nat) (x0 : Nat) (x1 : Int32) (c : Zc) : Option ((Nat × Int32 × Zc) ⊕ ((Zc) ⊕ (Zc))) :=
  if 4 ≤ x1 then (some (.inr (.inr c))) else ((zgr c x0 8 0).bind fun v2 => (zar c v2 4 x1).bind fun v3 => (zgi c v3 2 0).bind fun v4 => if v4 = 0 then (f_RuleBook_isOneLarge_44 nf x0 x1 c) else ((zgr c x0 8 0).bind fun v6 => (zar c v6 4 x1).bind fun v7 => (zgr c x0 8 1).bind fun v8 => (zgi c v8 0 7).bind fun v9 => (zob c v7 2).bind fun w11 => (f_Text_work nf v7 v9 c).bind fun q10 => if (lg_cmp q10.1 20000) ≤ 0 then (f_RuleBook_isOneLarge_44 nf x0 x1 q10.2) else (some (.inr (.inl q10.2)))))
def f_RuleBook_isOneLarge_2 (nf : Nat) (x0 : Nat) (x1 : Int32) (c : Zc) : Option (Int32 × Zc) :=
  (zlp (fun a => g_RuleBook_isOneLarge_2 nf a.1 a.2.1 a.2.2) nf (x0, x1, c)).bind fun b => Sum.elim (fun b => zrz 1 b) (fun b => zrz 0 b) b
def f_RuleBook_isOneLarge (nf : Nat) (a0 : Nat) (c : Zc) : Option (Int32 × Zc) :=
  f_RuleBook_isOneLarge_2 nf a0 0 c
set_option maxRecDepth 100000 in
set_option maxHeartbeats 4000000 in
theorem t_RuleBook_isOneLarge_44  (X : zX p s m args cd D cid B bb_RuleBook_isOneLarge 2 rr_RuleBook zT) (H : zH s meth B n0 (some (.boolean)) "isOneLarge") {nf : Nat} {x0 : Nat} {x1 : Int32} {c : Zc} {r : (Nat × Int32 × Zc) ⊕ ((Zc) ⊕ (Zc))} (h : f_RuleBook_isOneLarge_44 nf x0 x1 c = some r) (k0 : ∀ a, r = .inl a → (fun a : Nat × Int32 × Zc => Zz p l e (zRm 1 24 0 0) s m args below meth cd Q D cid B 2 0 0 a.2.2 2 [(0, .ref a.1), (1, .int a.2.1)] []) a) (k1 : ∀ b, r = .inr b → (fun b : (Zc) ⊕ (Zc) => Sum.elim (fun b => Zz p l e (zRm 1 24 0 0) s m args below meth cd Q D cid B 2 0 0 b 42 [] []) (fun b => Zz p l e (zRm 1 24 0 0) s m args below meth cd Q D cid B 2 0 0 b 50 [] []) b) b) : Zz p l e (zRm 1 24 0 0) s m args below meth cd Q D cid B 2 0 0 c 44 [(0, .ref x0), (1, .int x1)] [] := by
  unfold f_RuleBook_isOneLarge_44 at h
  refine z_iinc (v := (x1 + 1)) (lv' := [(1, .int (x1 + 1)), (0, .ref x0)]) X dd_RuleBook_isOneLarge_44 1 rfl rfl (by decide) rfl ?_
  refine z_goto (tgt := 2) X dd_RuleBook_isOneLarge_47 (by decide) ?_
  refine z_sub [1, 0] rfl ?_
  obtain rfl := Option.some.inj h
  exact k0 _ rfl
set_option maxRecDepth 100000 in
set_option maxHeartbeats 4000000 in
theorem u_RuleBook_isOneLarge_2  (X : zX p s m args cd D cid B bb_RuleBook_isOneLarge 2 rr_RuleBook zT) (H : zH s meth B n0 (some (.boolean)) "isOneLarge") {nf : Nat} {x0 : Nat} {x1 : Int32} {c : Zc} {r : (Nat × Int32 × Zc) ⊕ ((Zc) ⊕ (Zc))} (h : g_RuleBook_isOneLarge_2 nf x0 x1 c = some r) (k0 : ∀ a, r = .inl a → (fun a : Nat × Int32 × Zc => Zz p l e (zRm 1 24 0 0) s m args below meth cd Q D cid B 2 0 0 a.2.2 2 [(0, .ref a.1), (1, .int a.2.1)] []) a) (k1 : ∀ b, r = .inr b → (fun b : (Zc) ⊕ (Zc) => Sum.elim (fun b => Zz p l e (zRm 1 24 0 0) s m args below meth cd Q D cid B 2 0 0 b 42 [] []) (fun b => Zz p l e (zRm 1 24 0 0) s m args below meth cd Q D cid B 2 0 0 b 50 [] []) b) b) : Zz p l e (zRm 1 24 0 0) s m args below meth cd Q D cid B 2 0 0 c 2 [(0, .ref x0), (1, .int x1)] [] := by
  unfold g_RuleBook_isOneLarge_2 at h
  refine z_iload_n X dd_RuleBook_isOneLarge_2 rfl 1 rfl ?_
  refine z_iconst (v := 4) X dd_RuleBook_isOneLarge_3 (by decide) ?_
  refine z_icmp_ge (tgt := 50) X dd_RuleBook_isOneLarge_4 (by decide) (fun q1 => ?_) (fun q1 => ?_)
  · rw [if_pos q1] at h
    refine z_sub [] rfl ?_
    obtain rfl := Option.some.inj h
    exact k1 _ rfl
  · rw [if_neg q1] at h
    refine z_aload_n X dd_RuleBook_isOneLarge_7 rfl 0 rfl ?_
    obtain ⟨v2, ev2, h⟩ := zb h
    refine z_get (j := 0) X dd_RuleBook_isOneLarge_8 kc_8 ki_8 (by decide) km_622 (zgr_v ev2) ?_
    refine z_iload_n X dd_RuleBook_isOneLarge_11 rfl 1 rfl ?_
    obtain ⟨v3, ev3, h⟩ := zb h
    refine z_aaload X dd_RuleBook_isOneLarge_12 rfl ev3 ?_
    obtain ⟨v4, ev4, h⟩ := zb h
    refine z_get (j := 0) X dd_RuleBook_isOneLarge_13 kc_2 ki_2 (by decide) km_299 (zgi_v ev4) ?_
    refine z_if_eq (tgt := 44) X dd_RuleBook_isOneLarge_16 (by decide) (fun q5 => ?_) (fun q5 => ?_)
    · rw [if_pos q5] at h
      exact t_RuleBook_isOneLarge_44 X H h k0 k1
    · rw [if_neg q5] at h
      refine z_aload_n X dd_RuleBook_isOneLarge_19 rfl 0 rfl ?_
      obtain ⟨v6, ev6, h⟩ := zb h
      refine z_get (j := 0) X dd_RuleBook_isOneLarge_20 kc_8 ki_8 (by decide) km_622 (zgr_v ev6) ?_
      refine z_iload_n X dd_RuleBook_isOneLarge_23 rfl 1 rfl ?_
      obtain ⟨v7, ev7, h⟩ := zb h
      refine z_aaload X dd_RuleBook_isOneLarge_24 rfl ev7 ?_
      refine z_aload_n X dd_RuleBook_isOneLarge_25 rfl 0 rfl ?_
      obtain ⟨v8, ev8, h⟩ := zb h
      refine z_get (j := 1) X dd_RuleBook_isOneLarge_26 kc_8 ki_8 (by decide) km_624 (zgr_v ev8) ?_
      obtain ⟨v9, ev9, h⟩ := zb h
      refine z_get (j := 7) X dd_RuleBook_isOneLarge_29 kc_0 ki_0 (by decide) km_175 (zgi_v ev9) ?_
      obtain ⟨w11, ew11, h⟩ := zb h
      obtain ⟨q10, eq10, h⟩ := zb h
      refine z_callVl X [.int v9] rfl dd_RuleBook_isOneLarge_32 (c_Text_work l eq10) (cwV 1 X.1.2.2.2.2 (zg_V km_1270 km_1271 km_1272 km_128 km_1273) rfl rfl rfl (by decide +kernel) ⟨Nat.le_of_ble_eq_true rfl, Nat.le_of_ble_eq_true rfl⟩) (zob_s ew11) kc_2 rfl (Nat.le_of_ble_eq_true rfl) ⟨Nat.le_of_ble_eq_true rfl, Nat.le_of_ble_eq_true rfl⟩ ?_
      refine z_ldc2 (v := 20000) X dd_RuleBook_isOneLarge_35 km_1279 ?_
      refine z_lcmp X dd_RuleBook_isOneLarge_38 ?_
      refine z_if_le (tgt := 44) X dd_RuleBook_isOneLarge_39 (by decide) (fun q12 => ?_) (fun q12 => ?_)
      · rw [if_pos q12] at h
        exact t_RuleBook_isOneLarge_44 X H h k0 k1
      · rw [if_neg q12] at h
        refine z_sub [] rfl ?_
        obtain rfl := Option.some.inj h
        exact k1 _ rfl
set_option maxRecDepth 100000 in
set_option maxHeartbeats 4000000 in
theorem t_RuleBook_isOneLarge_2  (X : zX p s m args cd D cid B bb_RuleBook_isOneLarge 2 rr_RuleBook zT) (H : zH s meth B n0 (some (.boolean)) "isOneLarge") {nf : Nat} {x0 : Nat} {x1 : Int32} {c : Zc} {res : Int32 × Zc} (h : f_RuleBook_isOneLarge_2 nf x0 x1 c = some res) : Zz p l e (zRm 1 24 0 0) s m args below meth cd (MQ below (zQi D cid B res.1 res.2 n0 0) args s 0 0 (fun q => B ≤ q)) D cid B 2 0 0 c 2 [(0, .ref x0), (1, .int x1)] [] := by
  unfold f_RuleBook_isOneLarge_2 at h
  obtain ⟨b, eb, h⟩ := zb h
  refine zlp_ok (P := fun a : Nat × Int32 × Zc => Zz p l e (zRm 1 24 0 0) s m args below meth cd _ D cid B 2 0 0 a.2.2 2 [(0, .ref a.1), (1, .int a.2.1)] []) (G := fun b : (Zc) ⊕ (Zc) => Sum.elim (fun b => Zz p l e (zRm 1 24 0 0) s m args below meth cd _ D cid B 2 0 0 b 42 [] []) (fun b => Zz p l e (zRm 1 24 0 0) s m args below meth cd _ D cid B 2 0 0 b 50 [] []) b) (fun a r ha k0 k1 => u_RuleBook_isOneLarge_2 X H ha k0 k1) nf _ b eb ?_
  rcases b with b | b
  · simp only [Sum.elim_inl] at h ⊢
    refine z_iconst (v := 1) X dd_RuleBook_isOneLarge_42 (by decide) ?_
    obtain ⟨hz, h⟩ := zrz_s h
    obtain rfl := h
    exact z_zret X H.1 (zn_z hz) H.2.1 H.2.2.1 dd_RuleBook_isOneLarge_43
  · simp only [Sum.elim_inr] at h ⊢
    refine z_iconst (v := 0) X dd_RuleBook_isOneLarge_50 (by decide) ?_
    obtain ⟨hz, h⟩ := zrz_s h
    obtain rfl := h
    exact z_zret X H.1 (zn_z hz) H.2.1 H.2.2.1 dd_RuleBook_isOneLarge_51
set_option maxRecDepth 100000 in
set_option maxHeartbeats 4000000 in
theorem c_RuleBook_isOneLarge (l : Launch) {nf : Nat} {a0 : Nat} {c : Zc} {res : Int32 × Zc} (h : f_RuleBook_isOneLarge nf a0 c = some res) : zM l yy_RuleBook_isOneLarge ww_RuleBook_isOneLarge 1 24 0 0 [.ref a0] c (fun D cid B => zQi D cid B res.1 res.2 c.length 0) := by
  refine z_met (cc := bb_RuleBook_isOneLarge) (maxL := 2) (ret := (some (.boolean))) (by decide +kernel) rfl (Nat.le_of_ble_eq_true rfl) ?_
  intro p e s m args below meth cd D cid B X h1 h2 h3 h4
  have X : zX p s m args cd D cid B bb_RuleBook_isOneLarge 2 rr_RuleBook zT := X
  have H : zH s meth B c.length (some (.boolean)) "isOneLarge" := ⟨h1, h2, h4, h3⟩
  unfold f_RuleBook_isOneLarge at h
  show Zz p l e (zRm 1 24 0 0) s m args below meth cd _ D cid B 2 0 0 c 0 [(0, .ref a0)] []
  refine z_iconst (v := 0) X dd_RuleBook_isOneLarge_0 (by decide) ?_
  refine z_istore_n (lv' := [(1, .int 0), (0, .ref a0)]) X dd_RuleBook_isOneLarge_1 rfl (by decide) rfl ?_
  refine z_sub [1, 0] rfl ?_
  exact t_RuleBook_isOneLarge_2 X H h
theorem dd_RuleBook_forgetRuled_0 : decode bb_RuleBook_forgetRuled 0 = .ok (.iconst 0, 1) := by decide +kernel
theorem dd_RuleBook_forgetRuled_1 : decode bb_RuleBook_forgetRuled 1 = .ok (.istore_n 1, 1) := by decide +kernel
theorem dd_RuleBook_forgetRuled_2 : decode bb_RuleBook_forgetRuled 2 = .ok (.iload_n 1, 1) := by decide +kernel
theorem dd_RuleBook_forgetRuled_3 : decode bb_RuleBook_forgetRuled 3 = .ok (.aload_n 0, 1) := by decide +kernel
theorem dd_RuleBook_forgetRuled_4 : decode bb_RuleBook_forgetRuled 4 = .ok (.getfield 113, 3) := by decide +kernel
theorem dd_RuleBook_forgetRuled_7 : decode bb_RuleBook_forgetRuled 7 = .ok (.if_icmp .ge 31, 3) := by decide +kernel
theorem dd_RuleBook_forgetRuled_10 : decode bb_RuleBook_forgetRuled 10 = .ok (.aload_n 0, 1) := by decide +kernel
theorem dd_RuleBook_forgetRuled_11 : decode bb_RuleBook_forgetRuled 11 = .ok (.getfield 116, 3) := by decide +kernel
theorem dd_RuleBook_forgetRuled_14 : decode bb_RuleBook_forgetRuled 14 = .ok (.iload_n 1, 1) := by decide +kernel
theorem dd_RuleBook_forgetRuled_15 : decode bb_RuleBook_forgetRuled 15 = .ok (.aaload, 1) := by decide +kernel
theorem dd_RuleBook_forgetRuled_16 : decode bb_RuleBook_forgetRuled 16 = .ok (.getfield 120, 3) := by decide +kernel
theorem dd_RuleBook_forgetRuled_19 : decode bb_RuleBook_forgetRuled 19 = .ok (.ifCond .eq 13, 3) := by decide +kernel
theorem dd_RuleBook_forgetRuled_22 : decode bb_RuleBook_forgetRuled 22 = .ok (.aload_n 0, 1) := by decide +kernel
theorem dd_RuleBook_forgetRuled_23 : decode bb_RuleBook_forgetRuled 23 = .ok (.getfield 116, 3) := by decide +kernel
theorem dd_RuleBook_forgetRuled_26 : decode bb_RuleBook_forgetRuled 26 = .ok (.iload_n 1, 1) := by decide +kernel
theorem dd_RuleBook_forgetRuled_27 : decode bb_RuleBook_forgetRuled 27 = .ok (.aaload, 1) := by decide +kernel
theorem dd_RuleBook_forgetRuled_28 : decode bb_RuleBook_forgetRuled 28 = .ok (.iconst (-1), 1) := by decide +kernel
theorem dd_RuleBook_forgetRuled_29 : decode bb_RuleBook_forgetRuled 29 = .ok (.putfield 125, 3) := by decide +kernel
theorem dd_RuleBook_forgetRuled_32 : decode bb_RuleBook_forgetRuled 32 = .ok (.iinc 1 1, 3) := by decide +kernel
theorem dd_RuleBook_forgetRuled_35 : decode bb_RuleBook_forgetRuled 35 = .ok (.goto (-33), 3) := by decide +kernel
theorem dd_RuleBook_forgetRuled_38 : decode bb_RuleBook_forgetRuled 38 = .ok (.return_, 1) := by decide +kernel
def f_RuleBook_forgetRuled_32 (nf : Nat) (x0 : Nat) (x1 : Int32) (c : Zc) : Option ((Nat × Int32 × Zc) ⊕ (Zc)) :=
  some (.inl (x0, (x1 + 1), c))
def g_RuleBook_forgetRuled_2 (nf : Nat) (x0 : Nat) (x1 : Int32) (c : Zc) : Option ((Nat × Int32 × Zc) ⊕ (Zc)) :=
  (zgi c x0 2 3).bind fun v1 => if v1 ≤ x1 then (some (.inr c)) else ((zgr c x0 2 4).bind fun v3 => (zar c v3 3 x1).bind fun v4 => (zgi c v4 1 4).bind fun v5 => if v5 = 0 then (f_RuleBook_forgetRuled_32 nf x0 x1 c) else ((zgr c x0 2 4).bind fun v7 => (zar c v7 3 x1).bind fun v8 => (zpv c v8 1 17 (.int (-1))).bind fun c9 => f_RuleBook_forgetRuled_32 nf x0 x1 c9))
def f_RuleBook_forgetRuled_2 (nf : Nat) (x0 : Nat) (x1 : Int32) (c : Zc) : Option (Zc) :=
  (zlp (fun a => g_RuleBook_forgetRuled_2 nf a.1 a.2.1 a.2.2) nf (x0, x1, c)).bind fun b => some b
def f_RuleBook_forgetRuled (nf : Nat) (a0 : Nat) (c : Zc) : Option (Zc) :=
  f_RuleBook_forgetRuled_2 nf a0 0 c
set_option maxRecDepth 100000 in
set_option maxHeartbeats 4000000 in
theorem t_RuleBook_forgetRuled_32  (X : zX p s m args cd D cid B bb_RuleBook_forgetRuled 2 rr_RuleBook zT) (H : zH s meth B n0 none "forgetRuled") {nf : Nat} {x0 : Nat} {x1 : Int32} {c : Zc} {r : (Nat × Int32 × Zc) ⊕ (Zc)} (h : f_RuleBook_forgetRuled_32 nf x0 x1 c = some r) (k0 : ∀ a, r = .inl a → (fun a : Nat × Int32 × Zc => Zz p l e (zRm 0 0 0 0) s m args below meth cd Q D cid B 2 0 0 a.2.2 2 [(0, .ref a.1), (1, .int a.2.1)] []) a) (k1 : ∀ b, r = .inr b → (fun b : Zc => Zz p l e (zRm 0 0 0 0) s m args below meth cd Q D cid B 2 0 0 b 38 [] []) b) : Zz p l e (zRm 0 0 0 0) s m args below meth cd Q D cid B 2 0 0 c 32 [(0, .ref x0), (1, .int x1)] [] := by
  unfold f_RuleBook_forgetRuled_32 at h
  refine z_iinc (v := (x1 + 1)) (lv' := [(1, .int (x1 + 1)), (0, .ref x0)]) X dd_RuleBook_forgetRuled_32 1 rfl rfl (by decide) rfl ?_
  refine z_goto (tgt := 2) X dd_RuleBook_forgetRuled_35 (by decide) ?_
  refine z_sub [1, 0] rfl ?_
  obtain rfl := Option.some.inj h
  exact k0 _ rfl
set_option maxRecDepth 100000 in
set_option maxHeartbeats 4000000 in
theorem u_RuleBook_forgetRuled_2  (X : zX p s m args cd D cid B bb_RuleBook_forgetRuled 2 rr_RuleBook zT) (H : zH s meth B n0 none "forgetRuled") {nf : Nat} {x0 : Nat} {x1 : Int32} {c : Zc} {r : (Nat × Int32 × Zc) ⊕ (Zc)} (h : g_RuleBook_forgetRuled_2 nf x0 x1 c = some r) (k0 : ∀ a, r = .inl a → (fun a : Nat × Int32 × Zc => Zz p l e (zRm 0 0 0 0) s m args below meth cd Q D cid B 2 0 0 a.2.2 2 [(0, .ref a.1), (1, .int a.2.1)] []) a) (k1 : ∀ b, r = .inr b → (fun b : Zc => Zz p l e (zRm 0 0 0 0) s m args below meth cd Q D cid B 2 0 0 b 38 [] []) b) : Zz p l e (zRm 0 0 0 0) s m args below meth cd Q D cid B 2 0 0 c 2 [(0, .ref x0), (1, .int x1)] [] := by
  unfold g_RuleBook_forgetRuled_2 at h
  refine z_iload_n X dd_RuleBook_forgetRuled_2 rfl 1 rfl ?_
  refine z_aload_n X dd_RuleBook_forgetRuled_3 rfl 0 rfl ?_
  obtain ⟨v1, ev1, h⟩ := zb h
  refine z_get (j := 3) X dd_RuleBook_forgetRuled_4 kc_2 ki_2 (by decide) km_310 (zgi_v ev1) ?_
  refine z_icmp_ge (tgt := 38) X dd_RuleBook_forgetRuled_7 (by decide) (fun q2 => ?_) (fun q2 => ?_)
  · rw [if_pos q2] at h
    refine z_sub [] rfl ?_
    obtain rfl := Option.some.inj h
    exact k1 _ rfl
  · rw [if_neg q2] at h
    refine z_aload_n X dd_RuleBook_forgetRuled_10 rfl 0 rfl ?_
    obtain ⟨v3, ev3, h⟩ := zb h
    refine z_get (j := 4) X dd_RuleBook_forgetRuled_11 kc_2 ki_2 (by decide) km_317 (zgr_v ev3) ?_
    refine z_iload_n X dd_RuleBook_forgetRuled_14 rfl 1 rfl ?_
    obtain ⟨v4, ev4, h⟩ := zb h
    refine z_aaload X dd_RuleBook_forgetRuled_15 rfl ev4 ?_
    obtain ⟨v5, ev5, h⟩ := zb h
    refine z_get (j := 4) X dd_RuleBook_forgetRuled_16 kc_1 ki_1 (by decide) km_234 (zgi_v ev5) ?_
    refine z_if_eq (tgt := 32) X dd_RuleBook_forgetRuled_19 (by decide) (fun q6 => ?_) (fun q6 => ?_)
    · rw [if_pos q6] at h
      exact t_RuleBook_forgetRuled_32 X H h k0 k1
    · rw [if_neg q6] at h
      refine z_aload_n X dd_RuleBook_forgetRuled_22 rfl 0 rfl ?_
      obtain ⟨v7, ev7, h⟩ := zb h
      refine z_get (j := 4) X dd_RuleBook_forgetRuled_23 kc_2 ki_2 (by decide) km_317 (zgr_v ev7) ?_
      refine z_iload_n X dd_RuleBook_forgetRuled_26 rfl 1 rfl ?_
      obtain ⟨v8, ev8, h⟩ := zb h
      refine z_aaload X dd_RuleBook_forgetRuled_27 rfl ev8 ?_
      refine z_iconst (v := (-1)) X dd_RuleBook_forgetRuled_28 (by decide) ?_
      obtain ⟨c9, ec9, h⟩ := zb h
      refine z_put (j := 17) X dd_RuleBook_forgetRuled_29 kc_1 ki_1 tt_Way tk_Way nn_Way (by decide) km_259 rfl (tk_Way 17 (by decide)) rfl rfl ec9 ?_
      exact t_RuleBook_forgetRuled_32 X H h k0 k1
set_option maxRecDepth 100000 in
set_option maxHeartbeats 4000000 in
theorem t_RuleBook_forgetRuled_2  (X : zX p s m args cd D cid B bb_RuleBook_forgetRuled 2 rr_RuleBook zT) (H : zH s meth B n0 none "forgetRuled") {nf : Nat} {x0 : Nat} {x1 : Int32} {c : Zc} {res : Zc} (h : f_RuleBook_forgetRuled_2 nf x0 x1 c = some res) : Zz p l e (zRm 0 0 0 0) s m args below meth cd (MQ below (zQv D cid B res n0 0) args s 0 0 (fun q => B ≤ q)) D cid B 2 0 0 c 2 [(0, .ref x0), (1, .int x1)] [] := by
  unfold f_RuleBook_forgetRuled_2 at h
  obtain ⟨b, eb, h⟩ := zb h
  refine zlp_ok (P := fun a : Nat × Int32 × Zc => Zz p l e (zRm 0 0 0 0) s m args below meth cd _ D cid B 2 0 0 a.2.2 2 [(0, .ref a.1), (1, .int a.2.1)] []) (G := fun b : Zc => Zz p l e (zRm 0 0 0 0) s m args below meth cd _ D cid B 2 0 0 b 38 [] []) (fun a r ha k0 k1 => u_RuleBook_forgetRuled_2 X H ha k0 k1) nf _ b eb ?_
  obtain rfl := Option.some.inj h
  exact z_vret X H.1 H.2.1 H.2.2.1 dd_RuleBook_forgetRuled_38
set_option maxRecDepth 100000 in
set_option maxHeartbeats 4000000 in
theorem c_RuleBook_forgetRuled (l : Launch) {nf : Nat} {a0 : Nat} {c : Zc} {res : Zc} (h : f_RuleBook_forgetRuled nf a0 c = some res) : zM l yy_RuleBook_forgetRuled ww_RuleBook_forgetRuled 0 0 0 0 [.ref a0] c (fun D cid B => zQv D cid B res c.length 0) := by
  refine z_met (cc := bb_RuleBook_forgetRuled) (maxL := 2) (ret := none) (by decide +kernel) rfl (Nat.le_of_ble_eq_true rfl) ?_
  intro p e s m args below meth cd D cid B X h1 h2 h3 h4
  have X : zX p s m args cd D cid B bb_RuleBook_forgetRuled 2 rr_RuleBook zT := X
  have H : zH s meth B c.length none "forgetRuled" := ⟨h1, h2, h4, h3⟩
  unfold f_RuleBook_forgetRuled at h
  show Zz p l e (zRm 0 0 0 0) s m args below meth cd _ D cid B 2 0 0 c 0 [(0, .ref a0)] []
  refine z_iconst (v := 0) X dd_RuleBook_forgetRuled_0 (by decide) ?_
  refine z_istore_n (lv' := [(1, .int 0), (0, .ref a0)]) X dd_RuleBook_forgetRuled_1 rfl (by decide) rfl ?_
  refine z_sub [1, 0] rfl ?_
  exact t_RuleBook_forgetRuled_2 X H h
theorem dd_RuleBook_linkAll_0 : decode bb_RuleBook_linkAll 0 = .ok (.iconst 0, 1) := by decide +kernel
theorem dd_RuleBook_linkAll_1 : decode bb_RuleBook_linkAll 1 = .ok (.istore 4, 2) := by decide +kernel
theorem dd_RuleBook_linkAll_3 : decode bb_RuleBook_linkAll 3 = .ok (.iload 4, 2) := by decide +kernel
theorem dd_RuleBook_linkAll_5 : decode bb_RuleBook_linkAll 5 = .ok (.aload_n 0, 1) := by decide +kernel
theorem dd_RuleBook_linkAll_6 : decode bb_RuleBook_linkAll 6 = .ok (.getfield 29, 3) := by decide +kernel
theorem dd_RuleBook_linkAll_9 : decode bb_RuleBook_linkAll 9 = .ok (.getfield 69, 3) := by decide +kernel
theorem dd_RuleBook_linkAll_12 : decode bb_RuleBook_linkAll 12 = .ok (.if_icmp .ge 29, 3) := by decide +kernel
theorem dd_RuleBook_linkAll_15 : decode bb_RuleBook_linkAll 15 = .ok (.iload_n 3, 1) := by decide +kernel
theorem dd_RuleBook_linkAll_16 : decode bb_RuleBook_linkAll 16 = .ok (.iload 4, 2) := by decide +kernel
theorem dd_RuleBook_linkAll_18 : decode bb_RuleBook_linkAll 18 = .ok (.ishr, 1) := by decide +kernel
theorem dd_RuleBook_linkAll_19 : decode bb_RuleBook_linkAll 19 = .ok (.iconst 1, 1) := by decide +kernel
theorem dd_RuleBook_linkAll_20 : decode bb_RuleBook_linkAll 20 = .ok (.iand, 1) := by decide +kernel
theorem dd_RuleBook_linkAll_21 : decode bb_RuleBook_linkAll 21 = .ok (.ifCond .eq 14, 3) := by decide +kernel
theorem dd_RuleBook_linkAll_24 : decode bb_RuleBook_linkAll 24 = .ok (.aload_n 0, 1) := by decide +kernel
theorem dd_RuleBook_linkAll_25 : decode bb_RuleBook_linkAll 25 = .ok (.getfield 29, 3) := by decide +kernel
theorem dd_RuleBook_linkAll_28 : decode bb_RuleBook_linkAll 28 = .ok (.iload_n 1, 1) := by decide +kernel
theorem dd_RuleBook_linkAll_29 : decode bb_RuleBook_linkAll 29 = .ok (.iload_n 2, 1) := by decide +kernel
theorem dd_RuleBook_linkAll_30 : decode bb_RuleBook_linkAll 30 = .ok (.iload 4, 2) := by decide +kernel
theorem dd_RuleBook_linkAll_32 : decode bb_RuleBook_linkAll 32 = .ok (.invokevirtual 128, 3) := by decide +kernel
theorem dd_RuleBook_linkAll_35 : decode bb_RuleBook_linkAll 35 = .ok (.iinc 4 1, 3) := by decide +kernel
theorem dd_RuleBook_linkAll_38 : decode bb_RuleBook_linkAll 38 = .ok (.goto (-35), 3) := by decide +kernel
theorem dd_RuleBook_linkAll_41 : decode bb_RuleBook_linkAll 41 = .ok (.return_, 1) := by decide +kernel
def f_RuleBook_linkAll_35 (nf : Nat) (x0 : Nat) (x1 : Int32) (x2 : Int32) (x3 : Int32) (x4 : Int32) (c : Zc) : Option ((Nat × Int32 × Int32 × Int32 × Int32 × Zc) ⊕ (Zc)) :=
  some (.inl (x0, x1, x2, x3, (x4 + 1), c))
def g_RuleBook_linkAll_3 (nf : Nat) (x0 : Nat) (x1 : Int32) (x2 : Int32) (x3 : Int32) (x4 : Int32) (c : Zc) : Option ((Nat × Int32 × Int32 × Int32 × Int32 × Zc) ⊕ (Zc)) :=
  (zgr c x0 8 1).bind fun v1 => (zgi c v1 0 7).bind fun v2 => if v2 ≤ x4 then (some (.inr c)) else (if ((x3 >>> (x4 &&& 31)) &&& 1) = 0 then (f_RuleBook_linkAll_35 nf x0 x1 x2 x3 x4 c) else ((zgr c x0 8 1).bind fun v5 => (zob c v5 0).bind fun w7 => (f_Graph_link nf v5 x1 x2 x4 c).bind fun q6 => f_RuleBook_linkAll_35 nf x0 x1 x2 x3 x4 q6))
def f_RuleBook_linkAll_3 (nf : Nat) (x0 : Nat) (x1 : Int32) (x2 : Int32) (x3 : Int32) (x4 : Int32) (c : Zc) : Option (Zc) :=
  (zlp (fun a => g_RuleBook_linkAll_3 nf a.1 a.2.1 a.2.2.1 a.2.2.2.1 a.2.2.2.2.1 a.2.2.2.2.2) nf (x0, x1, x2, x3, x4, c)).bind fun b => some b
def f_RuleBook_linkAll (nf : Nat) (a0 : Nat) (a1 : Int32) (a2 : Int32) (a3 : Int32) (c : Zc) : Option (Zc) :=
  f_RuleBook_linkAll_3 nf a0 a1 a2 a3 0 c
set_option maxRecDepth 100000 in
set_option maxHeartbeats 4000000 in
theorem t_RuleBook_linkAll_35  (X : zX p s m args cd D cid B bb_RuleBook_linkAll 5 rr_RuleBook zT) (H : zH s meth B n0 none "linkAll") {nf : Nat} {x0 : Nat} {x1 : Int32} {x2 : Int32} {x3 : Int32} {x4 : Int32} {c : Zc} {r : (Nat × Int32 × Int32 × Int32 × Int32 × Zc) ⊕ (Zc)} (h : f_RuleBook_linkAll_35 nf x0 x1 x2 x3 x4 c = some r) (k0 : ∀ a, r = .inl a → (fun a : Nat × Int32 × Int32 × Int32 × Int32 × Zc => Zz p l e (zRm 1 23 0 0) s m args below meth cd Q D cid B 5 0 0 a.2.2.2.2.2 3 [(0, .ref a.1), (1, .int a.2.1), (2, .int a.2.2.1), (3, .int a.2.2.2.1), (4, .int a.2.2.2.2.1)] []) a) (k1 : ∀ b, r = .inr b → (fun b : Zc => Zz p l e (zRm 1 23 0 0) s m args below meth cd Q D cid B 5 0 0 b 41 [] []) b) : Zz p l e (zRm 1 23 0 0) s m args below meth cd Q D cid B 5 0 0 c 35 [(0, .ref x0), (1, .int x1), (2, .int x2), (3, .int x3), (4, .int x4)] [] := by
  unfold f_RuleBook_linkAll_35 at h
  refine z_iinc (v := (x4 + 1)) (lv' := [(4, .int (x4 + 1)), (0, .ref x0), (1, .int x1), (2, .int x2), (3, .int x3)]) X dd_RuleBook_linkAll_35 4 rfl rfl (by decide) rfl ?_
  refine z_goto (tgt := 3) X dd_RuleBook_linkAll_38 (by decide) ?_
  refine z_sub [1, 2, 3, 4, 0] rfl ?_
  obtain rfl := Option.some.inj h
  exact k0 _ rfl
set_option maxRecDepth 100000 in
set_option maxHeartbeats 4000000 in
theorem u_RuleBook_linkAll_3  (X : zX p s m args cd D cid B bb_RuleBook_linkAll 5 rr_RuleBook zT) (H : zH s meth B n0 none "linkAll") {nf : Nat} {x0 : Nat} {x1 : Int32} {x2 : Int32} {x3 : Int32} {x4 : Int32} {c : Zc} {r : (Nat × Int32 × Int32 × Int32 × Int32 × Zc) ⊕ (Zc)} (h : g_RuleBook_linkAll_3 nf x0 x1 x2 x3 x4 c = some r) (k0 : ∀ a, r = .inl a → (fun a : Nat × Int32 × Int32 × Int32 × Int32 × Zc => Zz p l e (zRm 1 23 0 0) s m args below meth cd Q D cid B 5 0 0 a.2.2.2.2.2 3 [(0, .ref a.1), (1, .int a.2.1), (2, .int a.2.2.1), (3, .int a.2.2.2.1), (4, .int a.2.2.2.2.1)] []) a) (k1 : ∀ b, r = .inr b → (fun b : Zc => Zz p l e (zRm 1 23 0 0) s m args below meth cd Q D cid B 5 0 0 b 41 [] []) b) : Zz p l e (zRm 1 23 0 0) s m args below meth cd Q D cid B 5 0 0 c 3 [(0, .ref x0), (1, .int x1), (2, .int x2), (3, .int x3), (4, .int x4)] [] := by
  unfold g_RuleBook_linkAll_3 at h
  refine z_iload X dd_RuleBook_linkAll_3 4 rfl ?_
  refine z_aload_n X dd_RuleBook_linkAll_5 rfl 0 rfl ?_
  obtain ⟨v1, ev1, h⟩ := zb h
  refine z_get (j := 1) X dd_RuleBook_linkAll_6 kc_8 ki_8 (by decide) km_624 (zgr_v ev1) ?_
  obtain ⟨v2, ev2, h⟩ := zb h
  refine z_get (j := 7) X dd_RuleBook_linkAll_9 kc_0 ki_0 (by decide) km_175 (zgi_v ev2) ?_
  refine z_icmp_ge (tgt := 41) X dd_RuleBook_linkAll_12 (by decide) (fun q3 => ?_) (fun q3 => ?_)
  · rw [if_pos q3] at h
    refine z_sub [] rfl ?_
    obtain rfl := Option.some.inj h
    exact k1 _ rfl
  · rw [if_neg q3] at h
    refine z_iload_n X dd_RuleBook_linkAll_15 rfl 3 rfl ?_
    refine z_iload X dd_RuleBook_linkAll_16 4 rfl ?_
    refine z_ishr X dd_RuleBook_linkAll_18 ?_
    refine z_iconst (v := 1) X dd_RuleBook_linkAll_19 (by decide) ?_
    refine z_iand X dd_RuleBook_linkAll_20 ?_
    refine z_if_eq (tgt := 35) X dd_RuleBook_linkAll_21 (by decide) (fun q4 => ?_) (fun q4 => ?_)
    · rw [if_pos q4] at h
      exact t_RuleBook_linkAll_35 X H h k0 k1
    · rw [if_neg q4] at h
      refine z_aload_n X dd_RuleBook_linkAll_24 rfl 0 rfl ?_
      obtain ⟨v5, ev5, h⟩ := zb h
      refine z_get (j := 1) X dd_RuleBook_linkAll_25 kc_8 ki_8 (by decide) km_624 (zgr_v ev5) ?_
      refine z_iload_n X dd_RuleBook_linkAll_28 rfl 1 rfl ?_
      refine z_iload_n X dd_RuleBook_linkAll_29 rfl 2 rfl ?_
      refine z_iload X dd_RuleBook_linkAll_30 4 rfl ?_
      obtain ⟨w7, ew7, h⟩ := zb h
      obtain ⟨q6, eq6, h⟩ := zb h
      refine z_callVv X [.int x1, .int x2, .int x4] rfl dd_RuleBook_linkAll_32 (c_Graph_link l eq6) (cwV 3 X.1.2.2.2.2 (zg_V km_1391 km_1263 km_1264 km_126 km_1265) rfl rfl rfl (by decide +kernel) ⟨Nat.le_of_ble_eq_true rfl, Nat.le_of_ble_eq_true rfl⟩) (zob_s ew7) kc_0 rfl (Nat.le_of_ble_eq_true rfl) ⟨Nat.le_of_ble_eq_true rfl, Nat.le_of_ble_eq_true rfl⟩ ?_
      exact t_RuleBook_linkAll_35 X H h k0 k1
set_option maxRecDepth 100000 in
set_option maxHeartbeats 4000000 in
theorem t_RuleBook_linkAll_3  (X : zX p s m args cd D cid B bb_RuleBook_linkAll 5 rr_RuleBook zT) (H : zH s meth B n0 none "linkAll") {nf : Nat} {x0 : Nat} {x1 : Int32} {x2 : Int32} {x3 : Int32} {x4 : Int32} {c : Zc} {res : Zc} (h : f_RuleBook_linkAll_3 nf x0 x1 x2 x3 x4 c = some res) : Zz p l e (zRm 1 23 0 0) s m args below meth cd (MQ below (zQv D cid B res n0 0) args s 0 0 (fun q => B ≤ q)) D cid B 5 0 0 c 3 [(0, .ref x0), (1, .int x1), (2, .int x2), (3, .int x3), (4, .int x4)] [] := by
  unfold f_RuleBook_linkAll_3 at h
  obtain ⟨b, eb, h⟩ := zb h
  refine zlp_ok (P := fun a : Nat × Int32 × Int32 × Int32 × Int32 × Zc => Zz p l e (zRm 1 23 0 0) s m args below meth cd _ D cid B 5 0 0 a.2.2.2.2.2 3 [(0, .ref a.1), (1, .int a.2.1), (2, .int a.2.2.1), (3, .int a.2.2.2.1), (4, .int a.2.2.2.2.1)] []) (G := fun b : Zc => Zz p l e (zRm 1 23 0 0) s m args below meth cd _ D cid B 5 0 0 b 41 [] []) (fun a r ha k0 k1 => u_RuleBook_linkAll_3 X H ha k0 k1) nf _ b eb ?_
  obtain rfl := Option.some.inj h
  exact z_vret X H.1 H.2.1 H.2.2.1 dd_RuleBook_linkAll_41
set_option maxRecDepth 100000 in
set_option maxHeartbeats 4000000 in
theorem c_RuleBook_linkAll (l : Launch) {nf : Nat} {a0 : Nat} {a1 : Int32} {a2 : Int32} {a3 : Int32} {c : Zc} {res : Zc} (h : f_RuleBook_linkAll nf a0 a1 a2 a3 c = some res) : zM l yy_RuleBook_linkAll ww_RuleBook_linkAll 1 23 0 0 [.ref a0, .int a1, .int a2, .int a3] c (fun D cid B => zQv D cid B res c.length 0) := by
  refine z_met (cc := bb_RuleBook_linkAll) (maxL := 5) (ret := none) (by decide +kernel) rfl (Nat.le_of_ble_eq_true rfl) ?_
  intro p e s m args below meth cd D cid B X h1 h2 h3 h4
  have X : zX p s m args cd D cid B bb_RuleBook_linkAll 5 rr_RuleBook zT := X
  have H : zH s meth B c.length none "linkAll" := ⟨h1, h2, h4, h3⟩
  unfold f_RuleBook_linkAll at h
  show Zz p l e (zRm 1 23 0 0) s m args below meth cd _ D cid B 5 0 0 c 0 [(0, .ref a0), (1, .int a1), (2, .int a2), (3, .int a3)] []
  refine z_iconst (v := 0) X dd_RuleBook_linkAll_0 (by decide) ?_
  refine z_istore (lv' := [(4, .int 0), (0, .ref a0), (1, .int a1), (2, .int a2), (3, .int a3)]) X dd_RuleBook_linkAll_1 (by decide) rfl ?_
  refine z_sub [1, 2, 3, 4, 0] rfl ?_
  exact t_RuleBook_linkAll_3 X H h
theorem dd_RuleBook_goRound_0 : decode bb_RuleBook_goRound 0 = .ok (.aload_n 0, 1) := by decide +kernel
theorem dd_RuleBook_goRound_1 : decode bb_RuleBook_goRound 1 = .ok (.getfield 17, 3) := by decide +kernel
theorem dd_RuleBook_goRound_4 : decode bb_RuleBook_goRound 4 = .ok (.iconst 0, 1) := by decide +kernel
theorem dd_RuleBook_goRound_5 : decode bb_RuleBook_goRound 5 = .ok (.invokestatic 78, 3) := by decide +kernel
theorem dd_RuleBook_goRound_8 : decode bb_RuleBook_goRound 8 = .ok (.iconst 0, 1) := by decide +kernel
theorem dd_RuleBook_goRound_9 : decode bb_RuleBook_goRound 9 = .ok (.istore_n 1, 1) := by decide +kernel
theorem dd_RuleBook_goRound_10 : decode bb_RuleBook_goRound 10 = .ok (.iload_n 1, 1) := by decide +kernel
theorem dd_RuleBook_goRound_11 : decode bb_RuleBook_goRound 11 = .ok (.iconst 4, 1) := by decide +kernel
theorem dd_RuleBook_goRound_12 : decode bb_RuleBook_goRound 12 = .ok (.if_icmp .ge 103, 3) := by decide +kernel
theorem dd_RuleBook_goRound_15 : decode bb_RuleBook_goRound 15 = .ok (.aload_n 0, 1) := by decide +kernel
theorem dd_RuleBook_goRound_16 : decode bb_RuleBook_goRound 16 = .ok (.getfield 11, 3) := by decide +kernel
theorem dd_RuleBook_goRound_19 : decode bb_RuleBook_goRound 19 = .ok (.iload_n 1, 1) := by decide +kernel
theorem dd_RuleBook_goRound_20 : decode bb_RuleBook_goRound 20 = .ok (.aaload, 1) := by decide +kernel
theorem dd_RuleBook_goRound_21 : decode bb_RuleBook_goRound 21 = .ok (.astore_n 2, 1) := by decide +kernel
theorem dd_RuleBook_goRound_22 : decode bb_RuleBook_goRound 22 = .ok (.aload_n 2, 1) := by decide +kernel
theorem dd_RuleBook_goRound_23 : decode bb_RuleBook_goRound 23 = .ok (.getfield 38, 3) := by decide +kernel
theorem dd_RuleBook_goRound_26 : decode bb_RuleBook_goRound 26 = .ok (.ifCond .eq 83, 3) := by decide +kernel
theorem dd_RuleBook_goRound_29 : decode bb_RuleBook_goRound 29 = .ok (.aload_n 2, 1) := by decide +kernel
theorem dd_RuleBook_goRound_30 : decode bb_RuleBook_goRound 30 = .ok (.invokestatic 84, 3) := by decide +kernel
theorem dd_RuleBook_goRound_33 : decode bb_RuleBook_goRound 33 = .ok (.aload_n 0, 1) := by decide +kernel
theorem dd_RuleBook_goRound_34 : decode bb_RuleBook_goRound 34 = .ok (.getfield 33, 3) := by decide +kernel
theorem dd_RuleBook_goRound_37 : decode bb_RuleBook_goRound 37 = .ok (.aload_n 2, 1) := by decide +kernel
theorem dd_RuleBook_goRound_38 : decode bb_RuleBook_goRound 38 = .ok (.invokevirtual 88, 3) := by decide +kernel
theorem dd_RuleBook_goRound_41 : decode bb_RuleBook_goRound 41 = .ok (.iconst 0, 1) := by decide +kernel
theorem dd_RuleBook_goRound_42 : decode bb_RuleBook_goRound 42 = .ok (.istore_n 3, 1) := by decide +kernel
theorem dd_RuleBook_goRound_43 : decode bb_RuleBook_goRound 43 = .ok (.iload_n 3, 1) := by decide +kernel
theorem dd_RuleBook_goRound_44 : decode bb_RuleBook_goRound 44 = .ok (.sipush 20000, 3) := by decide +kernel
theorem dd_RuleBook_goRound_47 : decode bb_RuleBook_goRound 47 = .ok (.if_icmp .ge 62, 3) := by decide +kernel
theorem dd_RuleBook_goRound_50 : decode bb_RuleBook_goRound 50 = .ok (.aload_n 0, 1) := by decide +kernel
theorem dd_RuleBook_goRound_51 : decode bb_RuleBook_goRound 51 = .ok (.getfield 33, 3) := by decide +kernel
theorem dd_RuleBook_goRound_54 : decode bb_RuleBook_goRound 54 = .ok (.invokevirtual 93, 3) := by decide +kernel
theorem dd_RuleBook_goRound_57 : decode bb_RuleBook_goRound 57 = .ok (.ifCond .eq 52, 3) := by decide +kernel
theorem dd_RuleBook_goRound_60 : decode bb_RuleBook_goRound 60 = .ok (.aload_n 0, 1) := by decide +kernel
theorem dd_RuleBook_goRound_61 : decode bb_RuleBook_goRound 61 = .ok (.getfield 33, 3) := by decide +kernel
theorem dd_RuleBook_goRound_64 : decode bb_RuleBook_goRound 64 = .ok (.getfield 96, 3) := by decide +kernel
theorem dd_RuleBook_goRound_67 : decode bb_RuleBook_goRound 67 = .ok (.aload_n 2, 1) := by decide +kernel
theorem dd_RuleBook_goRound_68 : decode bb_RuleBook_goRound 68 = .ok (.getfield 99, 3) := by decide +kernel
theorem dd_RuleBook_goRound_71 : decode bb_RuleBook_goRound 71 = .ok (.iaload, 1) := by decide +kernel
theorem dd_RuleBook_goRound_72 : decode bb_RuleBook_goRound 72 = .ok (.istore 4, 2) := by decide +kernel
theorem dd_RuleBook_goRound_74 : decode bb_RuleBook_goRound 74 = .ok (.aload_n 0, 1) := by decide +kernel
theorem dd_RuleBook_goRound_75 : decode bb_RuleBook_goRound 75 = .ok (.getfield 17, 3) := by decide +kernel
theorem dd_RuleBook_goRound_78 : decode bb_RuleBook_goRound 78 = .ok (.iload_n 1, 1) := by decide +kernel
theorem dd_RuleBook_goRound_79 : decode bb_RuleBook_goRound 79 = .ok (.bipush 16, 2) := by decide +kernel
theorem dd_RuleBook_goRound_81 : decode bb_RuleBook_goRound 81 = .ok (.imul, 1) := by decide +kernel
theorem dd_RuleBook_goRound_82 : decode bb_RuleBook_goRound 82 = .ok (.iload 4, 2) := by decide +kernel
theorem dd_RuleBook_goRound_84 : decode bb_RuleBook_goRound 84 = .ok (.iadd, 1) := by decide +kernel
theorem dd_RuleBook_goRound_85 : decode bb_RuleBook_goRound 85 = .ok (.dup2, 1) := by decide +kernel
theorem dd_RuleBook_goRound_86 : decode bb_RuleBook_goRound 86 = .ok (.iaload, 1) := by decide +kernel
theorem dd_RuleBook_goRound_87 : decode bb_RuleBook_goRound 87 = .ok (.iconst 1, 1) := by decide +kernel
theorem dd_RuleBook_goRound_88 : decode bb_RuleBook_goRound 88 = .ok (.aload_n 0, 1) := by decide +kernel
theorem dd_RuleBook_goRound_89 : decode bb_RuleBook_goRound 89 = .ok (.getfield 33, 3) := by decide +kernel
theorem dd_RuleBook_goRound_92 : decode bb_RuleBook_goRound 92 = .ok (.getfield 96, 3) := by decide +kernel
theorem dd_RuleBook_goRound_95 : decode bb_RuleBook_goRound 95 = .ok (.aload_n 2, 1) := by decide +kernel
theorem dd_RuleBook_goRound_96 : decode bb_RuleBook_goRound 96 = .ok (.getfield 102, 3) := by decide +kernel
theorem dd_RuleBook_goRound_99 : decode bb_RuleBook_goRound 99 = .ok (.iaload, 1) := by decide +kernel
theorem dd_RuleBook_goRound_100 : decode bb_RuleBook_goRound 100 = .ok (.ishl, 1) := by decide +kernel
theorem dd_RuleBook_goRound_101 : decode bb_RuleBook_goRound 101 = .ok (.ior, 1) := by decide +kernel
theorem dd_RuleBook_goRound_102 : decode bb_RuleBook_goRound 102 = .ok (.iastore, 1) := by decide +kernel
theorem dd_RuleBook_goRound_103 : decode bb_RuleBook_goRound 103 = .ok (.iinc 3 1, 3) := by decide +kernel
theorem dd_RuleBook_goRound_106 : decode bb_RuleBook_goRound 106 = .ok (.goto (-63), 3) := by decide +kernel
theorem dd_RuleBook_goRound_109 : decode bb_RuleBook_goRound 109 = .ok (.iinc 1 1, 3) := by decide +kernel
theorem dd_RuleBook_goRound_112 : decode bb_RuleBook_goRound 112 = .ok (.goto (-102), 3) := by decide +kernel
theorem dd_RuleBook_goRound_115 : decode bb_RuleBook_goRound 115 = .ok (.iconst 0, 1) := by decide +kernel
theorem dd_RuleBook_goRound_116 : decode bb_RuleBook_goRound 116 = .ok (.istore_n 1, 1) := by decide +kernel
theorem dd_RuleBook_goRound_117 : decode bb_RuleBook_goRound 117 = .ok (.iconst 0, 1) := by decide +kernel
theorem dd_RuleBook_goRound_118 : decode bb_RuleBook_goRound 118 = .ok (.istore_n 2, 1) := by decide +kernel
theorem dd_RuleBook_goRound_119 : decode bb_RuleBook_goRound 119 = .ok (.iload_n 2, 1) := by decide +kernel
theorem dd_RuleBook_goRound_120 : decode bb_RuleBook_goRound 120 = .ok (.iconst 4, 1) := by decide +kernel
theorem dd_RuleBook_goRound_121 : decode bb_RuleBook_goRound 121 = .ok (.if_icmp .ge 80, 3) := by decide +kernel
theorem dd_RuleBook_goRound_124 : decode bb_RuleBook_goRound 124 = .ok (.iconst 0, 1) := by decide +kernel
theorem dd_RuleBook_goRound_125 : decode bb_RuleBook_goRound 125 = .ok (.istore_n 3, 1) := by decide +kernel
theorem dd_RuleBook_goRound_126 : decode bb_RuleBook_goRound 126 = .ok (.iload_n 3, 1) := by decide +kernel
theorem dd_RuleBook_goRound_127 : decode bb_RuleBook_goRound 127 = .ok (.aload_n 0, 1) := by decide +kernel
theorem dd_RuleBook_goRound_128 : decode bb_RuleBook_goRound 128 = .ok (.getfield 29, 3) := by decide +kernel
theorem dd_RuleBook_goRound_131 : decode bb_RuleBook_goRound 131 = .ok (.getfield 69, 3) := by decide +kernel
theorem dd_RuleBook_goRound_134 : decode bb_RuleBook_goRound 134 = .ok (.if_icmp .ge 61, 3) := by decide +kernel
theorem dd_RuleBook_goRound_137 : decode bb_RuleBook_goRound 137 = .ok (.aload_n 0, 1) := by decide +kernel
theorem dd_RuleBook_goRound_138 : decode bb_RuleBook_goRound 138 = .ok (.getfield 17, 3) := by decide +kernel
theorem dd_RuleBook_goRound_141 : decode bb_RuleBook_goRound 141 = .ok (.iload_n 2, 1) := by decide +kernel
theorem dd_RuleBook_goRound_142 : decode bb_RuleBook_goRound 142 = .ok (.bipush 16, 2) := by decide +kernel
theorem dd_RuleBook_goRound_144 : decode bb_RuleBook_goRound 144 = .ok (.imul, 1) := by decide +kernel
theorem dd_RuleBook_goRound_145 : decode bb_RuleBook_goRound 145 = .ok (.iload_n 3, 1) := by decide +kernel
theorem dd_RuleBook_goRound_146 : decode bb_RuleBook_goRound 146 = .ok (.iadd, 1) := by decide +kernel
theorem dd_RuleBook_goRound_147 : decode bb_RuleBook_goRound 147 = .ok (.iaload, 1) := by decide +kernel
theorem dd_RuleBook_goRound_148 : decode bb_RuleBook_goRound 148 = .ok (.aload_n 0, 1) := by decide +kernel
theorem dd_RuleBook_goRound_149 : decode bb_RuleBook_goRound 149 = .ok (.getfield 29, 3) := by decide +kernel
theorem dd_RuleBook_goRound_152 : decode bb_RuleBook_goRound 152 = .ok (.bipush 8, 2) := by decide +kernel
theorem dd_RuleBook_goRound_154 : decode bb_RuleBook_goRound 154 = .ok (.iload_n 2, 1) := by decide +kernel
theorem dd_RuleBook_goRound_155 : decode bb_RuleBook_goRound 155 = .ok (.iadd, 1) := by decide +kernel
theorem dd_RuleBook_goRound_156 : decode bb_RuleBook_goRound 156 = .ok (.iload_n 3, 1) := by decide +kernel
theorem dd_RuleBook_goRound_157 : decode bb_RuleBook_goRound 157 = .ok (.invokevirtual 105, 3) := by decide +kernel
theorem dd_RuleBook_goRound_160 : decode bb_RuleBook_goRound 160 = .ok (.iconst (-1), 1) := by decide +kernel
theorem dd_RuleBook_goRound_161 : decode bb_RuleBook_goRound 161 = .ok (.ixor, 1) := by decide +kernel
theorem dd_RuleBook_goRound_162 : decode bb_RuleBook_goRound 162 = .ok (.iand, 1) := by decide +kernel
theorem dd_RuleBook_goRound_163 : decode bb_RuleBook_goRound 163 = .ok (.istore 4, 2) := by decide +kernel
theorem dd_RuleBook_goRound_165 : decode bb_RuleBook_goRound 165 = .ok (.iload_n 1, 1) := by decide +kernel
theorem dd_RuleBook_goRound_166 : decode bb_RuleBook_goRound 166 = .ok (.iload 4, 2) := by decide +kernel
theorem dd_RuleBook_goRound_168 : decode bb_RuleBook_goRound 168 = .ok (.ifCond .eq 7, 3) := by decide +kernel
theorem dd_RuleBook_goRound_171 : decode bb_RuleBook_goRound 171 = .ok (.iconst 1, 1) := by decide +kernel
theorem dd_RuleBook_goRound_172 : decode bb_RuleBook_goRound 172 = .ok (.goto 4, 3) := by decide +kernel
theorem dd_RuleBook_goRound_175 : decode bb_RuleBook_goRound 175 = .ok (.iconst 0, 1) := by decide +kernel
theorem dd_RuleBook_goRound_176 : decode bb_RuleBook_goRound 176 = .ok (.ior, 1) := by decide +kernel
theorem dd_RuleBook_goRound_177 : decode bb_RuleBook_goRound 177 = .ok (.istore_n 1, 1) := by decide +kernel
theorem dd_RuleBook_goRound_178 : decode bb_RuleBook_goRound 178 = .ok (.aload_n 0, 1) := by decide +kernel
theorem dd_RuleBook_goRound_179 : decode bb_RuleBook_goRound 179 = .ok (.bipush 8, 2) := by decide +kernel
theorem dd_RuleBook_goRound_181 : decode bb_RuleBook_goRound 181 = .ok (.iload_n 2, 1) := by decide +kernel
theorem dd_RuleBook_goRound_182 : decode bb_RuleBook_goRound 182 = .ok (.iadd, 1) := by decide +kernel
theorem dd_RuleBook_goRound_183 : decode bb_RuleBook_goRound 183 = .ok (.iload_n 3, 1) := by decide +kernel
theorem dd_RuleBook_goRound_184 : decode bb_RuleBook_goRound 184 = .ok (.iload 4, 2) := by decide +kernel
theorem dd_RuleBook_goRound_186 : decode bb_RuleBook_goRound 186 = .ok (.invokevirtual 109, 3) := by decide +kernel
theorem dd_RuleBook_goRound_189 : decode bb_RuleBook_goRound 189 = .ok (.iinc 3 1, 3) := by decide +kernel
theorem dd_RuleBook_goRound_192 : decode bb_RuleBook_goRound 192 = .ok (.goto (-66), 3) := by decide +kernel
theorem dd_RuleBook_goRound_195 : decode bb_RuleBook_goRound 195 = .ok (.iinc 2 1, 3) := by decide +kernel
theorem dd_RuleBook_goRound_198 : decode bb_RuleBook_goRound 198 = .ok (.goto (-79), 3) := by decide +kernel
theorem dd_RuleBook_goRound_201 : decode bb_RuleBook_goRound 201 = .ok (.iload_n 1, 1) := by decide +kernel
theorem dd_RuleBook_goRound_202 : decode bb_RuleBook_goRound 202 = .ok (.ireturn, 1) := by decide +kernel
def f_RuleBook_goRound_109 (nf : Nat) (x0 : Nat) (x1 : Int32) (c : Zc) : Option ((Nat × Int32 × Zc) ⊕ (Nat × Zc)) :=
  some (.inl (x0, (x1 + 1), c))
def g_RuleBook_goRound_43 (nf : Nat) (x0 : Nat) (x1 : Int32) (x2 : Nat) (x3 : Int32) (c : Zc) : Option ((Nat × Int32 × Nat × Int32 × Zc) ⊕ (Nat × Int32 × Zc)) :=
  if 20000 ≤ x3 then (some (.inr (x0, x1, c))) else ((zgr c x0 8 2).bind fun v13 => (zob c v13 7).bind fun w15 => (f_Finder_nextRow nf v13 c).bind fun q14 => if q14.1 = 0 then (some (.inr (x0, x1, q14.2))) else ((zgr q14.2 x0 8 2).bind fun v17 => (zgr q14.2 v17 7 0).bind fun v18 => (zgi q14.2 x2 2 19).bind fun v19 => (zai q14.2 v18 0 v19).bind fun v20 => (zgr q14.2 x0 8 3).bind fun v21 => (zai q14.2 v21 0 ((x1 * 16) + v20)).bind fun v22 => (zgr q14.2 x0 8 2).bind fun v23 => (zgr q14.2 v23 7 0).bind fun v24 => (zgi q14.2 x2 2 20).bind fun v25 => (zai q14.2 v24 0 v25).bind fun v26 => (zsi q14.2 v21 0 ((x1 * 16) + v20) (v22 ||| (1 <<< (v26 &&& 31)))).bind fun c27 => some (.inl (x0, x1, x2, (x3 + 1), c27))))
def f_RuleBook_goRound_43 (nf : Nat) (x0 : Nat) (x1 : Int32) (x2 : Nat) (x3 : Int32) (c : Zc) : Option ((Nat × Int32 × Zc) ⊕ (Nat × Zc)) :=
  (zlp (fun a => g_RuleBook_goRound_43 nf a.1 a.2.1 a.2.2.1 a.2.2.2.1 a.2.2.2.2) nf (x0, x1, x2, x3, c)).bind fun b => f_RuleBook_goRound_109 nf b.1 b.2.1 b.2.2
def g_RuleBook_goRound_10 (nf : Nat) (x0 : Nat) (x1 : Int32) (c : Zc) : Option ((Nat × Int32 × Zc) ⊕ (Nat × Zc)) :=
  if 4 ≤ x1 then (some (.inr (x0, c))) else ((zgr c x0 8 0).bind fun v4 => (zar c v4 4 x1).bind fun v5 => (zgi c v5 2 0).bind fun v6 => if v6 = 0 then (f_RuleBook_goRound_109 nf x0 x1 c) else ((f_RuleBook_forgetRuled nf v5 c).bind fun q8 => (zgr q8 x0 8 2).bind fun v9 => (zob q8 v9 7).bind fun w11 => (f_Finder_start nf v9 v5 q8).bind fun q10 => f_RuleBook_goRound_43 nf x0 x1 v5 0 q10))
def f_RuleBook_goRound_176 (nf : Nat) (x0 : Nat) (x2 : Int32) (x3 : Int32) (x4 : Int32) (s0 : Int32) (s1 : Int32) (c : Zc) : Option ((Nat × Int32 × Int32 × Int32 × Zc) ⊕ (Nat × Int32 × Int32 × Zc)) :=
  (zob c x0 8).bind fun w39 => (f_RuleBook_linkAll nf x0 (8 + x2) x3 x4 c).bind fun q38 => some (.inl (x0, (s0 ||| s1), x2, (x3 + 1), q38))
def g_RuleBook_goRound_126 (nf : Nat) (x0 : Nat) (x1 : Int32) (x2 : Int32) (x3 : Int32) (c : Zc) : Option ((Nat × Int32 × Int32 × Int32 × Zc) ⊕ (Nat × Int32 × Int32 × Zc)) :=
  (zgr c x0 8 1).bind fun v29 => (zgi c v29 0 7).bind fun v30 => if v30 ≤ x3 then (some (.inr (x0, x1, x2, c))) else ((zgr c x0 8 3).bind fun v32 => (zai c v32 0 ((x2 * 16) + x3)).bind fun v33 => (zgr c x0 8 1).bind fun v34 => (zob c v34 0).bind fun w36 => (f_Graph_reached nf v34 (8 + x2) x3 c).bind fun q35 => if (v33 &&& (q35.1 ^^^ (-1))) = 0 then (f_RuleBook_goRound_176 nf x0 x2 x3 (v33 &&& (q35.1 ^^^ (-1))) x1 0 q35.2) else (f_RuleBook_goRound_176 nf x0 x2 x3 (v33 &&& (q35.1 ^^^ (-1))) x1 1 q35.2))
def f_RuleBook_goRound_126 (nf : Nat) (x0 : Nat) (x1 : Int32) (x2 : Int32) (x3 : Int32) (c : Zc) : Option ((Nat × Int32 × Int32 × Zc) ⊕ (Int32 × Zc)) :=
  (zlp (fun a => g_RuleBook_goRound_126 nf a.1 a.2.1 a.2.2.1 a.2.2.2.1 a.2.2.2.2) nf (x0, x1, x2, x3, c)).bind fun b => some (.inl (b.1, b.2.1, (b.2.2.1 + 1), b.2.2.2))
def g_RuleBook_goRound_119 (nf : Nat) (x0 : Nat) (x1 : Int32) (x2 : Int32) (c : Zc) : Option ((Nat × Int32 × Int32 × Zc) ⊕ (Int32 × Zc)) :=
  if 4 ≤ x2 then (some (.inr (x1, c))) else (f_RuleBook_goRound_126 nf x0 x1 x2 0 c)
def f_RuleBook_goRound_119 (nf : Nat) (x0 : Nat) (x1 : Int32) (x2 : Int32) (c : Zc) : Option (Int32 × Zc) :=
  (zlp (fun a => g_RuleBook_goRound_119 nf a.1 a.2.1 a.2.2.1 a.2.2.2) nf (x0, x1, x2, c)).bind fun b => zrz b.1 b.2
def f_RuleBook_goRound_10 (nf : Nat) (x0 : Nat) (x1 : Int32) (c : Zc) : Option (Int32 × Zc) :=
  (zlp (fun a => g_RuleBook_goRound_10 nf a.1 a.2.1 a.2.2) nf (x0, x1, c)).bind fun b => f_RuleBook_goRound_119 nf b.1 0 0 b.2
def f_RuleBook_goRound (nf : Nat) (a0 : Nat) (c : Zc) : Option (Int32 × Zc) :=
  (zgr c a0 8 3).bind fun v1 => (f_Arrays_fill nf v1 0 c).bind fun q2 => f_RuleBook_goRound_10 nf a0 0 q2
set_option maxRecDepth 100000 in
set_option maxHeartbeats 4000000 in
theorem t_RuleBook_goRound_109  (X : zX p s m args cd D cid B bb_RuleBook_goRound 5 rr_RuleBook zT) (H : zH s meth B n0 (some (.boolean)) "goRound") {nf : Nat} {x0 : Nat} {x1 : Int32} {c : Zc} {r : (Nat × Int32 × Zc) ⊕ (Nat × Zc)} (h : f_RuleBook_goRound_109 nf x0 x1 c = some r) (k0 : ∀ a, r = .inl a → (fun a : Nat × Int32 × Zc => Zz p l e (zRm 5 121 0 0) s m args below meth cd Q D cid B 5 0 0 a.2.2 10 [(0, .ref a.1), (1, .int a.2.1)] []) a) (k1 : ∀ b, r = .inr b → (fun b : Nat × Zc => Zz p l e (zRm 5 121 0 0) s m args below meth cd Q D cid B 5 0 0 b.2 115 [(0, .ref b.1)] []) b) : Zz p l e (zRm 5 121 0 0) s m args below meth cd Q D cid B 5 0 0 c 109 [(0, .ref x0), (1, .int x1)] [] := by
  unfold f_RuleBook_goRound_109 at h
  refine z_iinc (v := (x1 + 1)) (lv' := [(1, .int (x1 + 1)), (0, .ref x0)]) X dd_RuleBook_goRound_109 1 rfl rfl (by decide) rfl ?_
  refine z_goto (tgt := 10) X dd_RuleBook_goRound_112 (by decide) ?_
  refine z_sub [1, 0] rfl ?_
  obtain rfl := Option.some.inj h
  exact k0 _ rfl
set_option maxRecDepth 100000 in
set_option maxHeartbeats 4000000 in
theorem u_RuleBook_goRound_43  (X : zX p s m args cd D cid B bb_RuleBook_goRound 5 rr_RuleBook zT) (H : zH s meth B n0 (some (.boolean)) "goRound") {nf : Nat} {x0 : Nat} {x1 : Int32} {x2 : Nat} {x3 : Int32} {c : Zc} {r : (Nat × Int32 × Nat × Int32 × Zc) ⊕ (Nat × Int32 × Zc)} (h : g_RuleBook_goRound_43 nf x0 x1 x2 x3 c = some r) (k0 : ∀ a, r = .inl a → (fun a : Nat × Int32 × Nat × Int32 × Zc => Zz p l e (zRm 5 121 0 0) s m args below meth cd Q D cid B 5 0 0 a.2.2.2.2 43 [(0, .ref a.1), (1, .int a.2.1), (2, .ref a.2.2.1), (3, .int a.2.2.2.1)] []) a) (k1 : ∀ b, r = .inr b → (fun b : Nat × Int32 × Zc => Zz p l e (zRm 5 121 0 0) s m args below meth cd Q D cid B 5 0 0 b.2.2 109 [(0, .ref b.1), (1, .int b.2.1)] []) b) : Zz p l e (zRm 5 121 0 0) s m args below meth cd Q D cid B 5 0 0 c 43 [(0, .ref x0), (1, .int x1), (2, .ref x2), (3, .int x3)] [] := by
  unfold g_RuleBook_goRound_43 at h
  refine z_iload_n X dd_RuleBook_goRound_43 rfl 3 rfl ?_
  refine z_sipush (v := 20000) X dd_RuleBook_goRound_44 (by decide) ?_
  refine z_icmp_ge (tgt := 109) X dd_RuleBook_goRound_47 (by decide) (fun q12 => ?_) (fun q12 => ?_)
  · rw [if_pos q12] at h
    refine z_sub [0, 1] rfl ?_
    obtain rfl := Option.some.inj h
    exact k1 _ rfl
  · rw [if_neg q12] at h
    refine z_aload_n X dd_RuleBook_goRound_50 rfl 0 rfl ?_
    obtain ⟨v13, ev13, h⟩ := zb h
    refine z_get (j := 2) X dd_RuleBook_goRound_51 kc_8 ki_8 (by decide) km_625 (zgr_v ev13) ?_
    obtain ⟨w15, ew15, h⟩ := zb h
    obtain ⟨q14, eq14, h⟩ := zb h
    refine z_callVi X [] rfl dd_RuleBook_goRound_54 (c_Finder_nextRow l eq14) (cwV 0 X.1.2.2.2.2 (zg_V km_1336 km_1337 km_1338 km_133 km_1339) rfl rfl rfl (by decide +kernel) ⟨Nat.le_of_ble_eq_true rfl, Nat.le_of_ble_eq_true rfl⟩) (zob_s ew15) kc_7 rfl (Nat.le_of_ble_eq_true rfl) ⟨Nat.le_of_ble_eq_true rfl, Nat.le_of_ble_eq_true rfl⟩ ?_
    refine z_if_eq (tgt := 109) X dd_RuleBook_goRound_57 (by decide) (fun q16 => ?_) (fun q16 => ?_)
    · rw [if_pos q16] at h
      refine z_sub [0, 1] rfl ?_
      obtain rfl := Option.some.inj h
      exact k1 _ rfl
    · rw [if_neg q16] at h
      refine z_aload_n X dd_RuleBook_goRound_60 rfl 0 rfl ?_
      obtain ⟨v17, ev17, h⟩ := zb h
      refine z_get (j := 2) X dd_RuleBook_goRound_61 kc_8 ki_8 (by decide) km_625 (zgr_v ev17) ?_
      obtain ⟨v18, ev18, h⟩ := zb h
      refine z_get (j := 0) X dd_RuleBook_goRound_64 kc_7 ki_7 (by decide) km_585 (zgr_v ev18) ?_
      refine z_aload_n X dd_RuleBook_goRound_67 rfl 2 rfl ?_
      obtain ⟨v19, ev19, h⟩ := zb h
      refine z_get (j := 19) X dd_RuleBook_goRound_68 kc_2 ki_2 (by decide) km_356 (zgi_v ev19) ?_
      obtain ⟨v20, ev20, h⟩ := zb h
      refine z_iaload X dd_RuleBook_goRound_71 rfl ev20 ?_
      refine z_istore (lv' := [(4, .int v20), (0, .ref x0), (1, .int x1), (2, .ref x2), (3, .int x3)]) X dd_RuleBook_goRound_72 (by decide) rfl ?_
      refine z_aload_n X dd_RuleBook_goRound_74 rfl 1 rfl ?_
      obtain ⟨v21, ev21, h⟩ := zb h
      refine z_get (j := 3) X dd_RuleBook_goRound_75 kc_8 ki_8 (by decide) km_626 (zgr_v ev21) ?_
      refine z_iload_n X dd_RuleBook_goRound_78 rfl 2 rfl ?_
      refine z_bipush (v := 16) X dd_RuleBook_goRound_79 (by decide) ?_
      refine z_imul X dd_RuleBook_goRound_81 ?_
      refine z_iload X dd_RuleBook_goRound_82 0 rfl ?_
      refine z_iadd X dd_RuleBook_goRound_84 ?_
      refine z_dup2_11 X dd_RuleBook_goRound_85 rfl rfl ?_
      obtain ⟨v22, ev22, h⟩ := zb h
      refine z_iaload X dd_RuleBook_goRound_86 rfl ev22 ?_
      refine z_iconst (v := 1) X dd_RuleBook_goRound_87 (by decide) ?_
      refine z_aload_n X dd_RuleBook_goRound_88 rfl 1 rfl ?_
      obtain ⟨v23, ev23, h⟩ := zb h
      refine z_get (j := 2) X dd_RuleBook_goRound_89 kc_8 ki_8 (by decide) km_625 (zgr_v ev23) ?_
      obtain ⟨v24, ev24, h⟩ := zb h
      refine z_get (j := 0) X dd_RuleBook_goRound_92 kc_7 ki_7 (by decide) km_585 (zgr_v ev24) ?_
      refine z_aload_n X dd_RuleBook_goRound_95 rfl 3 rfl ?_
      obtain ⟨v25, ev25, h⟩ := zb h
      refine z_get (j := 20) X dd_RuleBook_goRound_96 kc_2 ki_2 (by decide) km_359 (zgi_v ev25) ?_
      obtain ⟨v26, ev26, h⟩ := zb h
      refine z_iaload X dd_RuleBook_goRound_99 rfl ev26 ?_
      refine z_ishl X dd_RuleBook_goRound_100 ?_
      refine z_ior X dd_RuleBook_goRound_101 ?_
      obtain ⟨c27, ec27, h⟩ := zb h
      refine z_iastore X dd_RuleBook_goRound_102 rfl ec27 ?_
      refine z_iinc (v := (x3 + 1)) (lv' := [(3, .int (x3 + 1)), (4, .int v20), (0, .ref x0), (1, .int x1), (2, .ref x2)]) X dd_RuleBook_goRound_103 4 rfl rfl (by decide) rfl ?_
      refine z_goto (tgt := 43) X dd_RuleBook_goRound_106 (by decide) ?_
      refine z_sub [2, 3, 4, 0] rfl ?_
      obtain rfl := Option.some.inj h
      exact k0 _ rfl
set_option maxRecDepth 100000 in
set_option maxHeartbeats 4000000 in
theorem t_RuleBook_goRound_43  (X : zX p s m args cd D cid B bb_RuleBook_goRound 5 rr_RuleBook zT) (H : zH s meth B n0 (some (.boolean)) "goRound") {nf : Nat} {x0 : Nat} {x1 : Int32} {x2 : Nat} {x3 : Int32} {c : Zc} {r : (Nat × Int32 × Zc) ⊕ (Nat × Zc)} (h : f_RuleBook_goRound_43 nf x0 x1 x2 x3 c = some r) (k0 : ∀ a, r = .inl a → (fun a : Nat × Int32 × Zc => Zz p l e (zRm 5 121 0 0) s m args below meth cd Q D cid B 5 0 0 a.2.2 10 [(0, .ref a.1), (1, .int a.2.1)] []) a) (k1 : ∀ b, r = .inr b → (fun b : Nat × Zc => Zz p l e (zRm 5 121 0 0) s m args below meth cd Q D cid B 5 0 0 b.2 115 [(0, .ref b.1)] []) b) : Zz p l e (zRm 5 121 0 0) s m args below meth cd Q D cid B 5 0 0 c 43 [(0, .ref x0), (1, .int x1), (2, .ref x2), (3, .int x3)] [] := by
  unfold f_RuleBook_goRound_43 at h
  obtain ⟨b, eb, h⟩ := zb h
  refine zlp_ok (P := fun a : Nat × Int32 × Nat × Int32 × Zc => Zz p l e (zRm 5 121 0 0) s m args below meth cd _ D cid B 5 0 0 a.2.2.2.2 43 [(0, .ref a.1), (1, .int a.2.1), (2, .ref a.2.2.1), (3, .int a.2.2.2.1)] []) (G := fun b : Nat × Int32 × Zc => Zz p l e (zRm 5 121 0 0) s m args below meth cd _ D cid B 5 0 0 b.2.2 109 [(0, .ref b.1), (1, .int b.2.1)] []) (fun a r ha k0 k1 => u_RuleBook_goRound_43 X H ha k0 k1) nf _ b eb ?_
  exact t_RuleBook_goRound_109 X H h k0 k1
set_option maxRecDepth 100000 in
set_option maxHeartbeats 4000000 in
theorem u_RuleBook_goRound_10  (X : zX p s m args cd D cid B bb_RuleBook_goRound 5 rr_RuleBook zT) (H : zH s meth B n0 (some (.boolean)) "goRound") {nf : Nat} {x0 : Nat} {x1 : Int32} {c : Zc} {r : (Nat × Int32 × Zc) ⊕ (Nat × Zc)} (h : g_RuleBook_goRound_10 nf x0 x1 c = some r) (k0 : ∀ a, r = .inl a → (fun a : Nat × Int32 × Zc => Zz p l e (zRm 5 121 0 0) s m args below meth cd Q D cid B 5 0 0 a.2.2 10 [(0, .ref a.1), (1, .int a.2.1)] []) a) (k1 : ∀ b, r = .inr b → (fun b : Nat × Zc => Zz p l e (zRm 5 121 0 0) s m args below meth cd Q D cid B 5 0 0 b.2 115 [(0, .ref b.1)] []) b) : Zz p l e (zRm 5 121 0 0) s m args below meth cd Q D cid B 5 0 0 c 10 [(0, .ref x0), (1, .int x1)] [] := by
  unfold g_RuleBook_goRound_10 at h
  refine z_iload_n X dd_RuleBook_goRound_10 rfl 1 rfl ?_
  refine z_iconst (v := 4) X dd_RuleBook_goRound_11 (by decide) ?_
  refine z_icmp_ge (tgt := 115) X dd_RuleBook_goRound_12 (by decide) (fun q3 => ?_) (fun q3 => ?_)
  · rw [if_pos q3] at h
    refine z_sub [0] rfl ?_
    obtain rfl := Option.some.inj h
    exact k1 _ rfl
  · rw [if_neg q3] at h
    refine z_aload_n X dd_RuleBook_goRound_15 rfl 0 rfl ?_
    obtain ⟨v4, ev4, h⟩ := zb h
    refine z_get (j := 0) X dd_RuleBook_goRound_16 kc_8 ki_8 (by decide) km_622 (zgr_v ev4) ?_
    refine z_iload_n X dd_RuleBook_goRound_19 rfl 1 rfl ?_
    obtain ⟨v5, ev5, h⟩ := zb h
    refine z_aaload X dd_RuleBook_goRound_20 rfl ev5 ?_
    refine z_astore_n (lv' := [(2, .ref v5), (0, .ref x0), (1, .int x1)]) X dd_RuleBook_goRound_21 rfl (by decide) rfl ?_
    refine z_aload_n X dd_RuleBook_goRound_22 rfl 0 rfl ?_
    obtain ⟨v6, ev6, h⟩ := zb h
    refine z_get (j := 0) X dd_RuleBook_goRound_23 kc_2 ki_2 (by decide) km_299 (zgi_v ev6) ?_
    refine z_if_eq (tgt := 109) X dd_RuleBook_goRound_26 (by decide) (fun q7 => ?_) (fun q7 => ?_)
    · rw [if_pos q7] at h
      refine z_sub [1, 2] rfl ?_
      exact t_RuleBook_goRound_109 X H h k0 k1
    · rw [if_neg q7] at h
      refine z_aload_n X dd_RuleBook_goRound_29 rfl 0 rfl ?_
      obtain ⟨q8, eq8, h⟩ := zb h
      refine z_callSv X [.ref v5] rfl dd_RuleBook_goRound_30 (c_RuleBook_forgetRuled l eq8) (va_cwS 1 X.1.2.2.2.2 (zg_S km_1286 km_1287 km_135 km_1288) rfl rfl rfl (by decide +kernel) ⟨Nat.le_of_ble_eq_true rfl, Nat.le_of_ble_eq_true rfl⟩) rfl (Nat.le_of_ble_eq_true rfl) ⟨Nat.le_of_ble_eq_true rfl, Nat.le_of_ble_eq_true rfl⟩ ?_
      refine z_aload_n X dd_RuleBook_goRound_33 rfl 1 rfl ?_
      obtain ⟨v9, ev9, h⟩ := zb h
      refine z_get (j := 2) X dd_RuleBook_goRound_34 kc_8 ki_8 (by decide) km_625 (zgr_v ev9) ?_
      refine z_aload_n X dd_RuleBook_goRound_37 rfl 0 rfl ?_
      obtain ⟨w11, ew11, h⟩ := zb h
      obtain ⟨q10, eq10, h⟩ := zb h
      refine z_callVv X [.ref v5] rfl dd_RuleBook_goRound_38 (c_Finder_start l eq10) (cwV 1 X.1.2.2.2.2 (zg_V km_1289 km_1290 km_1291 km_133 km_1292) rfl rfl rfl (by decide +kernel) ⟨Nat.le_of_ble_eq_true rfl, Nat.le_of_ble_eq_true rfl⟩) (zob_s ew11) kc_7 rfl (Nat.le_of_ble_eq_true rfl) ⟨Nat.le_of_ble_eq_true rfl, Nat.le_of_ble_eq_true rfl⟩ ?_
      refine z_iconst (v := 0) X dd_RuleBook_goRound_41 (by decide) ?_
      refine z_istore_n (lv' := [(3, .int 0), (2, .ref v5), (0, .ref x0), (1, .int x1)]) X dd_RuleBook_goRound_42 rfl (by decide) rfl ?_
      refine z_sub [2, 3, 1, 0] rfl ?_
      exact t_RuleBook_goRound_43 X H h k0 k1
set_option maxRecDepth 100000 in
set_option maxHeartbeats 4000000 in
theorem t_RuleBook_goRound_176  (X : zX p s m args cd D cid B bb_RuleBook_goRound 5 rr_RuleBook zT) (H : zH s meth B n0 (some (.boolean)) "goRound") {nf : Nat} {x0 : Nat} {x2 : Int32} {x3 : Int32} {x4 : Int32} {s0 : Int32} {s1 : Int32} {c : Zc} {r : (Nat × Int32 × Int32 × Int32 × Zc) ⊕ (Nat × Int32 × Int32 × Zc)} (h : f_RuleBook_goRound_176 nf x0 x2 x3 x4 s0 s1 c = some r) (k0 : ∀ a, r = .inl a → (fun a : Nat × Int32 × Int32 × Int32 × Zc => Zz p l e (zRm 5 121 0 0) s m args below meth cd Q D cid B 5 0 0 a.2.2.2.2 126 [(0, .ref a.1), (1, .int a.2.1), (2, .int a.2.2.1), (3, .int a.2.2.2.1)] []) a) (k1 : ∀ b, r = .inr b → (fun b : Nat × Int32 × Int32 × Zc => Zz p l e (zRm 5 121 0 0) s m args below meth cd Q D cid B 5 0 0 b.2.2.2 195 [(0, .ref b.1), (1, .int b.2.1), (2, .int b.2.2.1)] []) b) : Zz p l e (zRm 5 121 0 0) s m args below meth cd Q D cid B 5 0 0 c 176 [(0, .ref x0), (2, .int x2), (3, .int x3), (4, .int x4)] [.int s1, .int s0] := by
  unfold f_RuleBook_goRound_176 at h
  refine z_ior X dd_RuleBook_goRound_176 ?_
  refine z_istore_n (lv' := [(1, .int (s0 ||| s1)), (0, .ref x0), (2, .int x2), (3, .int x3), (4, .int x4)]) X dd_RuleBook_goRound_177 rfl (by decide) rfl ?_
  refine z_aload_n X dd_RuleBook_goRound_178 rfl 1 rfl ?_
  refine z_bipush (v := 8) X dd_RuleBook_goRound_179 (by decide) ?_
  refine z_iload_n X dd_RuleBook_goRound_181 rfl 2 rfl ?_
  refine z_iadd X dd_RuleBook_goRound_182 ?_
  refine z_iload_n X dd_RuleBook_goRound_183 rfl 3 rfl ?_
  refine z_iload X dd_RuleBook_goRound_184 4 rfl ?_
  obtain ⟨w39, ew39, h⟩ := zb h
  obtain ⟨q38, eq38, h⟩ := zb h
  refine z_callVv X [.int (8 + x2), .int x3, .int x4] rfl dd_RuleBook_goRound_186 (c_RuleBook_linkAll l eq38) (cwV 3 X.1.2.2.2.2 (zg_V km_1387 km_1389 km_54 km_135 km_1390) rfl rfl rfl (by decide +kernel) ⟨Nat.le_of_ble_eq_true rfl, Nat.le_of_ble_eq_true rfl⟩) (zob_s ew39) kc_8 rfl (Nat.le_of_ble_eq_true rfl) ⟨Nat.le_of_ble_eq_true rfl, Nat.le_of_ble_eq_true rfl⟩ ?_
  refine z_iinc (v := (x3 + 1)) (lv' := [(3, .int (x3 + 1)), (1, .int (s0 ||| s1)), (0, .ref x0), (2, .int x2), (4, .int x4)]) X dd_RuleBook_goRound_189 3 rfl rfl (by decide) rfl ?_
  refine z_goto (tgt := 126) X dd_RuleBook_goRound_192 (by decide) ?_
  refine z_sub [2, 1, 3, 0] rfl ?_
  obtain rfl := Option.some.inj h
  exact k0 _ rfl
set_option maxRecDepth 100000 in
set_option maxHeartbeats 4000000 in
theorem u_RuleBook_goRound_126  (X : zX p s m args cd D cid B bb_RuleBook_goRound 5 rr_RuleBook zT) (H : zH s meth B n0 (some (.boolean)) "goRound") {nf : Nat} {x0 : Nat} {x1 : Int32} {x2 : Int32} {x3 : Int32} {c : Zc} {r : (Nat × Int32 × Int32 × Int32 × Zc) ⊕ (Nat × Int32 × Int32 × Zc)} (h : g_RuleBook_goRound_126 nf x0 x1 x2 x3 c = some r) (k0 : ∀ a, r = .inl a → (fun a : Nat × Int32 × Int32 × Int32 × Zc => Zz p l e (zRm 5 121 0 0) s m args below meth cd Q D cid B 5 0 0 a.2.2.2.2 126 [(0, .ref a.1), (1, .int a.2.1), (2, .int a.2.2.1), (3, .int a.2.2.2.1)] []) a) (k1 : ∀ b, r = .inr b → (fun b : Nat × Int32 × Int32 × Zc => Zz p l e (zRm 5 121 0 0) s m args below meth cd Q D cid B 5 0 0 b.2.2.2 195 [(0, .ref b.1), (1, .int b.2.1), (2, .int b.2.2.1)] []) b) : Zz p l e (zRm 5 121 0 0) s m args below meth cd Q D cid B 5 0 0 c 126 [(0, .ref x0), (1, .int x1), (2, .int x2), (3, .int x3)] [] := by
  unfold g_RuleBook_goRound_126 at h
  refine z_iload_n X dd_RuleBook_goRound_126 rfl 3 rfl ?_
  refine z_aload_n X dd_RuleBook_goRound_127 rfl 0 rfl ?_
  obtain ⟨v29, ev29, h⟩ := zb h
  refine z_get (j := 1) X dd_RuleBook_goRound_128 kc_8 ki_8 (by decide) km_624 (zgr_v ev29) ?_
  obtain ⟨v30, ev30, h⟩ := zb h
  refine z_get (j := 7) X dd_RuleBook_goRound_131 kc_0 ki_0 (by decide) km_175 (zgi_v ev30) ?_
  refine z_icmp_ge (tgt := 195) X dd_RuleBook_goRound_134 (by decide) (fun q31 => ?_) (fun q31 => ?_)
  · rw [if_pos q31] at h
    refine z_sub [0, 1, 2] rfl ?_
    obtain rfl := Option.some.inj h
    exact k1 _ rfl
  · rw [if_neg q31] at h
    refine z_aload_n X dd_RuleBook_goRound_137 rfl 0 rfl ?_
    obtain ⟨v32, ev32, h⟩ := zb h
    refine z_get (j := 3) X dd_RuleBook_goRound_138 kc_8 ki_8 (by decide) km_626 (zgr_v ev32) ?_
    refine z_iload_n X dd_RuleBook_goRound_141 rfl 2 rfl ?_
    refine z_bipush (v := 16) X dd_RuleBook_goRound_142 (by decide) ?_
    refine z_imul X dd_RuleBook_goRound_144 ?_
    refine z_iload_n X dd_RuleBook_goRound_145 rfl 3 rfl ?_
    refine z_iadd X dd_RuleBook_goRound_146 ?_
    obtain ⟨v33, ev33, h⟩ := zb h
    refine z_iaload X dd_RuleBook_goRound_147 rfl ev33 ?_
    refine z_aload_n X dd_RuleBook_goRound_148 rfl 0 rfl ?_
    obtain ⟨v34, ev34, h⟩ := zb h
    refine z_get (j := 1) X dd_RuleBook_goRound_149 kc_8 ki_8 (by decide) km_624 (zgr_v ev34) ?_
    refine z_bipush (v := 8) X dd_RuleBook_goRound_152 (by decide) ?_
    refine z_iload_n X dd_RuleBook_goRound_154 rfl 2 rfl ?_
    refine z_iadd X dd_RuleBook_goRound_155 ?_
    refine z_iload_n X dd_RuleBook_goRound_156 rfl 3 rfl ?_
    obtain ⟨w36, ew36, h⟩ := zb h
    obtain ⟨q35, eq35, h⟩ := zb h
    refine z_callVi X [.int (8 + x2), .int x3] rfl dd_RuleBook_goRound_157 (c_Graph_reached l eq35) (cwV 2 X.1.2.2.2.2 (zg_V km_1383 km_1384 km_1385 km_126 km_1386) rfl rfl rfl (by decide +kernel) ⟨Nat.le_of_ble_eq_true rfl, Nat.le_of_ble_eq_true rfl⟩) (zob_s ew36) kc_0 rfl (Nat.le_of_ble_eq_true rfl) ⟨Nat.le_of_ble_eq_true rfl, Nat.le_of_ble_eq_true rfl⟩ ?_
    refine z_iconst (v := (-1)) X dd_RuleBook_goRound_160 (by decide) ?_
    refine z_ixor X dd_RuleBook_goRound_161 ?_
    refine z_iand X dd_RuleBook_goRound_162 ?_
    refine z_istore (lv' := [(4, .int (v33 &&& (q35.1 ^^^ (-1)))), (0, .ref x0), (1, .int x1), (2, .int x2), (3, .int x3)]) X dd_RuleBook_goRound_163 (by decide) rfl ?_
    refine z_iload_n X dd_RuleBook_goRound_165 rfl 2 rfl ?_
    refine z_iload X dd_RuleBook_goRound_166 0 rfl ?_
    refine z_if_eq (tgt := 175) X dd_RuleBook_goRound_168 (by decide) (fun q37 => ?_) (fun q37 => ?_)
    · rw [if_pos q37] at h
      refine z_iconst (v := 0) X dd_RuleBook_goRound_175 (by decide) ?_
      refine z_sub [1, 3, 4, 0] rfl ?_
      exact t_RuleBook_goRound_176 X H h k0 k1
    · rw [if_neg q37] at h
      refine z_iconst (v := 1) X dd_RuleBook_goRound_171 (by decide) ?_
      refine z_goto (tgt := 176) X dd_RuleBook_goRound_172 (by decide) ?_
      refine z_sub [1, 3, 4, 0] rfl ?_
      exact t_RuleBook_goRound_176 X H h k0 k1
set_option maxRecDepth 100000 in
set_option maxHeartbeats 4000000 in
theorem t_RuleBook_goRound_126  (X : zX p s m args cd D cid B bb_RuleBook_goRound 5 rr_RuleBook zT) (H : zH s meth B n0 (some (.boolean)) "goRound") {nf : Nat} {x0 : Nat} {x1 : Int32} {x2 : Int32} {x3 : Int32} {c : Zc} {r : (Nat × Int32 × Int32 × Zc) ⊕ (Int32 × Zc)} (h : f_RuleBook_goRound_126 nf x0 x1 x2 x3 c = some r) (k0 : ∀ a, r = .inl a → (fun a : Nat × Int32 × Int32 × Zc => Zz p l e (zRm 5 121 0 0) s m args below meth cd Q D cid B 5 0 0 a.2.2.2 119 [(0, .ref a.1), (1, .int a.2.1), (2, .int a.2.2.1)] []) a) (k1 : ∀ b, r = .inr b → (fun b : Int32 × Zc => Zz p l e (zRm 5 121 0 0) s m args below meth cd Q D cid B 5 0 0 b.2 201 [(1, .int b.1)] []) b) : Zz p l e (zRm 5 121 0 0) s m args below meth cd Q D cid B 5 0 0 c 126 [(0, .ref x0), (1, .int x1), (2, .int x2), (3, .int x3)] [] := by
  unfold f_RuleBook_goRound_126 at h
  obtain ⟨b, eb, h⟩ := zb h
  refine zlp_ok (P := fun a : Nat × Int32 × Int32 × Int32 × Zc => Zz p l e (zRm 5 121 0 0) s m args below meth cd _ D cid B 5 0 0 a.2.2.2.2 126 [(0, .ref a.1), (1, .int a.2.1), (2, .int a.2.2.1), (3, .int a.2.2.2.1)] []) (G := fun b : Nat × Int32 × Int32 × Zc => Zz p l e (zRm 5 121 0 0) s m args below meth cd _ D cid B 5 0 0 b.2.2.2 195 [(0, .ref b.1), (1, .int b.2.1), (2, .int b.2.2.1)] []) (fun a r ha k0 k1 => u_RuleBook_goRound_126 X H ha k0 k1) nf _ b eb ?_
  refine z_iinc (v := (b.2.2.1 + 1)) (lv' := [(2, .int (b.2.2.1 + 1)), (0, .ref b.1), (1, .int b.2.1)]) X dd_RuleBook_goRound_195 2 rfl rfl (by decide) rfl ?_
  refine z_goto (tgt := 119) X dd_RuleBook_goRound_198 (by decide) ?_
  refine z_sub [1, 2, 0] rfl ?_
  obtain rfl := Option.some.inj h
  exact k0 _ rfl
set_option maxRecDepth 100000 in
set_option maxHeartbeats 4000000 in
theorem u_RuleBook_goRound_119  (X : zX p s m args cd D cid B bb_RuleBook_goRound 5 rr_RuleBook zT) (H : zH s meth B n0 (some (.boolean)) "goRound") {nf : Nat} {x0 : Nat} {x1 : Int32} {x2 : Int32} {c : Zc} {r : (Nat × Int32 × Int32 × Zc) ⊕ (Int32 × Zc)} (h : g_RuleBook_goRound_119 nf x0 x1 x2 c = some r) (k0 : ∀ a, r = .inl a → (fun a : Nat × Int32 × Int32 × Zc => Zz p l e (zRm 5 121 0 0) s m args below meth cd Q D cid B 5 0 0 a.2.2.2 119 [(0, .ref a.1), (1, .int a.2.1), (2, .int a.2.2.1)] []) a) (k1 : ∀ b, r = .inr b → (fun b : Int32 × Zc => Zz p l e (zRm 5 121 0 0) s m args below meth cd Q D cid B 5 0 0 b.2 201 [(1, .int b.1)] []) b) : Zz p l e (zRm 5 121 0 0) s m args below meth cd Q D cid B 5 0 0 c 119 [(0, .ref x0), (1, .int x1), (2, .int x2)] [] := by
  unfold g_RuleBook_goRound_119 at h
  refine z_iload_n X dd_RuleBook_goRound_119 rfl 2 rfl ?_
  refine z_iconst (v := 4) X dd_RuleBook_goRound_120 (by decide) ?_
  refine z_icmp_ge (tgt := 201) X dd_RuleBook_goRound_121 (by decide) (fun q28 => ?_) (fun q28 => ?_)
  · rw [if_pos q28] at h
    refine z_sub [1] rfl ?_
    obtain rfl := Option.some.inj h
    exact k1 _ rfl
  · rw [if_neg q28] at h
    refine z_iconst (v := 0) X dd_RuleBook_goRound_124 (by decide) ?_
    refine z_istore_n (lv' := [(3, .int 0), (0, .ref x0), (1, .int x1), (2, .int x2)]) X dd_RuleBook_goRound_125 rfl (by decide) rfl ?_
    refine z_sub [1, 2, 3, 0] rfl ?_
    exact t_RuleBook_goRound_126 X H h k0 k1
set_option maxRecDepth 100000 in
set_option maxHeartbeats 4000000 in
theorem t_RuleBook_goRound_119  (X : zX p s m args cd D cid B bb_RuleBook_goRound 5 rr_RuleBook zT) (H : zH s meth B n0 (some (.boolean)) "goRound") {nf : Nat} {x0 : Nat} {x1 : Int32} {x2 : Int32} {c : Zc} {res : Int32 × Zc} (h : f_RuleBook_goRound_119 nf x0 x1 x2 c = some res) : Zz p l e (zRm 5 121 0 0) s m args below meth cd (MQ below (zQi D cid B res.1 res.2 n0 0) args s 0 0 (fun q => B ≤ q)) D cid B 5 0 0 c 119 [(0, .ref x0), (1, .int x1), (2, .int x2)] [] := by
  unfold f_RuleBook_goRound_119 at h
  obtain ⟨b, eb, h⟩ := zb h
  refine zlp_ok (P := fun a : Nat × Int32 × Int32 × Zc => Zz p l e (zRm 5 121 0 0) s m args below meth cd _ D cid B 5 0 0 a.2.2.2 119 [(0, .ref a.1), (1, .int a.2.1), (2, .int a.2.2.1)] []) (G := fun b : Int32 × Zc => Zz p l e (zRm 5 121 0 0) s m args below meth cd _ D cid B 5 0 0 b.2 201 [(1, .int b.1)] []) (fun a r ha k0 k1 => u_RuleBook_goRound_119 X H ha k0 k1) nf _ b eb ?_
  refine z_iload_n X dd_RuleBook_goRound_201 rfl 0 rfl ?_
  obtain ⟨hz, h⟩ := zrz_s h
  obtain rfl := h
  exact z_zret X H.1 (zn_z hz) H.2.1 H.2.2.1 dd_RuleBook_goRound_202
set_option maxRecDepth 100000 in
set_option maxHeartbeats 4000000 in
theorem t_RuleBook_goRound_10  (X : zX p s m args cd D cid B bb_RuleBook_goRound 5 rr_RuleBook zT) (H : zH s meth B n0 (some (.boolean)) "goRound") {nf : Nat} {x0 : Nat} {x1 : Int32} {c : Zc} {res : Int32 × Zc} (h : f_RuleBook_goRound_10 nf x0 x1 c = some res) : Zz p l e (zRm 5 121 0 0) s m args below meth cd (MQ below (zQi D cid B res.1 res.2 n0 0) args s 0 0 (fun q => B ≤ q)) D cid B 5 0 0 c 10 [(0, .ref x0), (1, .int x1)] [] := by
  unfold f_RuleBook_goRound_10 at h
  obtain ⟨b, eb, h⟩ := zb h
  refine zlp_ok (P := fun a : Nat × Int32 × Zc => Zz p l e (zRm 5 121 0 0) s m args below meth cd _ D cid B 5 0 0 a.2.2 10 [(0, .ref a.1), (1, .int a.2.1)] []) (G := fun b : Nat × Zc => Zz p l e (zRm 5 121 0 0) s m args below meth cd _ D cid B 5 0 0 b.2 115 [(0, .ref b.1)] []) (fun a r ha k0 k1 => u_RuleBook_goRound_10 X H ha k0 k1) nf _ b eb ?_
  refine z_iconst (v := 0) X dd_RuleBook_goRound_115 (by decide) ?_
  refine z_istore_n (lv' := [(1, .int 0), (0, .ref b.1)]) X dd_RuleBook_goRound_116 rfl (by decide) rfl ?_
  refine z_iconst (v := 0) X dd_RuleBook_goRound_117 (by decide) ?_
  refine z_istore_n (lv' := [(2, .int 0), (1, .int 0), (0, .ref b.1)]) X dd_RuleBook_goRound_118 rfl (by decide) rfl ?_
  refine z_sub [2, 1, 0] rfl ?_
  exact t_RuleBook_goRound_119 X H h
set_option maxRecDepth 100000 in
set_option maxHeartbeats 4000000 in
theorem c_RuleBook_goRound (l : Launch) {nf : Nat} {a0 : Nat} {c : Zc} {res : Int32 × Zc} (h : f_RuleBook_goRound nf a0 c = some res) : zM l yy_RuleBook_goRound ww_RuleBook_goRound 5 121 0 0 [.ref a0] c (fun D cid B => zQi D cid B res.1 res.2 c.length 0) := by
  refine z_met (cc := bb_RuleBook_goRound) (maxL := 5) (ret := (some (.boolean))) (by decide +kernel) rfl (Nat.le_of_ble_eq_true rfl) ?_
  intro p e s m args below meth cd D cid B X h1 h2 h3 h4
  have X : zX p s m args cd D cid B bb_RuleBook_goRound 5 rr_RuleBook zT := X
  have H : zH s meth B c.length (some (.boolean)) "goRound" := ⟨h1, h2, h4, h3⟩
  unfold f_RuleBook_goRound at h
  show Zz p l e (zRm 5 121 0 0) s m args below meth cd _ D cid B 5 0 0 c 0 [(0, .ref a0)] []
  refine z_aload_n X dd_RuleBook_goRound_0 rfl 0 rfl ?_
  obtain ⟨v1, ev1, h⟩ := zb h
  refine z_get (j := 3) X dd_RuleBook_goRound_1 kc_8 ki_8 (by decide) km_626 (zgr_v ev1) ?_
  refine z_iconst (v := 0) X dd_RuleBook_goRound_4 (by decide) ?_
  obtain ⟨q2, eq2, h⟩ := zb h
  refine z_callSv X [.ref v1, .int 0] rfl dd_RuleBook_goRound_5 (c_Arrays_fill l eq2) (va_cwS 2 X.1.2.2.2.2 (zg_S km_1285 km_162 km_127 km_163) rfl rfl rfl (by decide +kernel) ⟨Nat.le_of_ble_eq_true rfl, Nat.le_of_ble_eq_true rfl⟩) rfl (Nat.le_of_ble_eq_true rfl) ⟨Nat.le_of_ble_eq_true rfl, Nat.le_of_ble_eq_true rfl⟩ ?_
  refine z_iconst (v := 0) X dd_RuleBook_goRound_8 (by decide) ?_
  refine z_istore_n (lv' := [(1, .int 0), (0, .ref a0)]) X dd_RuleBook_goRound_9 rfl (by decide) rfl ?_
  refine z_sub [1, 0] rfl ?_
  exact t_RuleBook_goRound_10 X H h
theorem dd_RuleBook_settle_0 : decode bb_RuleBook_settle 0 = .ok (.aload_n 0, 1) := by decide +kernel
theorem dd_RuleBook_settle_1 : decode bb_RuleBook_settle 1 = .ok (.getfield 21, 3) := by decide +kernel
theorem dd_RuleBook_settle_4 : decode bb_RuleBook_settle 4 = .ok (.aload_n 0, 1) := by decide +kernel
theorem dd_RuleBook_settle_5 : decode bb_RuleBook_settle 5 = .ok (.getfield 29, 3) := by decide +kernel
theorem dd_RuleBook_settle_8 : decode bb_RuleBook_settle 8 = .ok (.getfield 44, 3) := by decide +kernel
theorem dd_RuleBook_settle_11 : decode bb_RuleBook_settle 11 = .ok (.if_icmp .ne 8, 3) := by decide +kernel
theorem dd_RuleBook_settle_14 : decode bb_RuleBook_settle 14 = .ok (.aload_n 0, 1) := by decide +kernel
theorem dd_RuleBook_settle_15 : decode bb_RuleBook_settle 15 = .ok (.getfield 25, 3) := by decide +kernel
theorem dd_RuleBook_settle_18 : decode bb_RuleBook_settle 18 = .ok (.ireturn, 1) := by decide +kernel
theorem dd_RuleBook_settle_19 : decode bb_RuleBook_settle 19 = .ok (.aload_n 0, 1) := by decide +kernel
theorem dd_RuleBook_settle_20 : decode bb_RuleBook_settle 20 = .ok (.aload_n 0, 1) := by decide +kernel
theorem dd_RuleBook_settle_21 : decode bb_RuleBook_settle 21 = .ok (.getfield 29, 3) := by decide +kernel
theorem dd_RuleBook_settle_24 : decode bb_RuleBook_settle 24 = .ok (.getfield 44, 3) := by decide +kernel
theorem dd_RuleBook_settle_27 : decode bb_RuleBook_settle 27 = .ok (.putfield 21, 3) := by decide +kernel
theorem dd_RuleBook_settle_30 : decode bb_RuleBook_settle 30 = .ok (.aload_n 0, 1) := by decide +kernel
theorem dd_RuleBook_settle_31 : decode bb_RuleBook_settle 31 = .ok (.getfield 29, 3) := by decide +kernel
theorem dd_RuleBook_settle_34 : decode bb_RuleBook_settle 34 = .ok (.invokevirtual 49, 3) := by decide +kernel
theorem dd_RuleBook_settle_37 : decode bb_RuleBook_settle 37 = .ok (.aload_n 0, 1) := by decide +kernel
theorem dd_RuleBook_settle_38 : decode bb_RuleBook_settle 38 = .ok (.invokevirtual 52, 3) := by decide +kernel
theorem dd_RuleBook_settle_41 : decode bb_RuleBook_settle 41 = .ok (.lstore_n 1, 1) := by decide +kernel
theorem dd_RuleBook_settle_42 : decode bb_RuleBook_settle 42 = .ok (.sipush 1025, 3) := by decide +kernel
theorem dd_RuleBook_settle_45 : decode bb_RuleBook_settle 45 = .ok (.istore_n 3, 1) := by decide +kernel
theorem dd_RuleBook_settle_46 : decode bb_RuleBook_settle 46 = .ok (.aload_n 0, 1) := by decide +kernel
theorem dd_RuleBook_settle_47 : decode bb_RuleBook_settle 47 = .ok (.invokevirtual 56, 3) := by decide +kernel
theorem dd_RuleBook_settle_50 : decode bb_RuleBook_settle 50 = .ok (.ifCond .le 7, 3) := by decide +kernel
theorem dd_RuleBook_settle_53 : decode bb_RuleBook_settle 53 = .ok (.iconst 1, 1) := by decide +kernel
theorem dd_RuleBook_settle_54 : decode bb_RuleBook_settle 54 = .ok (.goto 4, 3) := by decide +kernel
theorem dd_RuleBook_settle_57 : decode bb_RuleBook_settle 57 = .ok (.iconst 0, 1) := by decide +kernel
theorem dd_RuleBook_settle_58 : decode bb_RuleBook_settle 58 = .ok (.istore 4, 2) := by decide +kernel
theorem dd_RuleBook_settle_60 : decode bb_RuleBook_settle 60 = .ok (.aload_n 0, 1) := by decide +kernel
theorem dd_RuleBook_settle_61 : decode bb_RuleBook_settle 61 = .ok (.aload_n 0, 1) := by decide +kernel
theorem dd_RuleBook_settle_62 : decode bb_RuleBook_settle 62 = .ok (.invokevirtual 60, 3) := by decide +kernel
theorem dd_RuleBook_settle_65 : decode bb_RuleBook_settle 65 = .ok (.putfield 25, 3) := by decide +kernel
theorem dd_RuleBook_settle_68 : decode bb_RuleBook_settle 68 = .ok (.iconst 1, 1) := by decide +kernel
theorem dd_RuleBook_settle_69 : decode bb_RuleBook_settle 69 = .ok (.istore 5, 2) := by decide +kernel
theorem dd_RuleBook_settle_71 : decode bb_RuleBook_settle 71 = .ok (.iload 5, 2) := by decide +kernel
theorem dd_RuleBook_settle_73 : decode bb_RuleBook_settle 73 = .ok (.iload_n 3, 1) := by decide +kernel
theorem dd_RuleBook_settle_74 : decode bb_RuleBook_settle 74 = .ok (.if_icmp .gt 55, 3) := by decide +kernel
theorem dd_RuleBook_settle_77 : decode bb_RuleBook_settle 77 = .ok (.iload 4, 2) := by decide +kernel
theorem dd_RuleBook_settle_79 : decode bb_RuleBook_settle 79 = .ok (.ifCond .eq 50, 3) := by decide +kernel
theorem dd_RuleBook_settle_82 : decode bb_RuleBook_settle 82 = .ok (.aload_n 0, 1) := by decide +kernel
theorem dd_RuleBook_settle_83 : decode bb_RuleBook_settle 83 = .ok (.getfield 25, 3) := by decide +kernel
theorem dd_RuleBook_settle_86 : decode bb_RuleBook_settle 86 = .ok (.ifCond .ne 43, 3) := by decide +kernel
theorem dd_RuleBook_settle_89 : decode bb_RuleBook_settle 89 = .ok (.aload_n 0, 1) := by decide +kernel
theorem dd_RuleBook_settle_90 : decode bb_RuleBook_settle 90 = .ok (.lload_n 1, 1) := by decide +kernel
theorem dd_RuleBook_settle_91 : decode bb_RuleBook_settle 91 = .ok (.iload 5, 2) := by decide +kernel
theorem dd_RuleBook_settle_93 : decode bb_RuleBook_settle 93 = .ok (.i2l, 1) := by decide +kernel
theorem dd_RuleBook_settle_94 : decode bb_RuleBook_settle 94 = .ok (.lmul, 1) := by decide +kernel
theorem dd_RuleBook_settle_95 : decode bb_RuleBook_settle 95 = .ok (.ldc2_w 64, 3) := by decide +kernel
theorem dd_RuleBook_settle_98 : decode bb_RuleBook_settle 98 = .ok (.lcmp, 1) := by decide +kernel
theorem dd_RuleBook_settle_99 : decode bb_RuleBook_settle 99 = .ok (.ifCond .le 7, 3) := by decide +kernel
theorem dd_RuleBook_settle_102 : decode bb_RuleBook_settle 102 = .ok (.iconst 1, 1) := by decide +kernel
theorem dd_RuleBook_settle_103 : decode bb_RuleBook_settle 103 = .ok (.goto 4, 3) := by decide +kernel
theorem dd_RuleBook_settle_106 : decode bb_RuleBook_settle 106 = .ok (.iconst 0, 1) := by decide +kernel
theorem dd_RuleBook_settle_107 : decode bb_RuleBook_settle 107 = .ok (.putfield 25, 3) := by decide +kernel
theorem dd_RuleBook_settle_110 : decode bb_RuleBook_settle 110 = .ok (.aload_n 0, 1) := by decide +kernel
theorem dd_RuleBook_settle_111 : decode bb_RuleBook_settle 111 = .ok (.getfield 25, 3) := by decide +kernel
theorem dd_RuleBook_settle_114 : decode bb_RuleBook_settle 114 = .ok (.ifCond .ne 9, 3) := by decide +kernel
theorem dd_RuleBook_settle_117 : decode bb_RuleBook_settle 117 = .ok (.aload_n 0, 1) := by decide +kernel
theorem dd_RuleBook_settle_118 : decode bb_RuleBook_settle 118 = .ok (.invokevirtual 66, 3) := by decide +kernel
theorem dd_RuleBook_settle_121 : decode bb_RuleBook_settle 121 = .ok (.istore 4, 2) := by decide +kernel
theorem dd_RuleBook_settle_123 : decode bb_RuleBook_settle 123 = .ok (.iinc 5 1, 3) := by decide +kernel
theorem dd_RuleBook_settle_126 : decode bb_RuleBook_settle 126 = .ok (.goto (-55), 3) := by decide +kernel
theorem dd_RuleBook_settle_129 : decode bb_RuleBook_settle 129 = .ok (.aload_n 0, 1) := by decide +kernel
theorem dd_RuleBook_settle_130 : decode bb_RuleBook_settle 130 = .ok (.getfield 25, 3) := by decide +kernel
theorem dd_RuleBook_settle_133 : decode bb_RuleBook_settle 133 = .ok (.ireturn, 1) := by decide +kernel
def f_RuleBook_settle_123 (nf : Nat) (x0 : Nat) (x1 : Int64) (x3 : Int32) (x4 : Int32) (x5 : Int32) (c : Zc) : Option ((Nat × Int64 × Int32 × Int32 × Int32 × Zc) ⊕ (Nat × Zc)) :=
  some (.inl (x0, x1, x3, x4, (x5 + 1), c))
def f_RuleBook_settle_107 (nf : Nat) (x0 : Nat) (x1 : Int64) (x3 : Int32) (x4 : Int32) (x5 : Int32) (s0 : Nat) (s1 : Int32) (c : Zc) : Option ((Nat × Int64 × Int32 × Int32 × Int32 × Zc) ⊕ (Nat × Zc)) :=
  (zpz c s0 8 5 s1).bind fun c24 => (zgi c24 x0 8 5).bind fun v25 => if v25 = 0 then ((zob c24 x0 8).bind fun w28 => (f_RuleBook_goRound nf x0 c24).bind fun q27 => f_RuleBook_settle_123 nf x0 x1 x3 q27.1 x5 q27.2) else (f_RuleBook_settle_123 nf x0 x1 x3 x4 x5 c24)
def g_RuleBook_settle_71 (nf : Nat) (x0 : Nat) (x1 : Int64) (x3 : Int32) (x4 : Int32) (x5 : Int32) (c : Zc) : Option ((Nat × Int64 × Int32 × Int32 × Int32 × Zc) ⊕ (Nat × Zc)) :=
  if x3 < x5 then (some (.inr (x0, c))) else (if x4 = 0 then (some (.inr (x0, c))) else ((zgi c x0 8 5).bind fun v21 => if v21 = 0 then (if (lg_cmp (x1 * (Int32.toInt64 x5)) 1000000) ≤ 0 then (f_RuleBook_settle_107 nf x0 x1 x3 x4 x5 x0 0 c) else (f_RuleBook_settle_107 nf x0 x1 x3 x4 x5 x0 1 c)) else (some (.inr (x0, c)))))
def f_RuleBook_settle_129 (nf : Nat) (x0 : Nat) (c : Zc) : Option (Int32 × Zc) :=
  (zgi c x0 8 5).bind fun v29 => zrz v29 c
def f_RuleBook_settle_71 (nf : Nat) (x0 : Nat) (x1 : Int64) (x3 : Int32) (x4 : Int32) (x5 : Int32) (c : Zc) : Option (Int32 × Zc) :=
  (zlp (fun a => g_RuleBook_settle_71 nf a.1 a.2.1 a.2.2.1 a.2.2.2.1 a.2.2.2.2.1 a.2.2.2.2.2) nf (x0, x1, x3, x4, x5, c)).bind fun b => f_RuleBook_settle_129 nf b.1 b.2
def f_RuleBook_settle_58 (nf : Nat) (x0 : Nat) (x1 : Int64) (x3 : Int32) (s0 : Int32) (c : Zc) : Option (Int32 × Zc) :=
  (zob c x0 8).bind fun w17 => (f_RuleBook_isOneLarge nf x0 c).bind fun q16 => (zpz q16.2 x0 8 5 q16.1).bind fun c18 => f_RuleBook_settle_71 nf x0 x1 x3 s0 1 c18
def f_RuleBook_settle (nf : Nat) (a0 : Nat) (c : Zc) : Option (Int32 × Zc) :=
  (zgi c a0 8 4).bind fun v1 => (zgr c a0 8 1).bind fun v2 => (zgi c v2 0 9).bind fun v3 => if v1 = v3 then ((zgi c a0 8 5).bind fun v30 => zrz v30 c) else ((zgr c a0 8 1).bind fun v5 => (zgi c v5 0 9).bind fun v6 => (zpv c a0 8 4 (.int v6)).bind fun c7 => (zgr c7 a0 8 1).bind fun v8 => (zob c7 v8 0).bind fun w10 => (f_Graph_relate nf v8 c7).bind fun q9 => (zob q9 a0 8).bind fun w12 => (f_RuleBook_workOfAll nf a0 q9).bind fun q11 => (zob q11.2 a0 8).bind fun w14 => (f_RuleBook_standing nf a0 q11.2).bind fun q13 => if q13.1 ≤ 0 then (f_RuleBook_settle_58 nf a0 q11.1 1025 0 q13.2) else (f_RuleBook_settle_58 nf a0 q11.1 1025 1 q13.2))
set_option maxRecDepth 100000 in
set_option maxHeartbeats 4000000 in
theorem t_RuleBook_settle_123  (X : zX p s m args cd D cid B bb_RuleBook_settle 6 rr_RuleBook zT) (H : zH s meth B n0 (some (.boolean)) "settle") {nf : Nat} {x0 : Nat} {x1 : Int64} {x3 : Int32} {x4 : Int32} {x5 : Int32} {c : Zc} {r : (Nat × Int64 × Int32 × Int32 × Int32 × Zc) ⊕ (Nat × Zc)} (h : f_RuleBook_settle_123 nf x0 x1 x3 x4 x5 c = some r) (k0 : ∀ a, r = .inl a → (fun a : Nat × Int64 × Int32 × Int32 × Int32 × Zc => Zz p l e (zRm 6 145 0 0) s m args below meth cd Q D cid B 6 0 0 a.2.2.2.2.2 71 [(0, .ref a.1), (1, .long a.2.1), (3, .int a.2.2.1), (4, .int a.2.2.2.1), (5, .int a.2.2.2.2.1)] []) a) (k1 : ∀ b, r = .inr b → (fun b : Nat × Zc => Zz p l e (zRm 6 145 0 0) s m args below meth cd Q D cid B 6 0 0 b.2 129 [(0, .ref b.1)] []) b) : Zz p l e (zRm 6 145 0 0) s m args below meth cd Q D cid B 6 0 0 c 123 [(0, .ref x0), (1, .long x1), (3, .int x3), (4, .int x4), (5, .int x5)] [] := by
  unfold f_RuleBook_settle_123 at h
  refine z_iinc (v := (x5 + 1)) (lv' := [(5, .int (x5 + 1)), (0, .ref x0), (1, .long x1), (3, .int x3), (4, .int x4)]) X dd_RuleBook_settle_123 4 rfl rfl (by decide) rfl ?_
  refine z_goto (tgt := 71) X dd_RuleBook_settle_126 (by decide) ?_
  refine z_sub [1, 2, 3, 4, 0] rfl ?_
  obtain rfl := Option.some.inj h
  exact k0 _ rfl
set_option maxRecDepth 100000 in
set_option maxHeartbeats 4000000 in
theorem t_RuleBook_settle_107  (X : zX p s m args cd D cid B bb_RuleBook_settle 6 rr_RuleBook zT) (H : zH s meth B n0 (some (.boolean)) "settle") {nf : Nat} {x0 : Nat} {x1 : Int64} {x3 : Int32} {x4 : Int32} {x5 : Int32} {s0 : Nat} {s1 : Int32} {c : Zc} {r : (Nat × Int64 × Int32 × Int32 × Int32 × Zc) ⊕ (Nat × Zc)} (h : f_RuleBook_settle_107 nf x0 x1 x3 x4 x5 s0 s1 c = some r) (k0 : ∀ a, r = .inl a → (fun a : Nat × Int64 × Int32 × Int32 × Int32 × Zc => Zz p l e (zRm 6 145 0 0) s m args below meth cd Q D cid B 6 0 0 a.2.2.2.2.2 71 [(0, .ref a.1), (1, .long a.2.1), (3, .int a.2.2.1), (4, .int a.2.2.2.1), (5, .int a.2.2.2.2.1)] []) a) (k1 : ∀ b, r = .inr b → (fun b : Nat × Zc => Zz p l e (zRm 6 145 0 0) s m args below meth cd Q D cid B 6 0 0 b.2 129 [(0, .ref b.1)] []) b) : Zz p l e (zRm 6 145 0 0) s m args below meth cd Q D cid B 6 0 0 c 107 [(0, .ref x0), (1, .long x1), (3, .int x3), (4, .int x4), (5, .int x5)] [.int s1, .ref s0] := by
  unfold f_RuleBook_settle_107 at h
  obtain ⟨c24, ec24, h⟩ := zb h
  obtain ⟨bc24, ec24⟩ := zpz_s ec24
  refine z_put (j := 5) X dd_RuleBook_settle_107 kc_8 ki_8 tt_RuleBook tk_RuleBook nn_RuleBook (by decide) km_628 rfl (tk_RuleBook 5 (by decide)) (zn_z bc24) (zf_z bc24) ec24 ?_
  refine z_aload_n X dd_RuleBook_settle_110 rfl 0 rfl ?_
  obtain ⟨v25, ev25, h⟩ := zb h
  refine z_get (j := 5) X dd_RuleBook_settle_111 kc_8 ki_8 (by decide) km_628 (zgi_v ev25) ?_
  refine z_if_ne (tgt := 123) X dd_RuleBook_settle_114 (by decide) (fun q26 => ?_) (fun q26 => ?_)
  · rw [if_neg q26] at h
    exact t_RuleBook_settle_123 X H h k0 k1
  · rw [if_pos q26] at h
    refine z_aload_n X dd_RuleBook_settle_117 rfl 0 rfl ?_
    obtain ⟨w28, ew28, h⟩ := zb h
    obtain ⟨q27, eq27, h⟩ := zb h
    refine z_callVi X [] rfl dd_RuleBook_settle_118 (c_RuleBook_goRound l eq27) (cwV 0 X.1.2.2.2.2 (zg_V km_1281 km_1283 km_46 km_135 km_1284) rfl rfl rfl (by decide +kernel) ⟨Nat.le_of_ble_eq_true rfl, Nat.le_of_ble_eq_true rfl⟩) (zob_s ew28) kc_8 rfl (Nat.le_of_ble_eq_true rfl) ⟨Nat.le_of_ble_eq_true rfl, Nat.le_of_ble_eq_true rfl⟩ ?_
    refine z_istore (lv' := [(4, .int q27.1), (0, .ref x0), (1, .long x1), (3, .int x3), (5, .int x5)]) X dd_RuleBook_settle_121 (by decide) rfl ?_
    refine z_sub [1, 2, 3, 0, 4] rfl ?_
    exact t_RuleBook_settle_123 X H h k0 k1
set_option maxRecDepth 100000 in
set_option maxHeartbeats 4000000 in
theorem u_RuleBook_settle_71  (X : zX p s m args cd D cid B bb_RuleBook_settle 6 rr_RuleBook zT) (H : zH s meth B n0 (some (.boolean)) "settle") {nf : Nat} {x0 : Nat} {x1 : Int64} {x3 : Int32} {x4 : Int32} {x5 : Int32} {c : Zc} {r : (Nat × Int64 × Int32 × Int32 × Int32 × Zc) ⊕ (Nat × Zc)} (h : g_RuleBook_settle_71 nf x0 x1 x3 x4 x5 c = some r) (k0 : ∀ a, r = .inl a → (fun a : Nat × Int64 × Int32 × Int32 × Int32 × Zc => Zz p l e (zRm 6 145 0 0) s m args below meth cd Q D cid B 6 0 0 a.2.2.2.2.2 71 [(0, .ref a.1), (1, .long a.2.1), (3, .int a.2.2.1), (4, .int a.2.2.2.1), (5, .int a.2.2.2.2.1)] []) a) (k1 : ∀ b, r = .inr b → (fun b : Nat × Zc => Zz p l e (zRm 6 145 0 0) s m args below meth cd Q D cid B 6 0 0 b.2 129 [(0, .ref b.1)] []) b) : Zz p l e (zRm 6 145 0 0) s m args below meth cd Q D cid B 6 0 0 c 71 [(0, .ref x0), (1, .long x1), (3, .int x3), (4, .int x4), (5, .int x5)] [] := by
  unfold g_RuleBook_settle_71 at h
  refine z_iload X dd_RuleBook_settle_71 4 rfl ?_
  refine z_iload_n X dd_RuleBook_settle_73 rfl 2 rfl ?_
  refine z_icmp_gt (tgt := 129) X dd_RuleBook_settle_74 (by decide) (fun q19 => ?_) (fun q19 => ?_)
  · rw [if_pos q19] at h
    refine z_sub [0] rfl ?_
    obtain rfl := Option.some.inj h
    exact k1 _ rfl
  · rw [if_neg q19] at h
    refine z_iload X dd_RuleBook_settle_77 3 rfl ?_
    refine z_if_eq (tgt := 129) X dd_RuleBook_settle_79 (by decide) (fun q20 => ?_) (fun q20 => ?_)
    · rw [if_pos q20] at h
      refine z_sub [0] rfl ?_
      obtain rfl := Option.some.inj h
      exact k1 _ rfl
    · rw [if_neg q20] at h
      refine z_aload_n X dd_RuleBook_settle_82 rfl 0 rfl ?_
      obtain ⟨v21, ev21, h⟩ := zb h
      refine z_get (j := 5) X dd_RuleBook_settle_83 kc_8 ki_8 (by decide) km_628 (zgi_v ev21) ?_
      refine z_if_ne (tgt := 129) X dd_RuleBook_settle_86 (by decide) (fun q22 => ?_) (fun q22 => ?_)
      · rw [if_neg q22] at h
        refine z_sub [0] rfl ?_
        obtain rfl := Option.some.inj h
        exact k1 _ rfl
      · rw [if_pos q22] at h
        refine z_aload_n X dd_RuleBook_settle_89 rfl 0 rfl ?_
        refine z_lload_n X dd_RuleBook_settle_90 rfl 1 rfl ?_
        refine z_iload X dd_RuleBook_settle_91 4 rfl ?_
        refine z_i2l X dd_RuleBook_settle_93 ?_
        refine z_lmul X dd_RuleBook_settle_94 ?_
        refine z_ldc2 (v := 1000000) X dd_RuleBook_settle_95 km_1280 ?_
        refine z_lcmp X dd_RuleBook_settle_98 ?_
        refine z_if_le (tgt := 106) X dd_RuleBook_settle_99 (by decide) (fun q23 => ?_) (fun q23 => ?_)
        · rw [if_pos q23] at h
          refine z_iconst (v := 0) X dd_RuleBook_settle_106 (by decide) ?_
          exact t_RuleBook_settle_107 X H h k0 k1
        · rw [if_neg q23] at h
          refine z_iconst (v := 1) X dd_RuleBook_settle_102 (by decide) ?_
          refine z_goto (tgt := 107) X dd_RuleBook_settle_103 (by decide) ?_
          exact t_RuleBook_settle_107 X H h k0 k1
set_option maxRecDepth 100000 in
set_option maxHeartbeats 4000000 in
theorem t_RuleBook_settle_129  (X : zX p s m args cd D cid B bb_RuleBook_settle 6 rr_RuleBook zT) (H : zH s meth B n0 (some (.boolean)) "settle") {nf : Nat} {x0 : Nat} {c : Zc} {res : Int32 × Zc} (h : f_RuleBook_settle_129 nf x0 c = some res) : Zz p l e (zRm 6 145 0 0) s m args below meth cd (MQ below (zQi D cid B res.1 res.2 n0 0) args s 0 0 (fun q => B ≤ q)) D cid B 6 0 0 c 129 [(0, .ref x0)] [] := by
  unfold f_RuleBook_settle_129 at h
  refine z_aload_n X dd_RuleBook_settle_129 rfl 0 rfl ?_
  obtain ⟨v29, ev29, h⟩ := zb h
  refine z_get (j := 5) X dd_RuleBook_settle_130 kc_8 ki_8 (by decide) km_628 (zgi_v ev29) ?_
  obtain ⟨hz, h⟩ := zrz_s h
  obtain rfl := h
  exact z_zret X H.1 (zn_z hz) H.2.1 H.2.2.1 dd_RuleBook_settle_133
set_option maxRecDepth 100000 in
set_option maxHeartbeats 4000000 in
theorem t_RuleBook_settle_71  (X : zX p s m args cd D cid B bb_RuleBook_settle 6 rr_RuleBook zT) (H : zH s meth B n0 (some (.boolean)) "settle") {nf : Nat} {x0 : Nat} {x1 : Int64} {x3 : Int32} {x4 : Int32} {x5 : Int32} {c : Zc} {res : Int32 × Zc} (h : f_RuleBook_settle_71 nf x0 x1 x3 x4 x5 c = some res) : Zz p l e (zRm 6 145 0 0) s m args below meth cd (MQ below (zQi D cid B res.1 res.2 n0 0) args s 0 0 (fun q => B ≤ q)) D cid B 6 0 0 c 71 [(0, .ref x0), (1, .long x1), (3, .int x3), (4, .int x4), (5, .int x5)] [] := by
  unfold f_RuleBook_settle_71 at h
  obtain ⟨b, eb, h⟩ := zb h
  refine zlp_ok (P := fun a : Nat × Int64 × Int32 × Int32 × Int32 × Zc => Zz p l e (zRm 6 145 0 0) s m args below meth cd _ D cid B 6 0 0 a.2.2.2.2.2 71 [(0, .ref a.1), (1, .long a.2.1), (3, .int a.2.2.1), (4, .int a.2.2.2.1), (5, .int a.2.2.2.2.1)] []) (G := fun b : Nat × Zc => Zz p l e (zRm 6 145 0 0) s m args below meth cd _ D cid B 6 0 0 b.2 129 [(0, .ref b.1)] []) (fun a r ha k0 k1 => u_RuleBook_settle_71 X H ha k0 k1) nf _ b eb ?_
  exact t_RuleBook_settle_129 X H h
set_option maxRecDepth 100000 in
set_option maxHeartbeats 4000000 in
theorem t_RuleBook_settle_58  (X : zX p s m args cd D cid B bb_RuleBook_settle 6 rr_RuleBook zT) (H : zH s meth B n0 (some (.boolean)) "settle") {nf : Nat} {x0 : Nat} {x1 : Int64} {x3 : Int32} {s0 : Int32} {c : Zc} {res : Int32 × Zc} (h : f_RuleBook_settle_58 nf x0 x1 x3 s0 c = some res) : Zz p l e (zRm 6 145 0 0) s m args below meth cd (MQ below (zQi D cid B res.1 res.2 n0 0) args s 0 0 (fun q => B ≤ q)) D cid B 6 0 0 c 58 [(0, .ref x0), (1, .long x1), (3, .int x3)] [.int s0] := by
  unfold f_RuleBook_settle_58 at h
  refine z_istore (lv' := [(4, .int s0), (0, .ref x0), (1, .long x1), (3, .int x3)]) X dd_RuleBook_settle_58 (by decide) rfl ?_
  refine z_aload_n X dd_RuleBook_settle_60 rfl 1 rfl ?_
  refine z_aload_n X dd_RuleBook_settle_61 rfl 1 rfl ?_
  obtain ⟨w17, ew17, h⟩ := zb h
  obtain ⟨q16, eq16, h⟩ := zb h
  refine z_callVi X [] rfl dd_RuleBook_settle_62 (c_RuleBook_isOneLarge l eq16) (cwV 0 X.1.2.2.2.2 (zg_V km_1275 km_1277 km_45 km_135 km_1278) rfl rfl rfl (by decide +kernel) ⟨Nat.le_of_ble_eq_true rfl, Nat.le_of_ble_eq_true rfl⟩) (zob_s ew17) kc_8 rfl (Nat.le_of_ble_eq_true rfl) ⟨Nat.le_of_ble_eq_true rfl, Nat.le_of_ble_eq_true rfl⟩ ?_
  obtain ⟨c18, ec18, h⟩ := zb h
  obtain ⟨bc18, ec18⟩ := zpz_s ec18
  refine z_put (j := 5) X dd_RuleBook_settle_65 kc_8 ki_8 tt_RuleBook tk_RuleBook nn_RuleBook (by decide) km_628 rfl (tk_RuleBook 5 (by decide)) (zn_z bc18) (zf_z bc18) ec18 ?_
  refine z_iconst (v := 1) X dd_RuleBook_settle_68 (by decide) ?_
  refine z_istore (lv' := [(5, .int 1), (4, .int s0), (0, .ref x0), (1, .long x1), (3, .int x3)]) X dd_RuleBook_settle_69 (by decide) rfl ?_
  refine z_sub [2, 3, 4, 1, 0] rfl ?_
  exact t_RuleBook_settle_71 X H h
set_option maxRecDepth 100000 in
set_option maxHeartbeats 4000000 in
theorem c_RuleBook_settle (l : Launch) {nf : Nat} {a0 : Nat} {c : Zc} {res : Int32 × Zc} (h : f_RuleBook_settle nf a0 c = some res) : zM l yy_RuleBook_settle ww_RuleBook_settle 6 145 0 0 [.ref a0] c (fun D cid B => zQi D cid B res.1 res.2 c.length 0) := by
  refine z_met (cc := bb_RuleBook_settle) (maxL := 6) (ret := (some (.boolean))) (by decide +kernel) rfl (Nat.le_of_ble_eq_true rfl) ?_
  intro p e s m args below meth cd D cid B X h1 h2 h3 h4
  have X : zX p s m args cd D cid B bb_RuleBook_settle 6 rr_RuleBook zT := X
  have H : zH s meth B c.length (some (.boolean)) "settle" := ⟨h1, h2, h4, h3⟩
  unfold f_RuleBook_settle at h
  show Zz p l e (zRm 6 145 0 0) s m args below meth cd _ D cid B 6 0 0 c 0 [(0, .ref a0)] []
  refine z_aload_n X dd_RuleBook_settle_0 rfl 0 rfl ?_
  obtain ⟨v1, ev1, h⟩ := zb h
  refine z_get (j := 4) X dd_RuleBook_settle_1 kc_8 ki_8 (by decide) km_627 (zgi_v ev1) ?_
  refine z_aload_n X dd_RuleBook_settle_4 rfl 0 rfl ?_
  obtain ⟨v2, ev2, h⟩ := zb h
  refine z_get (j := 1) X dd_RuleBook_settle_5 kc_8 ki_8 (by decide) km_624 (zgr_v ev2) ?_
  obtain ⟨v3, ev3, h⟩ := zb h
  refine z_get (j := 9) X dd_RuleBook_settle_8 kc_0 ki_0 (by decide) km_181 (zgi_v ev3) ?_
  refine z_icmp_ne (tgt := 19) X dd_RuleBook_settle_11 (by decide) (fun q4 => ?_) (fun q4 => ?_)
  · rw [if_neg q4] at h
    refine z_aload_n X dd_RuleBook_settle_19 rfl 0 rfl ?_
    refine z_aload_n X dd_RuleBook_settle_20 rfl 0 rfl ?_
    obtain ⟨v5, ev5, h⟩ := zb h
    refine z_get (j := 1) X dd_RuleBook_settle_21 kc_8 ki_8 (by decide) km_624 (zgr_v ev5) ?_
    obtain ⟨v6, ev6, h⟩ := zb h
    refine z_get (j := 9) X dd_RuleBook_settle_24 kc_0 ki_0 (by decide) km_181 (zgi_v ev6) ?_
    obtain ⟨c7, ec7, h⟩ := zb h
    refine z_put (j := 4) X dd_RuleBook_settle_27 kc_8 ki_8 tt_RuleBook tk_RuleBook nn_RuleBook (by decide) km_627 rfl (tk_RuleBook 4 (by decide)) rfl rfl ec7 ?_
    refine z_aload_n X dd_RuleBook_settle_30 rfl 0 rfl ?_
    obtain ⟨v8, ev8, h⟩ := zb h
    refine z_get (j := 1) X dd_RuleBook_settle_31 kc_8 ki_8 (by decide) km_624 (zgr_v ev8) ?_
    obtain ⟨w10, ew10, h⟩ := zb h
    obtain ⟨q9, eq9, h⟩ := zb h
    refine z_callVv X [] rfl dd_RuleBook_settle_34 (c_Graph_relate l eq9) (cwV 0 X.1.2.2.2.2 (zg_V km_1258 km_1259 km_1260 km_126 km_1261) rfl rfl rfl (by decide +kernel) ⟨Nat.le_of_ble_eq_true rfl, Nat.le_of_ble_eq_true rfl⟩) (zob_s ew10) kc_0 rfl (Nat.le_of_ble_eq_true rfl) ⟨Nat.le_of_ble_eq_true rfl, Nat.le_of_ble_eq_true rfl⟩ ?_
    refine z_aload_n X dd_RuleBook_settle_37 rfl 0 rfl ?_
    obtain ⟨w12, ew12, h⟩ := zb h
    obtain ⟨q11, eq11, h⟩ := zb h
    refine z_callVl X [] rfl dd_RuleBook_settle_38 (c_RuleBook_workOfAll l eq11) (cwV 0 X.1.2.2.2.2 (zg_V km_1266 km_1268 km_44 km_135 km_1269) rfl rfl rfl (by decide +kernel) ⟨Nat.le_of_ble_eq_true rfl, Nat.le_of_ble_eq_true rfl⟩) (zob_s ew12) kc_8 rfl (Nat.le_of_ble_eq_true rfl) ⟨Nat.le_of_ble_eq_true rfl, Nat.le_of_ble_eq_true rfl⟩ ?_
    refine z_lstore_n (lv' := [(1, .long q11.1), (0, .ref a0)]) X dd_RuleBook_settle_41 rfl (by decide) rfl ?_
    refine z_sipush (v := 1025) X dd_RuleBook_settle_42 (by decide) ?_
    refine z_istore_n (lv' := [(3, .int 1025), (1, .long q11.1), (0, .ref a0)]) X dd_RuleBook_settle_45 rfl (by decide) rfl ?_
    refine z_aload_n X dd_RuleBook_settle_46 rfl 2 rfl ?_
    obtain ⟨w14, ew14, h⟩ := zb h
    obtain ⟨q13, eq13, h⟩ := zb h
    refine z_callVi X [] rfl dd_RuleBook_settle_47 (c_RuleBook_standing l eq13) (cwV 0 X.1.2.2.2.2 (zg_V km_1274 km_788 km_789 km_135 km_790) rfl rfl rfl (by decide +kernel) ⟨Nat.le_of_ble_eq_true rfl, Nat.le_of_ble_eq_true rfl⟩) (zob_s ew14) kc_8 rfl (Nat.le_of_ble_eq_true rfl) ⟨Nat.le_of_ble_eq_true rfl, Nat.le_of_ble_eq_true rfl⟩ ?_
    refine z_if_le (tgt := 57) X dd_RuleBook_settle_50 (by decide) (fun q15 => ?_) (fun q15 => ?_)
    · rw [if_pos q15] at h
      refine z_iconst (v := 0) X dd_RuleBook_settle_57 (by decide) ?_
      refine z_sub [2, 1, 0] rfl ?_
      exact t_RuleBook_settle_58 X H h
    · rw [if_neg q15] at h
      refine z_iconst (v := 1) X dd_RuleBook_settle_53 (by decide) ?_
      refine z_goto (tgt := 58) X dd_RuleBook_settle_54 (by decide) ?_
      refine z_sub [2, 1, 0] rfl ?_
      exact t_RuleBook_settle_58 X H h
  · rw [if_pos q4] at h
    refine z_aload_n X dd_RuleBook_settle_14 rfl 0 rfl ?_
    obtain ⟨v30, ev30, h⟩ := zb h
    refine z_get (j := 5) X dd_RuleBook_settle_15 kc_8 ki_8 (by decide) km_628 (zgi_v ev30) ?_
    obtain ⟨hz, h⟩ := zrz_s h
    obtain rfl := h
    exact z_zret X H.1 (zn_z hz) H.2.1 H.2.2.1 dd_RuleBook_settle_18
theorem dd_Rows_clear_0 : decode bb_Rows_clear 0 = .ok (.aload_n 0, 1) := by decide +kernel
theorem dd_Rows_clear_1 : decode bb_Rows_clear 1 = .ok (.iconst 0, 1) := by decide +kernel
theorem dd_Rows_clear_2 : decode bb_Rows_clear 2 = .ok (.putfield 7, 3) := by decide +kernel
theorem dd_Rows_clear_5 : decode bb_Rows_clear 5 = .ok (.aload_n 0, 1) := by decide +kernel
theorem dd_Rows_clear_6 : decode bb_Rows_clear 6 = .ok (.iload_n 1, 1) := by decide +kernel
theorem dd_Rows_clear_7 : decode bb_Rows_clear 7 = .ok (.putfield 13, 3) := by decide +kernel
theorem dd_Rows_clear_10 : decode bb_Rows_clear 10 = .ok (.return_, 1) := by decide +kernel
def f_Rows_clear (nf : Nat) (a0 : Nat) (a1 : Int32) (c : Zc) : Option (Zc) :=
  (zpv c a0 9 0 (.int 0)).bind fun c1 => (zpv c1 a0 9 1 (.int a1)).bind fun c2 => some c2
set_option maxRecDepth 100000 in
set_option maxHeartbeats 4000000 in
theorem c_Rows_clear (l : Launch) {nf : Nat} {a0 : Nat} {a1 : Int32} {c : Zc} {res : Zc} (h : f_Rows_clear nf a0 a1 c = some res) : zM l yy_Rows_clear ww_Rows_clear 0 0 0 0 [.ref a0, .int a1] c (fun D cid B => zQv D cid B res c.length 0) := by
  refine z_met (cc := bb_Rows_clear) (maxL := 2) (ret := none) (by decide +kernel) rfl (Nat.le_of_ble_eq_true rfl) ?_
  intro p e s m args below meth cd D cid B X h1 h2 h3 h4
  have X : zX p s m args cd D cid B bb_Rows_clear 2 rr_Rows zT := X
  have H : zH s meth B c.length none "clear" := ⟨h1, h2, h4, h3⟩
  unfold f_Rows_clear at h
  show Zz p l e (zRm 0 0 0 0) s m args below meth cd _ D cid B 2 0 0 c 0 [(0, .ref a0), (1, .int a1)] []
  refine z_aload_n X dd_Rows_clear_0 rfl 0 rfl ?_
  refine z_iconst (v := 0) X dd_Rows_clear_1 (by decide) ?_
  obtain ⟨c1, ec1, h⟩ := zb h
  refine z_put (j := 0) X dd_Rows_clear_2 kc_9 ki_9 tt_Rows tk_Rows nn_Rows (by decide) km_654 rfl (tk_Rows 0 (by decide)) rfl rfl ec1 ?_
  refine z_aload_n X dd_Rows_clear_5 rfl 0 rfl ?_
  refine z_iload_n X dd_Rows_clear_6 rfl 1 rfl ?_
  obtain ⟨c2, ec2, h⟩ := zb h
  refine z_put (j := 1) X dd_Rows_clear_7 kc_9 ki_9 tt_Rows tk_Rows nn_Rows (by decide) km_657 rfl (tk_Rows 1 (by decide)) rfl rfl ec2 ?_
  obtain rfl := Option.some.inj h
  exact z_vret X H.1 H.2.1 H.2.2.1 dd_Rows_clear_10
theorem dd_Rows_setCell_0 : decode bb_Rows_setCell 0 = .ok (.aload_n 0, 1) := by decide +kernel
theorem dd_Rows_setCell_1 : decode bb_Rows_setCell 1 = .ok (.getfield 16, 3) := by decide +kernel
theorem dd_Rows_setCell_4 : decode bb_Rows_setCell 4 = .ok (.aload_n 0, 1) := by decide +kernel
theorem dd_Rows_setCell_5 : decode bb_Rows_setCell 5 = .ok (.getfield 7, 3) := by decide +kernel
theorem dd_Rows_setCell_8 : decode bb_Rows_setCell 8 = .ok (.iconst 1, 1) := by decide +kernel
theorem dd_Rows_setCell_9 : decode bb_Rows_setCell 9 = .ok (.isub, 1) := by decide +kernel
theorem dd_Rows_setCell_10 : decode bb_Rows_setCell 10 = .ok (.aload_n 0, 1) := by decide +kernel
theorem dd_Rows_setCell_11 : decode bb_Rows_setCell 11 = .ok (.getfield 13, 3) := by decide +kernel
theorem dd_Rows_setCell_14 : decode bb_Rows_setCell 14 = .ok (.imul, 1) := by decide +kernel
theorem dd_Rows_setCell_15 : decode bb_Rows_setCell 15 = .ok (.iload_n 1, 1) := by decide +kernel
theorem dd_Rows_setCell_16 : decode bb_Rows_setCell 16 = .ok (.iadd, 1) := by decide +kernel
theorem dd_Rows_setCell_17 : decode bb_Rows_setCell 17 = .ok (.iload_n 2, 1) := by decide +kernel
theorem dd_Rows_setCell_18 : decode bb_Rows_setCell 18 = .ok (.iastore, 1) := by decide +kernel
theorem dd_Rows_setCell_19 : decode bb_Rows_setCell 19 = .ok (.return_, 1) := by decide +kernel
def f_Rows_setCell (nf : Nat) (a0 : Nat) (a1 : Int32) (a2 : Int32) (c : Zc) : Option (Zc) :=
  (zgr c a0 9 2).bind fun v1 => (zgi c a0 9 0).bind fun v2 => (zgi c a0 9 1).bind fun v3 => (zsi c v1 0 (((v2 - 1) * v3) + a1) a2).bind fun c4 => some c4
set_option maxRecDepth 100000 in
set_option maxHeartbeats 4000000 in
theorem c_Rows_setCell (l : Launch) {nf : Nat} {a0 : Nat} {a1 : Int32} {a2 : Int32} {c : Zc} {res : Zc} (h : f_Rows_setCell nf a0 a1 a2 c = some res) : zM l yy_Rows_setCell ww_Rows_setCell 0 0 0 0 [.ref a0, .int a1, .int a2] c (fun D cid B => zQv D cid B res c.length 0) := by
  refine z_met (cc := bb_Rows_setCell) (maxL := 3) (ret := none) (by decide +kernel) rfl (Nat.le_of_ble_eq_true rfl) ?_
  intro p e s m args below meth cd D cid B X h1 h2 h3 h4
  have X : zX p s m args cd D cid B bb_Rows_setCell 3 rr_Rows zT := X
  have H : zH s meth B c.length none "setCell" := ⟨h1, h2, h4, h3⟩
  unfold f_Rows_setCell at h
  show Zz p l e (zRm 0 0 0 0) s m args below meth cd _ D cid B 3 0 0 c 0 [(0, .ref a0), (1, .int a1), (2, .int a2)] []
  refine z_aload_n X dd_Rows_setCell_0 rfl 0 rfl ?_
  obtain ⟨v1, ev1, h⟩ := zb h
  refine z_get (j := 2) X dd_Rows_setCell_1 kc_9 ki_9 (by decide) km_659 (zgr_v ev1) ?_
  refine z_aload_n X dd_Rows_setCell_4 rfl 0 rfl ?_
  obtain ⟨v2, ev2, h⟩ := zb h
  refine z_get (j := 0) X dd_Rows_setCell_5 kc_9 ki_9 (by decide) km_654 (zgi_v ev2) ?_
  refine z_iconst (v := 1) X dd_Rows_setCell_8 (by decide) ?_
  refine z_isub X dd_Rows_setCell_9 ?_
  refine z_aload_n X dd_Rows_setCell_10 rfl 0 rfl ?_
  obtain ⟨v3, ev3, h⟩ := zb h
  refine z_get (j := 1) X dd_Rows_setCell_11 kc_9 ki_9 (by decide) km_657 (zgi_v ev3) ?_
  refine z_imul X dd_Rows_setCell_14 ?_
  refine z_iload_n X dd_Rows_setCell_15 rfl 1 rfl ?_
  refine z_iadd X dd_Rows_setCell_16 ?_
  refine z_iload_n X dd_Rows_setCell_17 rfl 2 rfl ?_
  obtain ⟨c4, ec4, h⟩ := zb h
  refine z_iastore X dd_Rows_setCell_18 rfl ec4 ?_
  obtain rfl := Option.some.inj h
  exact z_vret X H.1 H.2.1 H.2.2.1 dd_Rows_setCell_19
theorem dd_Rows_cell_0 : decode bb_Rows_cell 0 = .ok (.aload_n 0, 1) := by decide +kernel
theorem dd_Rows_cell_1 : decode bb_Rows_cell 1 = .ok (.getfield 16, 3) := by decide +kernel
theorem dd_Rows_cell_4 : decode bb_Rows_cell 4 = .ok (.iload_n 1, 1) := by decide +kernel
theorem dd_Rows_cell_5 : decode bb_Rows_cell 5 = .ok (.aload_n 0, 1) := by decide +kernel
theorem dd_Rows_cell_6 : decode bb_Rows_cell 6 = .ok (.getfield 13, 3) := by decide +kernel
theorem dd_Rows_cell_9 : decode bb_Rows_cell 9 = .ok (.imul, 1) := by decide +kernel
theorem dd_Rows_cell_10 : decode bb_Rows_cell 10 = .ok (.iload_n 2, 1) := by decide +kernel
theorem dd_Rows_cell_11 : decode bb_Rows_cell 11 = .ok (.iadd, 1) := by decide +kernel
theorem dd_Rows_cell_12 : decode bb_Rows_cell 12 = .ok (.iaload, 1) := by decide +kernel
theorem dd_Rows_cell_13 : decode bb_Rows_cell 13 = .ok (.ireturn, 1) := by decide +kernel
def f_Rows_cell (nf : Nat) (a0 : Nat) (a1 : Int32) (a2 : Int32) (c : Zc) : Option (Int32 × Zc) :=
  (zgr c a0 9 2).bind fun v1 => (zgi c a0 9 1).bind fun v2 => (zai c v1 0 ((a1 * v2) + a2)).bind fun v3 => some (v3, c)
set_option maxRecDepth 100000 in
set_option maxHeartbeats 4000000 in
theorem c_Rows_cell (l : Launch) {nf : Nat} {a0 : Nat} {a1 : Int32} {a2 : Int32} {c : Zc} {res : Int32 × Zc} (h : f_Rows_cell nf a0 a1 a2 c = some res) : zM l yy_Rows_cell ww_Rows_cell 0 0 0 0 [.ref a0, .int a1, .int a2] c (fun D cid B => zQi D cid B res.1 res.2 c.length 0) := by
  refine z_met (cc := bb_Rows_cell) (maxL := 3) (ret := (some (.int))) (by decide +kernel) rfl (Nat.le_of_ble_eq_true rfl) ?_
  intro p e s m args below meth cd D cid B X h1 h2 h3 h4
  have X : zX p s m args cd D cid B bb_Rows_cell 3 rr_Rows zT := X
  have H : zH s meth B c.length (some (.int)) "cell" := ⟨h1, h2, h4, h3⟩
  unfold f_Rows_cell at h
  show Zz p l e (zRm 0 0 0 0) s m args below meth cd _ D cid B 3 0 0 c 0 [(0, .ref a0), (1, .int a1), (2, .int a2)] []
  refine z_aload_n X dd_Rows_cell_0 rfl 0 rfl ?_
  obtain ⟨v1, ev1, h⟩ := zb h
  refine z_get (j := 2) X dd_Rows_cell_1 kc_9 ki_9 (by decide) km_659 (zgr_v ev1) ?_
  refine z_iload_n X dd_Rows_cell_4 rfl 1 rfl ?_
  refine z_aload_n X dd_Rows_cell_5 rfl 0 rfl ?_
  obtain ⟨v2, ev2, h⟩ := zb h
  refine z_get (j := 1) X dd_Rows_cell_6 kc_9 ki_9 (by decide) km_657 (zgi_v ev2) ?_
  refine z_imul X dd_Rows_cell_9 ?_
  refine z_iload_n X dd_Rows_cell_10 rfl 2 rfl ?_
  refine z_iadd X dd_Rows_cell_11 ?_
  obtain ⟨v3, ev3, h⟩ := zb h
  refine z_iaload X dd_Rows_cell_12 rfl ev3 ?_
  obtain rfl := Option.some.inj h
  exact z_iret X H.1 H.2.1 H.2.2.1 dd_Rows_cell_13
theorem dd_Rows_sorted_0 : decode bb_Rows_sorted 0 = .ok (.aload_n 0, 1) := by decide +kernel
theorem dd_Rows_sorted_1 : decode bb_Rows_sorted 1 = .ok (.getfield 20, 3) := by decide +kernel
theorem dd_Rows_sorted_4 : decode bb_Rows_sorted 4 = .ok (.iload_n 1, 1) := by decide +kernel
theorem dd_Rows_sorted_5 : decode bb_Rows_sorted 5 = .ok (.iaload, 1) := by decide +kernel
theorem dd_Rows_sorted_6 : decode bb_Rows_sorted 6 = .ok (.ireturn, 1) := by decide +kernel
def f_Rows_sorted (nf : Nat) (a0 : Nat) (a1 : Int32) (c : Zc) : Option (Int32 × Zc) :=
  (zgr c a0 9 3).bind fun v1 => (zai c v1 0 a1).bind fun v2 => some (v2, c)
set_option maxRecDepth 100000 in
set_option maxHeartbeats 4000000 in
theorem c_Rows_sorted (l : Launch) {nf : Nat} {a0 : Nat} {a1 : Int32} {c : Zc} {res : Int32 × Zc} (h : f_Rows_sorted nf a0 a1 c = some res) : zM l yy_Rows_sorted ww_Rows_sorted 0 0 0 0 [.ref a0, .int a1] c (fun D cid B => zQi D cid B res.1 res.2 c.length 0) := by
  refine z_met (cc := bb_Rows_sorted) (maxL := 2) (ret := (some (.int))) (by decide +kernel) rfl (Nat.le_of_ble_eq_true rfl) ?_
  intro p e s m args below meth cd D cid B X h1 h2 h3 h4
  have X : zX p s m args cd D cid B bb_Rows_sorted 2 rr_Rows zT := X
  have H : zH s meth B c.length (some (.int)) "sorted" := ⟨h1, h2, h4, h3⟩
  unfold f_Rows_sorted at h
  show Zz p l e (zRm 0 0 0 0) s m args below meth cd _ D cid B 2 0 0 c 0 [(0, .ref a0), (1, .int a1)] []
  refine z_aload_n X dd_Rows_sorted_0 rfl 0 rfl ?_
  obtain ⟨v1, ev1, h⟩ := zb h
  refine z_get (j := 3) X dd_Rows_sorted_1 kc_9 ki_9 (by decide) km_660 (zgr_v ev1) ?_
  refine z_iload_n X dd_Rows_sorted_4 rfl 1 rfl ?_
  obtain ⟨v2, ev2, h⟩ := zb h
  refine z_iaload X dd_Rows_sorted_5 rfl ev2 ?_
  obtain rfl := Option.some.inj h
  exact z_iret X H.1 H.2.1 H.2.2.1 dd_Rows_sorted_6
theorem dd_Rows_compare_0 : decode bb_Rows_compare 0 = .ok (.iconst 0, 1) := by decide +kernel
theorem dd_Rows_compare_1 : decode bb_Rows_compare 1 = .ok (.istore 4, 2) := by decide +kernel
theorem dd_Rows_compare_3 : decode bb_Rows_compare 3 = .ok (.iload 4, 2) := by decide +kernel
theorem dd_Rows_compare_5 : decode bb_Rows_compare 5 = .ok (.aload_n 0, 1) := by decide +kernel
theorem dd_Rows_compare_6 : decode bb_Rows_compare 6 = .ok (.getfield 13, 3) := by decide +kernel
theorem dd_Rows_compare_9 : decode bb_Rows_compare 9 = .ok (.if_icmp .ge 70, 3) := by decide +kernel
theorem dd_Rows_compare_12 : decode bb_Rows_compare 12 = .ok (.aload_n 0, 1) := by decide +kernel
theorem dd_Rows_compare_13 : decode bb_Rows_compare 13 = .ok (.getfield 16, 3) := by decide +kernel
theorem dd_Rows_compare_16 : decode bb_Rows_compare 16 = .ok (.iload_n 1, 1) := by decide +kernel
theorem dd_Rows_compare_17 : decode bb_Rows_compare 17 = .ok (.aload_n 0, 1) := by decide +kernel
theorem dd_Rows_compare_18 : decode bb_Rows_compare 18 = .ok (.getfield 13, 3) := by decide +kernel
theorem dd_Rows_compare_21 : decode bb_Rows_compare 21 = .ok (.imul, 1) := by decide +kernel
theorem dd_Rows_compare_22 : decode bb_Rows_compare 22 = .ok (.iload 4, 2) := by decide +kernel
theorem dd_Rows_compare_24 : decode bb_Rows_compare 24 = .ok (.iadd, 1) := by decide +kernel
theorem dd_Rows_compare_25 : decode bb_Rows_compare 25 = .ok (.iaload, 1) := by decide +kernel
theorem dd_Rows_compare_26 : decode bb_Rows_compare 26 = .ok (.istore 5, 2) := by decide +kernel
theorem dd_Rows_compare_28 : decode bb_Rows_compare 28 = .ok (.aload_n 0, 1) := by decide +kernel
theorem dd_Rows_compare_29 : decode bb_Rows_compare 29 = .ok (.getfield 16, 3) := by decide +kernel
theorem dd_Rows_compare_32 : decode bb_Rows_compare 32 = .ok (.iload_n 2, 1) := by decide +kernel
theorem dd_Rows_compare_33 : decode bb_Rows_compare 33 = .ok (.aload_n 0, 1) := by decide +kernel
theorem dd_Rows_compare_34 : decode bb_Rows_compare 34 = .ok (.getfield 13, 3) := by decide +kernel
theorem dd_Rows_compare_37 : decode bb_Rows_compare 37 = .ok (.imul, 1) := by decide +kernel
theorem dd_Rows_compare_38 : decode bb_Rows_compare 38 = .ok (.iload 4, 2) := by decide +kernel
theorem dd_Rows_compare_40 : decode bb_Rows_compare 40 = .ok (.iadd, 1) := by decide +kernel
theorem dd_Rows_compare_41 : decode bb_Rows_compare 41 = .ok (.iaload, 1) := by decide +kernel
theorem dd_Rows_compare_42 : decode bb_Rows_compare 42 = .ok (.istore 6, 2) := by decide +kernel
theorem dd_Rows_compare_44 : decode bb_Rows_compare 44 = .ok (.iload 5, 2) := by decide +kernel
theorem dd_Rows_compare_46 : decode bb_Rows_compare 46 = .ok (.iload 6, 2) := by decide +kernel
theorem dd_Rows_compare_48 : decode bb_Rows_compare 48 = .ok (.if_icmp .eq 25, 3) := by decide +kernel
theorem dd_Rows_compare_51 : decode bb_Rows_compare 51 = .ok (.iload_n 3, 1) := by decide +kernel
theorem dd_Rows_compare_52 : decode bb_Rows_compare 52 = .ok (.iload 4, 2) := by decide +kernel
theorem dd_Rows_compare_54 : decode bb_Rows_compare 54 = .ok (.ishr, 1) := by decide +kernel
theorem dd_Rows_compare_55 : decode bb_Rows_compare 55 = .ok (.iconst 1, 1) := by decide +kernel
theorem dd_Rows_compare_56 : decode bb_Rows_compare 56 = .ok (.iand, 1) := by decide +kernel
theorem dd_Rows_compare_57 : decode bb_Rows_compare 57 = .ok (.ifCond .eq 16, 3) := by decide +kernel
theorem dd_Rows_compare_60 : decode bb_Rows_compare 60 = .ok (.iload 5, 2) := by decide +kernel
theorem dd_Rows_compare_62 : decode bb_Rows_compare 62 = .ok (.iload 6, 2) := by decide +kernel
theorem dd_Rows_compare_64 : decode bb_Rows_compare 64 = .ok (.if_icmp .ge 7, 3) := by decide +kernel
theorem dd_Rows_compare_67 : decode bb_Rows_compare 67 = .ok (.iconst (-1), 1) := by decide +kernel
theorem dd_Rows_compare_68 : decode bb_Rows_compare 68 = .ok (.goto 4, 3) := by decide +kernel
theorem dd_Rows_compare_71 : decode bb_Rows_compare 71 = .ok (.iconst 1, 1) := by decide +kernel
theorem dd_Rows_compare_72 : decode bb_Rows_compare 72 = .ok (.ireturn, 1) := by decide +kernel
theorem dd_Rows_compare_73 : decode bb_Rows_compare 73 = .ok (.iinc 4 1, 3) := by decide +kernel
theorem dd_Rows_compare_76 : decode bb_Rows_compare 76 = .ok (.goto (-73), 3) := by decide +kernel
theorem dd_Rows_compare_79 : decode bb_Rows_compare 79 = .ok (.iconst 0, 1) := by decide +kernel
theorem dd_Rows_compare_80 : decode bb_Rows_compare 80 = .ok (.ireturn, 1) := by decide +kernel
def f_Rows_compare_73 (nf : Nat) (x0 : Nat) (x1 : Int32) (x2 : Int32) (x3 : Int32) (x4 : Int32) (c : Zc) : Option ((Nat × Int32 × Int32 × Int32 × Int32 × Zc) ⊕ ((Int32 × Int32 × Zc) ⊕ (Zc))) :=
  some (.inl (x0, x1, x2, x3, (x4 + 1), c))
def g_Rows_compare_3 (nf : Nat) (x0 : Nat) (x1 : Int32) (x2 : Int32) (x3 : Int32) (x4 : Int32) (c : Zc) : Option ((Nat × Int32 × Int32 × Int32 × Int32 × Zc) ⊕ ((Int32 × Int32 × Zc) ⊕ (Zc))) :=
  (zgi c x0 9 1).bind fun v1 => if v1 ≤ x4 then (some (.inr (.inr c))) else ((zgr c x0 9 2).bind fun v3 => (zgi c x0 9 1).bind fun v4 => (zai c v3 0 ((x1 * v4) + x4)).bind fun v5 => (zgr c x0 9 2).bind fun v6 => (zgi c x0 9 1).bind fun v7 => (zai c v6 0 ((x2 * v7) + x4)).bind fun v8 => if v5 = v8 then (f_Rows_compare_73 nf x0 x1 x2 x3 x4 c) else (if ((x3 >>> (x4 &&& 31)) &&& 1) = 0 then (f_Rows_compare_73 nf x0 x1 x2 x3 x4 c) else (some (.inr (.inl (v5, v8, c))))))
def f_Rows_compare_72 (nf : Nat) (s0 : Int32) (c : Zc) : Option (Int32 × Zc) :=
  some (s0, c)
def f_Rows_compare_3 (nf : Nat) (x0 : Nat) (x1 : Int32) (x2 : Int32) (x3 : Int32) (x4 : Int32) (c : Zc) : Option (Int32 × Zc) :=
  (zlp (fun a => g_Rows_compare_3 nf a.1 a.2.1 a.2.2.1 a.2.2.2.1 a.2.2.2.2.1 a.2.2.2.2.2) nf (x0, x1, x2, x3, x4, c)).bind fun b => Sum.elim (fun b => if b.2.1 ≤ b.1 then (f_Rows_compare_72 nf 1 b.2.2) else (f_Rows_compare_72 nf (-1) b.2.2)) (fun b => some (0, b)) b
def f_Rows_compare (nf : Nat) (a0 : Nat) (a1 : Int32) (a2 : Int32) (a3 : Int32) (c : Zc) : Option (Int32 × Zc) :=
  f_Rows_compare_3 nf a0 a1 a2 a3 0 c
set_option maxRecDepth 100000 in
set_option maxHeartbeats 4000000 in
theorem t_Rows_compare_73  (X : zX p s m args cd D cid B bb_Rows_compare 7 rr_Rows zT) (H : zH s meth B n0 (some (.int)) "compare") {nf : Nat} {x0 : Nat} {x1 : Int32} {x2 : Int32} {x3 : Int32} {x4 : Int32} {c : Zc} {r : (Nat × Int32 × Int32 × Int32 × Int32 × Zc) ⊕ ((Int32 × Int32 × Zc) ⊕ (Zc))} (h : f_Rows_compare_73 nf x0 x1 x2 x3 x4 c = some r) (k0 : ∀ a, r = .inl a → (fun a : Nat × Int32 × Int32 × Int32 × Int32 × Zc => Zz p l e (zRm 0 0 0 0) s m args below meth cd Q D cid B 7 0 0 a.2.2.2.2.2 3 [(0, .ref a.1), (1, .int a.2.1), (2, .int a.2.2.1), (3, .int a.2.2.2.1), (4, .int a.2.2.2.2.1)] []) a) (k1 : ∀ b, r = .inr b → (fun b : (Int32 × Int32 × Zc) ⊕ (Zc) => Sum.elim (fun b => Zz p l e (zRm 0 0 0 0) s m args below meth cd Q D cid B 7 0 0 b.2.2 60 [(5, .int b.1), (6, .int b.2.1)] []) (fun b => Zz p l e (zRm 0 0 0 0) s m args below meth cd Q D cid B 7 0 0 b 79 [] []) b) b) : Zz p l e (zRm 0 0 0 0) s m args below meth cd Q D cid B 7 0 0 c 73 [(0, .ref x0), (1, .int x1), (2, .int x2), (3, .int x3), (4, .int x4)] [] := by
  unfold f_Rows_compare_73 at h
  refine z_iinc (v := (x4 + 1)) (lv' := [(4, .int (x4 + 1)), (0, .ref x0), (1, .int x1), (2, .int x2), (3, .int x3)]) X dd_Rows_compare_73 4 rfl rfl (by decide) rfl ?_
  refine z_goto (tgt := 3) X dd_Rows_compare_76 (by decide) ?_
  refine z_sub [1, 2, 3, 4, 0] rfl ?_
  obtain rfl := Option.some.inj h
  exact k0 _ rfl
set_option maxRecDepth 100000 in
set_option maxHeartbeats 4000000 in
theorem u_Rows_compare_3  (X : zX p s m args cd D cid B bb_Rows_compare 7 rr_Rows zT) (H : zH s meth B n0 (some (.int)) "compare") {nf : Nat} {x0 : Nat} {x1 : Int32} {x2 : Int32} {x3 : Int32} {x4 : Int32} {c : Zc} {r : (Nat × Int32 × Int32 × Int32 × Int32 × Zc) ⊕ ((Int32 × Int32 × Zc) ⊕ (Zc))} (h : g_Rows_compare_3 nf x0 x1 x2 x3 x4 c = some r) (k0 : ∀ a, r = .inl a → (fun a : Nat × Int32 × Int32 × Int32 × Int32 × Zc => Zz p l e (zRm 0 0 0 0) s m args below meth cd Q D cid B 7 0 0 a.2.2.2.2.2 3 [(0, .ref a.1), (1, .int a.2.1), (2, .int a.2.2.1), (3, .int a.2.2.2.1), (4, .int a.2.2.2.2.1)] []) a) (k1 : ∀ b, r = .inr b → (fun b : (Int32 × Int32 × Zc) ⊕ (Zc) => Sum.elim (fun b => Zz p l e (zRm 0 0 0 0) s m args below meth cd Q D cid B 7 0 0 b.2.2 60 [(5, .int b.1), (6, .int b.2.1)] []) (fun b => Zz p l e (zRm 0 0 0 0) s m args below meth cd Q D cid B 7 0 0 b 79 [] []) b) b) : Zz p l e (zRm 0 0 0 0) s m args below meth cd Q D cid B 7 0 0 c 3 [(0, .ref x0), (1, .int x1), (2, .int x2), (3, .int x3), (4, .int x4)] [] := by
  unfold g_Rows_compare_3 at h
  refine z_iload X dd_Rows_compare_3 4 rfl ?_
  refine z_aload_n X dd_Rows_compare_5 rfl 0 rfl ?_
  obtain ⟨v1, ev1, h⟩ := zb h
  refine z_get (j := 1) X dd_Rows_compare_6 kc_9 ki_9 (by decide) km_657 (zgi_v ev1) ?_
  refine z_icmp_ge (tgt := 79) X dd_Rows_compare_9 (by decide) (fun q2 => ?_) (fun q2 => ?_)
  · rw [if_pos q2] at h
    refine z_sub [] rfl ?_
    obtain rfl := Option.some.inj h
    exact k1 _ rfl
  · rw [if_neg q2] at h
    refine z_aload_n X dd_Rows_compare_12 rfl 0 rfl ?_
    obtain ⟨v3, ev3, h⟩ := zb h
    refine z_get (j := 2) X dd_Rows_compare_13 kc_9 ki_9 (by decide) km_659 (zgr_v ev3) ?_
    refine z_iload_n X dd_Rows_compare_16 rfl 1 rfl ?_
    refine z_aload_n X dd_Rows_compare_17 rfl 0 rfl ?_
    obtain ⟨v4, ev4, h⟩ := zb h
    refine z_get (j := 1) X dd_Rows_compare_18 kc_9 ki_9 (by decide) km_657 (zgi_v ev4) ?_
    refine z_imul X dd_Rows_compare_21 ?_
    refine z_iload X dd_Rows_compare_22 4 rfl ?_
    refine z_iadd X dd_Rows_compare_24 ?_
    obtain ⟨v5, ev5, h⟩ := zb h
    refine z_iaload X dd_Rows_compare_25 rfl ev5 ?_
    refine z_istore (lv' := [(5, .int v5), (0, .ref x0), (1, .int x1), (2, .int x2), (3, .int x3), (4, .int x4)]) X dd_Rows_compare_26 (by decide) rfl ?_
    refine z_aload_n X dd_Rows_compare_28 rfl 1 rfl ?_
    obtain ⟨v6, ev6, h⟩ := zb h
    refine z_get (j := 2) X dd_Rows_compare_29 kc_9 ki_9 (by decide) km_659 (zgr_v ev6) ?_
    refine z_iload_n X dd_Rows_compare_32 rfl 3 rfl ?_
    refine z_aload_n X dd_Rows_compare_33 rfl 1 rfl ?_
    obtain ⟨v7, ev7, h⟩ := zb h
    refine z_get (j := 1) X dd_Rows_compare_34 kc_9 ki_9 (by decide) km_657 (zgi_v ev7) ?_
    refine z_imul X dd_Rows_compare_37 ?_
    refine z_iload X dd_Rows_compare_38 5 rfl ?_
    refine z_iadd X dd_Rows_compare_40 ?_
    obtain ⟨v8, ev8, h⟩ := zb h
    refine z_iaload X dd_Rows_compare_41 rfl ev8 ?_
    refine z_istore (lv' := [(6, .int v8), (5, .int v5), (0, .ref x0), (1, .int x1), (2, .int x2), (3, .int x3), (4, .int x4)]) X dd_Rows_compare_42 (by decide) rfl ?_
    refine z_iload X dd_Rows_compare_44 1 rfl ?_
    refine z_iload X dd_Rows_compare_46 0 rfl ?_
    refine z_icmp_eq (tgt := 73) X dd_Rows_compare_48 (by decide) (fun q9 => ?_) (fun q9 => ?_)
    · rw [if_pos q9] at h
      refine z_sub [2, 3, 4, 5, 6] rfl ?_
      exact t_Rows_compare_73 X H h k0 k1
    · rw [if_neg q9] at h
      refine z_iload_n X dd_Rows_compare_51 rfl 5 rfl ?_
      refine z_iload X dd_Rows_compare_52 6 rfl ?_
      refine z_ishr X dd_Rows_compare_54 ?_
      refine z_iconst (v := 1) X dd_Rows_compare_55 (by decide) ?_
      refine z_iand X dd_Rows_compare_56 ?_
      refine z_if_eq (tgt := 73) X dd_Rows_compare_57 (by decide) (fun q10 => ?_) (fun q10 => ?_)
      · rw [if_pos q10] at h
        refine z_sub [2, 3, 4, 5, 6] rfl ?_
        exact t_Rows_compare_73 X H h k0 k1
      · rw [if_neg q10] at h
        refine z_sub [1, 0] rfl ?_
        obtain rfl := Option.some.inj h
        exact k1 _ rfl
set_option maxRecDepth 100000 in
set_option maxHeartbeats 4000000 in
theorem t_Rows_compare_72  (X : zX p s m args cd D cid B bb_Rows_compare 7 rr_Rows zT) (H : zH s meth B n0 (some (.int)) "compare") {nf : Nat} {s0 : Int32} {c : Zc} {res : Int32 × Zc} (h : f_Rows_compare_72 nf s0 c = some res) : Zz p l e (zRm 0 0 0 0) s m args below meth cd (MQ below (zQi D cid B res.1 res.2 n0 0) args s 0 0 (fun q => B ≤ q)) D cid B 7 0 0 c 72 [] [.int s0] := by
  unfold f_Rows_compare_72 at h
  obtain rfl := Option.some.inj h
  exact z_iret X H.1 H.2.1 H.2.2.1 dd_Rows_compare_72
set_option maxRecDepth 100000 in
set_option maxHeartbeats 4000000 in
theorem t_Rows_compare_3  (X : zX p s m args cd D cid B bb_Rows_compare 7 rr_Rows zT) (H : zH s meth B n0 (some (.int)) "compare") {nf : Nat} {x0 : Nat} {x1 : Int32} {x2 : Int32} {x3 : Int32} {x4 : Int32} {c : Zc} {res : Int32 × Zc} (h : f_Rows_compare_3 nf x0 x1 x2 x3 x4 c = some res) : Zz p l e (zRm 0 0 0 0) s m args below meth cd (MQ below (zQi D cid B res.1 res.2 n0 0) args s 0 0 (fun q => B ≤ q)) D cid B 7 0 0 c 3 [(0, .ref x0), (1, .int x1), (2, .int x2), (3, .int x3), (4, .int x4)] [] := by
  unfold f_Rows_compare_3 at h
  obtain ⟨b, eb, h⟩ := zb h
  refine zlp_ok (P := fun a : Nat × Int32 × Int32 × Int32 × Int32 × Zc => Zz p l e (zRm 0 0 0 0) s m args below meth cd _ D cid B 7 0 0 a.2.2.2.2.2 3 [(0, .ref a.1), (1, .int a.2.1), (2, .int a.2.2.1), (3, .int a.2.2.2.1), (4, .int a.2.2.2.2.1)] []) (G := fun b : (Int32 × Int32 × Zc) ⊕ (Zc) => Sum.elim (fun b => Zz p l e (zRm 0 0 0 0) s m args below meth cd _ D cid B 7 0 0 b.2.2 60 [(5, .int b.1), (6, .int b.2.1)] []) (fun b => Zz p l e (zRm 0 0 0 0) s m args below meth cd _ D cid B 7 0 0 b 79 [] []) b) (fun a r ha k0 k1 => u_Rows_compare_3 X H ha k0 k1) nf _ b eb ?_
  rcases b with b | b
  · simp only [Sum.elim_inl] at h ⊢
    refine z_iload X dd_Rows_compare_60 0 rfl ?_
    refine z_iload X dd_Rows_compare_62 1 rfl ?_
    refine z_icmp_ge (tgt := 71) X dd_Rows_compare_64 (by decide) (fun q11 => ?_) (fun q11 => ?_)
    · rw [if_pos q11] at h
      refine z_iconst (v := 1) X dd_Rows_compare_71 (by decide) ?_
      refine z_sub [] rfl ?_
      exact t_Rows_compare_72 X H h
    · rw [if_neg q11] at h
      refine z_iconst (v := (-1)) X dd_Rows_compare_67 (by decide) ?_
      refine z_goto (tgt := 72) X dd_Rows_compare_68 (by decide) ?_
      refine z_sub [] rfl ?_
      exact t_Rows_compare_72 X H h
  · simp only [Sum.elim_inr] at h ⊢
    refine z_iconst (v := 0) X dd_Rows_compare_79 (by decide) ?_
    obtain rfl := Option.some.inj h
    exact z_iret X H.1 H.2.1 H.2.2.1 dd_Rows_compare_80
set_option maxRecDepth 100000 in
set_option maxHeartbeats 4000000 in
theorem c_Rows_compare (l : Launch) {nf : Nat} {a0 : Nat} {a1 : Int32} {a2 : Int32} {a3 : Int32} {c : Zc} {res : Int32 × Zc} (h : f_Rows_compare nf a0 a1 a2 a3 c = some res) : zM l yy_Rows_compare ww_Rows_compare 0 0 0 0 [.ref a0, .int a1, .int a2, .int a3] c (fun D cid B => zQi D cid B res.1 res.2 c.length 0) := by
  refine z_met (cc := bb_Rows_compare) (maxL := 7) (ret := (some (.int))) (by decide +kernel) rfl (Nat.le_of_ble_eq_true rfl) ?_
  intro p e s m args below meth cd D cid B X h1 h2 h3 h4
  have X : zX p s m args cd D cid B bb_Rows_compare 7 rr_Rows zT := X
  have H : zH s meth B c.length (some (.int)) "compare" := ⟨h1, h2, h4, h3⟩
  unfold f_Rows_compare at h
  show Zz p l e (zRm 0 0 0 0) s m args below meth cd _ D cid B 7 0 0 c 0 [(0, .ref a0), (1, .int a1), (2, .int a2), (3, .int a3)] []
  refine z_iconst (v := 0) X dd_Rows_compare_0 (by decide) ?_
  refine z_istore (lv' := [(4, .int 0), (0, .ref a0), (1, .int a1), (2, .int a2), (3, .int a3)]) X dd_Rows_compare_1 (by decide) rfl ?_
  refine z_sub [1, 2, 3, 4, 0] rfl ?_
  exact t_Rows_compare_3 X H h
end ZzM
